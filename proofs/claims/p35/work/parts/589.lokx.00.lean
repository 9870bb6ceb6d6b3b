set_option maxHeartbeats 4000000 in
set_option maxRecDepth 100000 in
theorem t_findX_G (l : Launch) (G : g5_G) (a_t a_n : Nat) (sz : Nat) (e_n : Int32) (p_c : Int32) (p_v : Int32) (f_n : Nat → Int32) (h_e_n : 0 ≤ e_n.toInt ∧ e_n.toInt ≤ 6) : Met l yX6_find (wsG yX6_find cX6_find 4 (some .int)) ({ frames := 1, cells := 0, slots := 0, locals := 22 }) (va_Pc [.ref a_t, .int p_c, .int p_v] (g5_P G [(a_t, (oc6 6 5 a_n e_n)), (a_n, (arI G 30 f_n))] sz)) (va_Qi (fun (r : Int32) (u : va_W) => ((∀ r : Int, 0 ≤ r → r < e_n.toInt → tget f_n e_n.toInt 5 r p_c.toInt ≠ p_v) ∧ (r = (-1)) ∧ (u = [(a_t, (oc6 6 5 a_n e_n)), (a_n, (arI G 30 f_n))])) ∨ (∃ (o_r : Int32), (0 ≤ o_r.toInt ∧ o_r.toInt < e_n.toInt) ∧ (tget f_n e_n.toInt 5 o_r.toInt p_c.toInt = p_v) ∧ (∀ r : Int, 0 ≤ r → r < o_r.toInt → tget f_n e_n.toInt 5 r p_c.toInt ≠ p_v) ∧ (r = o_r) ∧ (u = [(a_t, (oc6 6 5 a_n e_n)), (a_n, (arI G 30 f_n))]))) (g5_B G (va_A [(a_t, (oc6 6 5 a_n e_n)), (a_n, (arI G 30 f_n))] sz)) (va_A [(a_t, (oc6 6 5 a_n e_n)), (a_n, (arI G 30 f_n))] sz)) 0 0 (va_A [(a_t, (oc6 6 5 a_n e_n)), (a_n, (arI G 30 f_n))] sz) := by
  refine Met.ofW (cc := cX6_find) (maxL := 4) (ret := (some .int)) (by decide +kernel) rfl ?_
  intro p e s m args below meth c s₁ B hml hv
  obtain ⟨rfl, hsz, hP, hK, hD0, hN, hT⟩ := hv
  have hx := B.exec
  have hb := B.bytes
  have hr := B.returns
  have hts : ∀ w ∈ tblG, w.before _ s = true := fun w h => atoms_spec (ws := (wsG yX6_find cX6_find 4 (some .int))) B.pre w (List.mem_cons_of_mem _ h)
  have hown : s.vm.findClass RX6 = some m.cls := findClass_of_methodNamed B.named
  have hlocks := B.notSynchronized
  subst hsz
  have hD := hD0.self (sz := s.heap.size)
  generalize hAe : va_A [(a_t, (oc6 6 5 a_n e_n)), (a_n, (arI G 30 f_n))] s.heap.size = A at hD hT ⊢
  have hA : ∀ q : Nat, s.heap.size ≤ q → A q := fun q h => by rw [← hAe]; exact Or.inr h
  have hS : va_S A s.heap s.heap [] := va_S.rf
  replace hP : va_P G.1 vwCl [(a_t, (oc6 6 5 a_n e_n)), (a_n, (arI G 30 f_n))] s.heap := hP
  have hl := lv_entry ([.ref a_t, .int p_c, .int p_v]) (n := 4) (Nat.le_of_ble_eq_true rfl)
  rw [lg_entry_eq]
  generalize (lg_sl ([.ref a_t, .int p_c, .int p_v]) ++ List.replicate (4 - (lg_sl ([.ref a_t, .int p_c, .int p_v])).length) Slot.unset).toArray = ls at hl ⊢
  replace hl : lv_has ls 4 [(0, .ref a_t), (1, .int p_c), (2, .int p_v)] := hl
  refine lv_iconst (v := 0) hx hb dX6_find_0 (by decide +kernel) ?_
  refine lv_istore_n (lv' := [(3, .int 0), (0, .ref a_t), (1, .int p_c), (2, .int p_v)]) hx hb dX6_find_1 rfl hl (by decide +kernel) rfl ?_
  clear hl
  intro ls hl
  refine g5_loop (α := (Int32)) (fun (k_r : (Int32)) (ls : Array Slot) (H : Heap) (locs : List Loc) => lv_has ls 4 [(3, .int k_r), (0, .ref a_t), (1, .int p_c), (2, .int p_v)] ∧ va_P G.1 vwCl [(a_t, (oc6 6 5 a_n e_n)), (a_n, (arI G 30 f_n))] H ∧ va_D A [(a_t, (oc6 6 5 a_n e_n)), (a_n, (arI G 30 f_n))] ∧ va_S A s.heap H locs ∧ (0 ≤ k_r.toInt ∧ k_r.toInt ≤ 6) ∧ (k_r.toInt ≤ e_n.toInt) ∧ (∀ r : Int, 0 ≤ r → r < k_r.toInt → tget f_n e_n.toInt 5 r p_c.toInt ≠ p_v)) (fun (k_r : (Int32)) => Int.toNat (6 - k_r.toInt)) 0 ⟨lv_sub hl [0, 1, 2, 3] rfl, hP, hD, hS, ⟨by decide, by decide⟩, by have z0 : (0 : Int32).toInt = 0 := (by decide +kernel); omega, fun r h1 h2 => absurd h2 (by have z : (0 : Int32).toInt = 0 := (by decide +kernel); omega)⟩ ?_
  rintro k_r ls H locs ⟨hl, hP, hD, hS, (i_1 : 0 ≤ k_r.toInt ∧ k_r.toInt ≤ 6), (i_2 : k_r.toInt ≤ e_n.toInt), (i_3 : ∀ r : Int, 0 ≤ r → r < k_r.toInt → tget f_n e_n.toInt 5 r p_c.toInt ≠ p_v)⟩ ih_2_4
  replace hl : lv_has ls 4 [(3, .int k_r), (0, .ref a_t), (1, .int p_c), (2, .int p_v)] := hl
  refine g5_rs [(a_t, (oc6 6 5 a_n e_n)), (a_n, (arI G 30 f_n))] hP hD ?_
  clear hP hD
  intro hP hD
  refine lv_iload_n hx hb dX6_find_2 rfl (lv_at hl 0 rfl) ?_
  refine lv_aload_n hx hb dX6_find_3 rfl (lv_at hl 1 rfl) ?_
  refine va_get (D := G.1) (ci := 6) (v := .int e_n) (C := RX6) (T := TX6) (N := 4) hx hb hts inG_X6 hown hK hP 0 rfl rfl 3 (by decide +kernel) (hts _ fl_X6_9) (fun _ h9 => h9) rfl dX6_find_4 ?_
  refine lv_icmp_ge (tgt := 28) hx hb dX6_find_7 (by decide +kernel) (fun c_5 => ?_) (fun c_5 => ?_)
  ·
    have i_5 : k_r.toInt ≥ e_n.toInt := g5_ge (a := k_r.toInt) (b := e_n.toInt) rfl rfl c_5
    refine lv_iconst (v := (-1)) hx hb dX6_find_28 (by decide +kernel) ?_
    exact W.iret (v := (-1)) hx hb hr (fun t ht hW => ⟨⟨(-1), [(a_t, (oc6 6 5 a_n e_n)), (a_n, (arI G 30 f_n))], rfl, Or.inl (⟨fun r h1 h2 => i_3 r h1 (by omega), rfl, rfl⟩), by rw [ht]; exact hP.sub [0, 1] rfl, hD.sub [0, 1] (by decide +kernel) rfl⟩, hS.F ht⟩) hS.2.2 dX6_find_29
  ·
    have i_5 : k_r.toInt < e_n.toInt := g5_geN (a := k_r.toInt) (b := e_n.toInt) rfl rfl c_5
    refine lv_aload_n hx hb dX6_find_10 rfl (lv_at hl 1 rfl) ?_
    refine lv_iload_n hx hb dX6_find_11 rfl (lv_at hl 0 rfl) ?_
    refine lv_iload_n hx hb dX6_find_12 rfl (lv_at hl 2 rfl) ?_
    obtain ⟨hPc, hDc, hFc⟩ := g5_sub3 (wc := [(a_t, (oc6 6 5 a_n e_n)), (a_n, (arI G 30 f_n))]) hP hD hS hA [0, 1] (by decide +kernel) rfl
    refine va_calli (va_runV (As := [.int k_r, .int p_c]) (rest := []) ⟨hx, hb, hml, hown, hts⟩ (t_get_G l G a_t a_n H.size e_n k_r p_c f_n h_e_n) (cwV 2 hts gV_X6_43 rfl rfl rfl hv_X6_get ⟨Nat.le_of_ble_eq_true rfl, Nat.le_of_ble_eq_true rfl⟩) (g5_preV hPc hK hDc hN hT hS hFc (ci := 6) (q0 := 0) rfl rfl) rfl rfl hl.1 rfl (lv_room (Nat.le_of_ble_eq_true rfl)) dX6_find_13 ⟨Nat.le_of_ble_eq_true rfl, Nat.le_of_ble_eq_true rfl⟩) hS (fun q _ h => hFc q h) hFc (fun r u t H locs ht hvm hw hB hz1 hk1 hS => ?_)
    obtain ⟨hP1, hD1⟩ := hB
    have hP1 := g5_ht ht hP1
    obtain ⟨z7, (i_6 : z7 = tget f_n e_n.toInt 5 k_r.toInt p_c.toInt), y8, rfl⟩ := hw
    have hJ9 := va_join (wr := []) hP hD [0, 1] [] rfl rfl (by decide +kernel) (by decide +kernel) hk1 hFc hP1 hD1
    clear hP hD hPc hDc hFc ht hvm hz1 hk1 hP1 hD1
    obtain ⟨hP, hD⟩ := hJ9
    refine g5_rs [(a_t, (oc6 6 5 a_n e_n)), (a_n, (arI G 30 f_n))] hP hD ?_
    clear hP hD
    intro hP hD
    refine g5_ti (v := z7) y8 ?_
    refine W.eq (g2 := F0 m 16 ls [.int z7]) rfl ?_
    refine lv_iload_n hx hb dX6_find_16 rfl (lv_at hl 3 rfl) ?_
    refine lv_icmp_ne (tgt := 22) hx hb dX6_find_17 (by decide +kernel) (fun c_9 => ?_) (fun c_9 => ?_)
    ·
      have n_9 : gNe (z7.toInt) (p_v.toInt) := g5_ne (a := z7.toInt) (b := p_v.toInt) rfl rfl c_9
      refine lv_iinc (v := (k_r + 1)) (lv' := [(3, .int (k_r + 1)), (0, .ref a_t), (1, .int p_c), (2, .int p_v)]) hx hb dX6_find_22 hl (k := 0) rfl rfl (by decide +kernel) rfl ?_
      clear hl
      intro ls hl
      have t_10 : (k_r + 1).toInt = k_r.toInt + 1 := g5_iadd (a := k_r.toInt) (b := 1) rfl (by decide +kernel) (by omega) (by omega)
      refine lv_goto (tgt := 2) hx hb dX6_find_25 (by decide +kernel) ?_
      exact ih_2_4 (k_r + 1) ls H locs (show Int.toNat (6 - (k_r + 1).toInt) < Int.toNat (6 - k_r.toInt) from g_up (show k_r.toInt < (k_r + 1).toInt by omega) (show k_r.toInt < 6 by omega)) ⟨lv_sub hl [0, 1, 2, 3] rfl, hP, hD, hS, ⟨by omega, by omega⟩, by omega, fun r h1 h2 => by rcases (show r < k_r.toInt ∨ r = k_r.toInt by omega) with q | q; exact i_3 r h1 q; rw [q, ← i_6]; intro q2; rw [q2] at n_9; exact absurd rfl n_9⟩
    ·
      have i_9 : z7.toInt = p_v.toInt := g5_neN (a := z7.toInt) (b := p_v.toInt) rfl rfl c_9
      refine lv_iload_n hx hb dX6_find_20 rfl (lv_at hl 0 rfl) ?_
      exact W.iret (v := k_r) hx hb hr (fun t ht hW => ⟨⟨k_r, [(a_t, (oc6 6 5 a_n e_n)), (a_n, (arI G 30 f_n))], rfl, Or.inr (⟨k_r, ⟨by omega, by omega⟩, by rw [← i_6]; exact Int32.toInt_inj.mp (by omega), i_3, rfl, rfl⟩), by rw [ht]; exact hP.sub [0, 1] rfl, hD.sub [0, 1] (by decide +kernel) rfl⟩, hS.F ht⟩) hS.2.2 dX6_find_21
set_option maxHeartbeats 4000000 in
set_option maxRecDepth 100000 in
theorem k_askX (l : Launch) (G : g5_G) (a_k a_j a_as a_h a_pt a_sk : Nat) (sz : Nat) (e_ln : Int32) (e_se : Int32) (e_lh : Int32) (e_br : Int32) (e_we : Int32) (e_me : Int32) (e_ce : Int32) (e_wy : Int32) (e_ho : Int32) (e_ov : Int32) (p_g : Int32) (p_b : Int32) (f_as : Nat → Int32) (h_e_br : 0 ≤ e_br.toInt ∧ e_br.toInt ≤ 1000000) (h_e_ce : 0 ≤ e_ce.toInt ∧ e_ce.toInt ≤ 63) (h_e_wy : 0 ≤ e_wy.toInt ∧ e_wy.toInt ≤ 3) (h_e_ho : 0 ≤ e_ho.toInt ∧ e_ho.toInt ≤ 23) (h_e_ov : 0 ≤ e_ov.toInt ∧ e_ov.toInt ≤ 1) : Met l yX5_ask (wsG yX5_ask cX5_ask 4 none) ({ frames := 0, cells := 0, slots := 0, locals := 0 }) (va_Pc [.ref a_k, .int p_g, .int p_b] (g5_P G [(a_k, (oc5 a_h a_j a_pt e_ln e_se e_lh e_br e_we e_me e_ce e_wy e_ho e_ov)), (a_j, (oc2 a_as a_sk)), (a_as, (arI G 8 f_as))] sz)) (va_Qv (fun (u : va_W) => (∃ (o_a : Nat → Int32), (∀ j : Nat, j < 8 → askQ p_g e_ce e_ho e_wy p_b e_ln e_br j = (o_a j).toInt64) ∧ (u = [(a_k, (oc5 a_h a_j a_pt e_ln e_se e_lh e_br e_we e_me e_ce e_wy e_ho e_ov)), (a_j, (oc2 a_as a_sk)), (a_as, (arI G 8 o_a))]))) (g5_B G (va_A [(a_k, (oc5 a_h a_j a_pt e_ln e_se e_lh e_br e_we e_me e_ce e_wy e_ho e_ov)), (a_j, (oc2 a_as a_sk)), (a_as, (arI G 8 f_as))] sz)) (va_A [(a_k, (oc5 a_h a_j a_pt e_ln e_se e_lh e_br e_we e_me e_ce e_wy e_ho e_ov)), (a_j, (oc2 a_as a_sk)), (a_as, (arI G 8 f_as))] sz)) 0 0 (va_A [(a_k, (oc5 a_h a_j a_pt e_ln e_se e_lh e_br e_we e_me e_ce e_wy e_ho e_ov)), (a_j, (oc2 a_as a_sk)), (a_as, (arI G 8 f_as))] sz) := by
  refine Met.ofW (cc := cX5_ask) (maxL := 4) (ret := none) (by decide +kernel) rfl ?_
  intro p e s m args below meth c s₁ B hml hv
  obtain ⟨rfl, hsz, hP, hK, hD0, hN, hT⟩ := hv
  have hx := B.exec
  have hb := B.bytes
  have hr := B.returns
  have hts : ∀ w ∈ tblG, w.before _ s = true := fun w h => atoms_spec (ws := (wsG yX5_ask cX5_ask 4 none)) B.pre w (List.mem_cons_of_mem _ h)
  have hown : s.vm.findClass RX5 = some m.cls := findClass_of_methodNamed B.named
  have hlocks := B.notSynchronized
  subst hsz
  have hD := hD0.self (sz := s.heap.size)
  generalize hAe : va_A [(a_k, (oc5 a_h a_j a_pt e_ln e_se e_lh e_br e_we e_me e_ce e_wy e_ho e_ov)), (a_j, (oc2 a_as a_sk)), (a_as, (arI G 8 f_as))] s.heap.size = A at hD hT ⊢
  have hA : ∀ q : Nat, s.heap.size ≤ q → A q := fun q h => by rw [← hAe]; exact Or.inr h
  have hS : va_S A s.heap s.heap [] := va_S.rf
  replace hP : va_P G.1 vwCl [(a_k, (oc5 a_h a_j a_pt e_ln e_se e_lh e_br e_we e_me e_ce e_wy e_ho e_ov)), (a_j, (oc2 a_as a_sk)), (a_as, (arI G 8 f_as))] s.heap := hP
  have hl := lv_entry ([.ref a_k, .int p_g, .int p_b]) (n := 4) (Nat.le_of_ble_eq_true rfl)
  rw [lg_entry_eq]
  generalize (lg_sl ([.ref a_k, .int p_g, .int p_b]) ++ List.replicate (4 - (lg_sl ([.ref a_k, .int p_g, .int p_b])).length) Slot.unset).toArray = ls at hl ⊢
  replace hl : lv_has ls 4 [(0, .ref a_k), (1, .int p_g), (2, .int p_b)] := hl
  refine lv_aload_n hx hb dX5_ask_0 rfl (lv_at hl 0 rfl) ?_
  refine va_get (D := G.1) (ci := 5) (v := .ref a_j) (C := RX5) (T := TX5) (N := 13) hx hb hts inG_X5 hown hK hP 0 rfl rfl 1 (by decide +kernel) (hts _ fl_X5_12) (fun _ h9 => h9) rfl dX5_ask_1 ?_
  refine va_get (D := G.1) (ci := 2) (v := .ref a_as) (C := RX2) (T := TX2) (N := 2) hx hb hts inG_X2 hown hK hP 1 rfl rfl 0 (by decide +kernel) (hts _ fl_X5_110) (fun _ h9 => h9) rfl dX5_ask_4 ?_
  refine lv_astore_n (lv' := [(3, .ref a_as), (0, .ref a_k), (1, .int p_g), (2, .int p_b)]) hx hb dX5_ask_7 rfl hl (by decide +kernel) rfl ?_
  clear hl
  intro ls hl
  refine W.eq (g2 := F0 m 8 ls []) rfl ?_
  refine lv_aload_n hx hb dX5_ask_8 rfl (lv_at hl 0 rfl) ?_
  refine lv_iconst (v := 0) hx hb dX5_ask_9 (by decide +kernel) ?_
  refine lv_iload_n hx hb dX5_ask_10 rfl (lv_at hl 2 rfl) ?_
  refine va_iast hx hb hK hP hD hS 2 0 rfl rfl (i := 0) (x := p_g) (by unfold vp_in; decide) dX5_ask_11 ?_
  clear hP hD hS
  intro H locs hP hD hS
  refine g5_rs [(a_k, (oc5 a_h a_j a_pt e_ln e_se e_lh e_br e_we e_me e_ce e_wy e_ho e_ov)), (a_j, (oc2 a_as a_sk)), (a_as, (arI G 8 (upd f_as 0 p_g)))] hP hD ?_
  clear hP hD
  intro hP hD
  refine lv_aload_n hx hb dX5_ask_12 rfl (lv_at hl 0 rfl) ?_
  refine W.eq (g2 := F0 m 13 ls [.ref a_as]) rfl ?_
  refine lv_iconst (v := 1) hx hb dX5_ask_13 (by decide +kernel) ?_
  refine lv_aload_n hx hb dX5_ask_14 rfl (lv_at hl 1 rfl) ?_
  refine va_get (D := G.1) (ci := 5) (v := .int e_ce) (C := RX5) (T := TX5) (N := 13) hx hb hts inG_X5 hown hK hP 0 rfl rfl 9 (by decide +kernel) (hts _ fl_X5_26) (fun _ h9 => h9) rfl dX5_ask_15 ?_
  refine lv_bipush (v := 7) hx hb dX5_ask_18 (by decide +kernel) ?_
  refine lv_iand hx hb dX5_ask_20 ?_
  have t_1 : (e_ce &&& 7).toInt = e_ce.toInt % 8 := g5_and7 (a := e_ce.toInt) rfl (by omega)
  refine W.eq (g2 := F0 m 21 ls [.int (e_ce &&& 7), .int 1, .ref a_as]) rfl ?_
  refine va_iast hx hb hK hP hD hS 2 0 rfl rfl (i := 1) (x := (e_ce &&& 7)) (by unfold vp_in; decide) dX5_ask_21 ?_
  clear hP hD hS
  intro H locs hP hD hS
  refine g5_rs [(a_k, (oc5 a_h a_j a_pt e_ln e_se e_lh e_br e_we e_me e_ce e_wy e_ho e_ov)), (a_j, (oc2 a_as a_sk)), (a_as, (arI G 8 (upd (upd f_as 0 p_g) 1 (e_ce &&& 7))))] hP hD ?_
  clear hP hD
  intro hP hD
  refine lv_aload_n hx hb dX5_ask_22 rfl (lv_at hl 0 rfl) ?_
  refine lv_iconst (v := 2) hx hb dX5_ask_23 (by decide +kernel) ?_
  refine lv_aload_n hx hb dX5_ask_24 rfl (lv_at hl 1 rfl) ?_
  refine va_get (D := G.1) (ci := 5) (v := .int e_ce) (C := RX5) (T := TX5) (N := 13) hx hb hts inG_X5 hown hK hP 0 rfl rfl 9 (by decide +kernel) (hts _ fl_X5_26) (fun _ h9 => h9) rfl dX5_ask_25 ?_
  refine W.eq (g2 := F0 m 28 ls [.int e_ce, .int 2, .ref a_as]) rfl ?_
  refine lv_iconst (v := 3) hx hb dX5_ask_28 (by decide +kernel) ?_
  refine lv_ishr hx hb dX5_ask_29 ?_
  refine va_iast hx hb hK hP hD hS 2 0 rfl rfl (i := 2) (x := (e_ce >>> (3 &&& 31))) (by unfold vp_in; decide) dX5_ask_30 ?_
  clear hP hD hS
  intro H locs hP hD hS
  refine g5_rs [(a_k, (oc5 a_h a_j a_pt e_ln e_se e_lh e_br e_we e_me e_ce e_wy e_ho e_ov)), (a_j, (oc2 a_as a_sk)), (a_as, (arI G 8 (upd (upd (upd f_as 0 p_g) 1 (e_ce &&& 7)) 2 (e_ce >>> (3 &&& 31)))))] hP hD ?_
  clear hP hD
  intro hP hD
  refine lv_aload_n hx hb dX5_ask_31 rfl (lv_at hl 0 rfl) ?_
  refine lv_iconst (v := 3) hx hb dX5_ask_32 (by decide +kernel) ?_
  refine W.eq (g2 := F0 m 33 ls [.int 3, .ref a_as]) rfl ?_
  refine lv_aload_n hx hb dX5_ask_33 rfl (lv_at hl 1 rfl) ?_
  refine va_get (D := G.1) (ci := 5) (v := .int e_ho) (C := RX5) (T := TX5) (N := 13) hx hb hts inG_X5 hown hK hP 0 rfl rfl 11 (by decide +kernel) (hts _ fl_X5_33) (fun _ h9 => h9) rfl dX5_ask_34 ?_
  refine va_iast hx hb hK hP hD hS 2 0 rfl rfl (i := 3) (x := e_ho) (by unfold vp_in; decide) dX5_ask_37 ?_
  clear hP hD hS
  intro H locs hP hD hS
  refine g5_rs [(a_k, (oc5 a_h a_j a_pt e_ln e_se e_lh e_br e_we e_me e_ce e_wy e_ho e_ov)), (a_j, (oc2 a_as a_sk)), (a_as, (arI G 8 (upd (upd (upd (upd f_as 0 p_g) 1 (e_ce &&& 7)) 2 (e_ce >>> (3 &&& 31))) 3 e_ho)))] hP hD ?_
  clear hP hD
  intro hP hD
  refine lv_aload_n hx hb dX5_ask_38 rfl (lv_at hl 0 rfl) ?_
  refine lv_iconst (v := 4) hx hb dX5_ask_39 (by decide +kernel) ?_
  refine W.eq (g2 := F0 m 40 ls [.int 4, .ref a_as]) rfl ?_
  refine lv_aload_n hx hb dX5_ask_40 rfl (lv_at hl 1 rfl) ?_
  refine va_get (D := G.1) (ci := 5) (v := .int e_wy) (C := RX5) (T := TX5) (N := 13) hx hb hts inG_X5 hown hK hP 0 rfl rfl 10 (by decide +kernel) (hts _ fl_X5_30) (fun _ h9 => h9) rfl dX5_ask_41 ?_
  refine va_iast hx hb hK hP hD hS 2 0 rfl rfl (i := 4) (x := e_wy) (by unfold vp_in; decide) dX5_ask_44 ?_
  clear hP hD hS
  intro H locs hP hD hS
  refine g5_rs [(a_k, (oc5 a_h a_j a_pt e_ln e_se e_lh e_br e_we e_me e_ce e_wy e_ho e_ov)), (a_j, (oc2 a_as a_sk)), (a_as, (arI G 8 (upd (upd (upd (upd (upd f_as 0 p_g) 1 (e_ce &&& 7)) 2 (e_ce >>> (3 &&& 31))) 3 e_ho) 4 e_wy)))] hP hD ?_
  clear hP hD
  intro hP hD
  refine lv_aload_n hx hb dX5_ask_45 rfl (lv_at hl 0 rfl) ?_
  refine lv_iconst (v := 5) hx hb dX5_ask_46 (by decide +kernel) ?_
  refine W.eq (g2 := F0 m 47 ls [.int 5, .ref a_as]) rfl ?_
  refine lv_iload_n hx hb dX5_ask_47 rfl (lv_at hl 3 rfl) ?_
  refine va_iast hx hb hK hP hD hS 2 0 rfl rfl (i := 5) (x := p_b) (by unfold vp_in; decide) dX5_ask_48 ?_
  clear hP hD hS
  intro H locs hP hD hS
  refine g5_rs [(a_k, (oc5 a_h a_j a_pt e_ln e_se e_lh e_br e_we e_me e_ce e_wy e_ho e_ov)), (a_j, (oc2 a_as a_sk)), (a_as, (arI G 8 (upd (upd (upd (upd (upd (upd f_as 0 p_g) 1 (e_ce &&& 7)) 2 (e_ce >>> (3 &&& 31))) 3 e_ho) 4 e_wy) 5 p_b)))] hP hD ?_
  clear hP hD
  intro hP hD
  refine lv_aload_n hx hb dX5_ask_49 rfl (lv_at hl 0 rfl) ?_
  refine lv_bipush (v := 6) hx hb dX5_ask_50 (by decide +kernel) ?_
  refine lv_aload_n hx hb dX5_ask_52 rfl (lv_at hl 1 rfl) ?_
  refine W.eq (g2 := F0 m 53 ls [.ref a_k, .int 6, .ref a_as]) rfl ?_
  refine va_get (D := G.1) (ci := 5) (v := .int e_ln) (C := RX5) (T := TX5) (N := 13) hx hb hts inG_X5 hown hK hP 0 rfl rfl 3 (by decide +kernel) (hts _ fl_X5_36) (fun _ h9 => h9) rfl dX5_ask_53 ?_
  refine va_iast hx hb hK hP hD hS 2 0 rfl rfl (i := 6) (x := e_ln) (by unfold vp_in; decide) dX5_ask_56 ?_
  clear hP hD hS
  intro H locs hP hD hS
  refine g5_rs [(a_k, (oc5 a_h a_j a_pt e_ln e_se e_lh e_br e_we e_me e_ce e_wy e_ho e_ov)), (a_j, (oc2 a_as a_sk)), (a_as, (arI G 8 (upd (upd (upd (upd (upd (upd (upd f_as 0 p_g) 1 (e_ce &&& 7)) 2 (e_ce >>> (3 &&& 31))) 3 e_ho) 4 e_wy) 5 p_b) 6 e_ln)))] hP hD ?_
  clear hP hD
  intro hP hD
  refine lv_aload_n hx hb dX5_ask_57 rfl (lv_at hl 0 rfl) ?_
  refine lv_bipush (v := 7) hx hb dX5_ask_58 (by decide +kernel) ?_
  refine lv_aload_n hx hb dX5_ask_60 rfl (lv_at hl 1 rfl) ?_
  refine W.eq (g2 := F0 m 61 ls [.ref a_k, .int 7, .ref a_as]) rfl ?_
  refine va_get (D := G.1) (ci := 5) (v := .int e_br) (C := RX5) (T := TX5) (N := 13) hx hb hts inG_X5 hown hK hP 0 rfl rfl 6 (by decide +kernel) (hts _ fl_X5_46) (fun _ h9 => h9) rfl dX5_ask_61 ?_
  refine lv_sipush (v := 1000) hx hb dX5_ask_64 (by decide +kernel) ?_
  refine lv_idiv hx hb dX5_ask_67 (by decide +kernel) ?_
  have t_2 : (e_br / 1000).toInt = e_br.toInt / 1000 := g5_idiv (a := e_br.toInt) (b := 1000) rfl (by decide +kernel) (by omega) (by decide +kernel)
  refine va_iast hx hb hK hP hD hS 2 0 rfl rfl (i := 7) (x := (e_br / 1000)) (by unfold vp_in; decide) dX5_ask_68 ?_
  clear hP hD hS
  intro H locs hP hD hS
  refine g5_rs [(a_k, (oc5 a_h a_j a_pt e_ln e_se e_lh e_br e_we e_me e_ce e_wy e_ho e_ov)), (a_j, (oc2 a_as a_sk)), (a_as, (arI G 8 (upd (upd (upd (upd (upd (upd (upd (upd f_as 0 p_g) 1 (e_ce &&& 7)) 2 (e_ce >>> (3 &&& 31))) 3 e_ho) 4 e_wy) 5 p_b) 6 e_ln) 7 (e_br / 1000))))] hP hD ?_
  clear hP hD
  intro hP hD
  exact W.vret hx hb hr (fun t ht hW => ⟨⟨[(a_k, (oc5 a_h a_j a_pt e_ln e_se e_lh e_br e_we e_me e_ce e_wy e_ho e_ov)), (a_j, (oc2 a_as a_sk)), (a_as, (arI G 8 (upd (upd (upd (upd (upd (upd (upd (upd f_as 0 p_g) 1 (e_ce &&& 7)) 2 (e_ce >>> (3 &&& 31))) 3 e_ho) 4 e_wy) 5 p_b) 6 e_ln) 7 (e_br / 1000))))], rfl, ⟨(upd (upd (upd (upd (upd (upd (upd (upd f_as 0 p_g) 1 (e_ce &&& 7)) 2 (e_ce >>> (3 &&& 31))) 3 e_ho) 4 e_wy) 5 p_b) 6 e_ln) 7 (e_br / 1000)), ask_c (by omega) (by omega), rfl⟩, by rw [ht]; exact hP.sub [0, 1, 2] rfl, hD.sub [0, 1, 2] (by decide +kernel) rfl⟩, hS.F ht⟩) hS.2.2 dX5_ask_69
set_option maxHeartbeats 4000000 in
set_option maxRecDepth 100000 in
theorem k_meetBodiesXN (l : Launch) (G : g5_G) (a_k a_h a_b a_bn a_j a_as a_sk a_l a_pt a_g a_s a_p a_w a_bb : Nat) (sz : Nat) (e_ln : Int32) (e_se : Int32) (e_lh : Int32) (e_br : Int32) (e_we : Int32) (e_me : Int32) (e_ce : Int32) (e_wy : Int32) (e_ho : Int32) (e_ov : Int32) (e_le : Int32) (e_st : Int32) (e_fo : Int32) (e_lc : Int32) (e_b : Int32) (e_wa : Int64) (e_gb : Int64) (f_b : Nat → Int32) (f_as : Nat → Int32) (f_sk : Nat → Int64) (f_l : Nat → Option Nat) (f_ro : Nat → Int32) (g_w : Option (List CLT)) (h_e_br : 0 ≤ e_br.toInt ∧ e_br.toInt ≤ 1000000) (h_e_ce : 0 ≤ e_ce.toInt ∧ e_ce.toInt ≤ 63) (h_e_wy : 0 ≤ e_wy.toInt ∧ e_wy.toInt ≤ 3) (h_e_ho : 0 ≤ e_ho.toInt ∧ e_ho.toInt ≤ 23) (h_e_ov : 0 ≤ e_ov.toInt ∧ e_ov.toInt ≤ 1) (h_e_b : 0 ≤ e_b.toInt ∧ e_b.toInt ≤ 5) (e_f : e_fo.toInt < 0 ∨ e_lc.toInt ≤ e_fo.toInt) (e_w : g_w = none) (e_f1 : f_ro 1 = e_b) (e_ht : HTb 110 24 24 e_b.toInt f_b f_ro) : Met l yX5_meetBodies (wsG yX5_meetBodies cX5_meetBodies 3 none) ({ frames := 1, cells := 0, slots := 0, locals := 23 }) (va_Pc [.ref a_k] (g5_P G [(a_k, (oc5 a_h a_j a_pt e_ln e_se e_lh e_br e_we e_me e_ce e_wy e_ho e_ov)), (a_h, (oc1 e_wa e_le e_st e_fo e_lc a_l a_g a_b a_s a_p a_w e_gb a_bb)), (a_b, (oc6 5 24 a_bn e_b)), (a_bn, (arI G 120 f_b)), (a_j, (oc2 a_as a_sk)), (a_as, (arI G 8 f_as)), (a_sk, (arJ G 50 f_sk)), (a_l, (arW G 6 f_l))] sz)) (va_Qv (fun (u : va_W) => (∃ (o_s : Int32) (o_a : Nat → Int32) (o_k : Nat → Int64), (0 ≤ o_s.toInt ∧ o_s.toInt ≤ 4) ∧ (o_s = seenF f_ro g_w e_ce e_ho e_wy e_ln e_br) ∧ (u = [(a_k, (oc5 a_h a_j a_pt e_ln o_s e_lh e_br e_we e_me e_ce e_wy e_ho 1)), (a_h, (oc1 e_wa e_le e_st e_fo e_lc a_l a_g a_b a_s a_p a_w e_gb a_bb)), (a_b, (oc6 5 24 a_bn e_b)), (a_bn, (arI G 120 f_b)), (a_j, (oc2 a_as a_sk)), (a_as, (arI G 8 o_a)), (a_sk, (arJ G 50 o_k)), (a_l, (arW G 6 f_l))])) ∨ (∃ (o_a : Nat → Int32) (o_k : Nat → Int64), (seenF f_ro g_w e_ce e_ho e_wy e_ln e_br = -1) ∧ (u = [(a_k, (oc5 a_h a_j a_pt e_ln e_se e_lh e_br e_we e_me e_ce e_wy e_ho e_ov)), (a_h, (oc1 e_wa e_le e_st e_fo e_lc a_l a_g a_b a_s a_p a_w e_gb a_bb)), (a_b, (oc6 5 24 a_bn e_b)), (a_bn, (arI G 120 f_b)), (a_j, (oc2 a_as a_sk)), (a_as, (arI G 8 o_a)), (a_sk, (arJ G 50 o_k)), (a_l, (arW G 6 f_l))]))) (g5_B G (va_A [(a_k, (oc5 a_h a_j a_pt e_ln e_se e_lh e_br e_we e_me e_ce e_wy e_ho e_ov)), (a_h, (oc1 e_wa e_le e_st e_fo e_lc a_l a_g a_b a_s a_p a_w e_gb a_bb)), (a_b, (oc6 5 24 a_bn e_b)), (a_bn, (arI G 120 f_b)), (a_j, (oc2 a_as a_sk)), (a_as, (arI G 8 f_as)), (a_sk, (arJ G 50 f_sk)), (a_l, (arW G 6 f_l))] sz)) (va_A [(a_k, (oc5 a_h a_j a_pt e_ln e_se e_lh e_br e_we e_me e_ce e_wy e_ho e_ov)), (a_h, (oc1 e_wa e_le e_st e_fo e_lc a_l a_g a_b a_s a_p a_w e_gb a_bb)), (a_b, (oc6 5 24 a_bn e_b)), (a_bn, (arI G 120 f_b)), (a_j, (oc2 a_as a_sk)), (a_as, (arI G 8 f_as)), (a_sk, (arJ G 50 f_sk)), (a_l, (arW G 6 f_l))] sz)) 0 0 (va_A [(a_k, (oc5 a_h a_j a_pt e_ln e_se e_lh e_br e_we e_me e_ce e_wy e_ho e_ov)), (a_h, (oc1 e_wa e_le e_st e_fo e_lc a_l a_g a_b a_s a_p a_w e_gb a_bb)), (a_b, (oc6 5 24 a_bn e_b)), (a_bn, (arI G 120 f_b)), (a_j, (oc2 a_as a_sk)), (a_as, (arI G 8 f_as)), (a_sk, (arJ G 50 f_sk)), (a_l, (arW G 6 f_l))] sz) := by
  refine Met.ofW (cc := cX5_meetBodies) (maxL := 3) (ret := none) (by decide +kernel) rfl ?_
  intro p e s m args below meth c s₁ B hml hv
  obtain ⟨rfl, hsz, hP, hK, hD0, hN, hT⟩ := hv
  have hx := B.exec
  have hb := B.bytes
  have hr := B.returns
  have hts : ∀ w ∈ tblG, w.before _ s = true := fun w h => atoms_spec (ws := (wsG yX5_meetBodies cX5_meetBodies 3 none)) B.pre w (List.mem_cons_of_mem _ h)
  have hown : s.vm.findClass RX5 = some m.cls := findClass_of_methodNamed B.named
  have hlocks := B.notSynchronized
  subst hsz
  have hD := hD0.self (sz := s.heap.size)
  generalize hAe : va_A [(a_k, (oc5 a_h a_j a_pt e_ln e_se e_lh e_br e_we e_me e_ce e_wy e_ho e_ov)), (a_h, (oc1 e_wa e_le e_st e_fo e_lc a_l a_g a_b a_s a_p a_w e_gb a_bb)), (a_b, (oc6 5 24 a_bn e_b)), (a_bn, (arI G 120 f_b)), (a_j, (oc2 a_as a_sk)), (a_as, (arI G 8 f_as)), (a_sk, (arJ G 50 f_sk)), (a_l, (arW G 6 f_l))] s.heap.size = A at hD hT ⊢
  have hA : ∀ q : Nat, s.heap.size ≤ q → A q := fun q h => by rw [← hAe]; exact Or.inr h
  have hS : va_S A s.heap s.heap [] := va_S.rf
  replace hP : va_P G.1 vwCl [(a_k, (oc5 a_h a_j a_pt e_ln e_se e_lh e_br e_we e_me e_ce e_wy e_ho e_ov)), (a_h, (oc1 e_wa e_le e_st e_fo e_lc a_l a_g a_b a_s a_p a_w e_gb a_bb)), (a_b, (oc6 5 24 a_bn e_b)), (a_bn, (arI G 120 f_b)), (a_j, (oc2 a_as a_sk)), (a_as, (arI G 8 f_as)), (a_sk, (arJ G 50 f_sk)), (a_l, (arW G 6 f_l))] s.heap := hP
  have hl := lv_entry ([.ref a_k]) (n := 3) (Nat.le_of_ble_eq_true rfl)
  rw [lg_entry_eq]
  generalize (lg_sl ([.ref a_k]) ++ List.replicate (3 - (lg_sl ([.ref a_k])).length) Slot.unset).toArray = ls at hl ⊢
  replace hl : lv_has ls 3 [(0, .ref a_k)] := hl
  have hf1 : (f_ro 1).toInt = e_b.toInt := by rw [e_f1]
  refine lv_aload_n hx hb dX5_meetBodies_0 rfl (lv_at hl 0 rfl) ?_
  refine va_get (D := G.1) (ci := 5) (v := .ref a_h) (C := RX5) (T := TX5) (N := 13) hx hb hts inG_X5 hown hK hP 0 rfl rfl 0 (by decide +kernel) (hts _ fl_X5_22) (fun _ h9 => h9) rfl dX5_meetBodies_1 ?_
  obtain ⟨hPc, hDc, hFc⟩ := g5_sub3 (wc := [(a_h, (oc1 e_wa e_le e_st e_fo e_lc a_l a_g a_b a_s a_p a_w e_gb a_bb)), (a_l, (arW G 6 f_l))]) hP hD hS hA [1, 7] (by decide +kernel) rfl
  refine va_callq (va_runV (As := []) (rest := []) ⟨hx, hb, hml, hown, hts⟩ (h_lawN l G a_h a_l a_g a_b a_s a_p a_w a_bb s.heap.size e_le e_st e_fo e_lc e_wa e_gb f_l (e_f)) (cwV 0 hts gV_X5_113 rfl rfl rfl hv_X1_lawInForce ⟨Nat.le_of_ble_eq_true rfl, Nat.le_of_ble_eq_true rfl⟩) (g5_preV hPc hK hDc hN hT hS hFc (ci := 1) (q0 := 0) rfl rfl) rfl rfl hl.1 rfl (lv_room (Nat.le_of_ble_eq_true rfl)) dX5_meetBodies_4 ⟨Nat.le_of_ble_eq_true rfl, Nat.le_of_ble_eq_true rfl⟩) hS (fun q _ h => hFc q h) hFc (fun r u t H locs ht hvm hw hB hz1 hk1 hS => ?_)
  obtain ⟨hP1, hD1⟩ := hB
  have hP1 := g5_ht ht hP1
  obtain ⟨rfl, rfl⟩ := hw
  have hJ9 := va_join (wr := [(a_k, (oc5 a_h a_j a_pt e_ln e_se e_lh e_br e_we e_me e_ce e_wy e_ho e_ov)), (a_b, (oc6 5 24 a_bn e_b)), (a_bn, (arI G 120 f_b)), (a_j, (oc2 a_as a_sk)), (a_as, (arI G 8 f_as)), (a_sk, (arJ G 50 f_sk))]) hP hD [1, 7] [0, 2, 3, 4, 5, 6] rfl rfl (by decide +kernel) (by decide +kernel) hk1 hFc hP1 hD1
  clear hP hD hPc hDc hFc ht hvm hz1 hk1 hP1 hD1
  obtain ⟨hP, hD⟩ := hJ9
  refine g5_rs [(a_k, (oc5 a_h a_j a_pt e_ln e_se e_lh e_br e_we e_me e_ce e_wy e_ho e_ov)), (a_b, (oc6 5 24 a_bn e_b)), (a_bn, (arI G 120 f_b)), (a_j, (oc2 a_as a_sk)), (a_as, (arI G 8 f_as)), (a_sk, (arJ G 50 f_sk)), (a_h, (oc1 e_wa e_le e_st e_fo e_lc a_l a_g a_b a_s a_p a_w e_gb a_bb)), (a_l, (arW G 6 f_l))] hP hD ?_
  clear hP hD
  intro hP hD
  refine g5_tv (v := .null) rfl ?_
  refine lv_astore_nN (lv' := [(1, .null), (0, .ref a_k)]) hx hb dX5_meetBodies_7 rfl hl (by decide +kernel) rfl ?_
  clear hl
  intro ls hl
  refine W.eq (g2 := F0 m 8 ls []) rfl ?_
  refine lv_iconst (v := 0) hx hb dX5_meetBodies_8 (by decide +kernel) ?_
  refine lv_istore_n (lv' := [(2, .int 0), (1, .null), (0, .ref a_k)]) hx hb dX5_meetBodies_9 rfl hl (by decide +kernel) rfl ?_
  clear hl
  intro ls hl
  refine g5_loop (α := (Int32) × (Nat → Int32) × (Nat → Int64)) (fun (q : (Int32) × (Nat → Int32) × (Nat → Int64)) (ls : Array Slot) (H : Heap) (locs : List Loc) => match q with | (k_b, k_a, k_k) => lv_has ls 3 [(2, .int k_b), (1, .null), (0, .ref a_k)] ∧ va_P G.1 vwCl [(a_k, (oc5 a_h a_j a_pt e_ln e_se e_lh e_br e_we e_me e_ce e_wy e_ho e_ov)), (a_b, (oc6 5 24 a_bn e_b)), (a_bn, (arI G 120 f_b)), (a_j, (oc2 a_as a_sk)), (a_as, (arI G 8 k_a)), (a_sk, (arJ G 50 k_k)), (a_h, (oc1 e_wa e_le e_st e_fo e_lc a_l a_g a_b a_s a_p a_w e_gb a_bb)), (a_l, (arW G 6 f_l))] H ∧ va_D A [(a_k, (oc5 a_h a_j a_pt e_ln e_se e_lh e_br e_we e_me e_ce e_wy e_ho e_ov)), (a_b, (oc6 5 24 a_bn e_b)), (a_bn, (arI G 120 f_b)), (a_j, (oc2 a_as a_sk)), (a_as, (arI G 8 k_a)), (a_sk, (arJ G 50 k_k)), (a_h, (oc1 e_wa e_le e_st e_fo e_lc a_l a_g a_b a_s a_p a_w e_gb a_bb)), (a_l, (arW G 6 f_l))] ∧ va_S A s.heap H locs ∧ (0 ≤ k_b.toInt ∧ k_b.toInt ≤ 5) ∧ (k_b.toInt ≤ e_b.toInt) ∧ (BDA f_ro g_w e_ce e_ho e_wy e_ln e_br k_b)) (fun (q : (Int32) × (Nat → Int32) × (Nat → Int64)) => match q with | (k_b, k_a, k_k) => Int.toNat (5 - k_b.toInt)) (0, f_as, f_sk) ⟨lv_sub hl [0, 1, 2] rfl, hP, hD, hS, ⟨by decide, by decide⟩, by have z0 : (0 : Int32).toInt = 0 := (by decide +kernel); omega, bda_0 (by decide +kernel)⟩ ?_
  rintro ⟨k_b, k_a, k_k⟩ ls H locs ⟨hl, hP, hD, hS, (i_1 : 0 ≤ k_b.toInt ∧ k_b.toInt ≤ 5), (i_2 : k_b.toInt ≤ e_b.toInt), (i_3 : BDA f_ro g_w e_ce e_ho e_wy e_ln e_br k_b)⟩ ih_10_4
  replace hl : lv_has ls 3 [(2, .int k_b), (1, .null), (0, .ref a_k)] := hl
  refine g5_rs [(a_k, (oc5 a_h a_j a_pt e_ln e_se e_lh e_br e_we e_me e_ce e_wy e_ho e_ov)), (a_b, (oc6 5 24 a_bn e_b)), (a_bn, (arI G 120 f_b)), (a_j, (oc2 a_as a_sk)), (a_as, (arI G 8 k_a)), (a_sk, (arJ G 50 k_k)), (a_h, (oc1 e_wa e_le e_st e_fo e_lc a_l a_g a_b a_s a_p a_w e_gb a_bb)), (a_l, (arW G 6 f_l))] hP hD ?_
  clear hP hD
  intro hP hD
  refine lv_iload_n hx hb dX5_meetBodies_10 rfl (lv_at hl 0 rfl) ?_
  refine lv_aload_n hx hb dX5_meetBodies_11 rfl (lv_at hl 2 rfl) ?_
  refine va_get (D := G.1) (ci := 5) (v := .ref a_h) (C := RX5) (T := TX5) (N := 13) hx hb hts inG_X5 hown hK hP 0 rfl rfl 0 (by decide +kernel) (hts _ fl_X5_22) (fun _ h9 => h9) rfl dX5_meetBodies_12 ?_
  refine va_get (D := G.1) (ci := 1) (v := .ref a_b) (C := RX1) (T := TX1) (N := 13) hx hb hts inG_X1 hown hK hP 6 rfl rfl 7 (by decide +kernel) (hts _ fl_X5_117) (fun _ h9 => h9) rfl dX5_meetBodies_15 ?_
  refine W.eq (g2 := F0 m 18 ls [.ref a_b, .int k_b]) rfl ?_
  refine va_get (D := G.1) (ci := 6) (v := .int e_b) (C := RX6) (T := TX6) (N := 4) hx hb hts inG_X6 hown hK hP 1 rfl rfl 3 (by decide +kernel) (hts _ fl_X5_102) (fun _ h9 => h9) rfl dX5_meetBodies_18 ?_
  refine lv_icmp_ge (tgt := 81) hx hb dX5_meetBodies_21 (by decide +kernel) (fun c_5 => ?_) (fun c_5 => ?_)
  ·
    have i_5 : k_b.toInt ≥ e_b.toInt := g5_ge (a := k_b.toInt) (b := e_b.toInt) rfl rfl c_5
    exact W.vret hx hb hr (fun t ht hW => ⟨⟨[(a_k, (oc5 a_h a_j a_pt e_ln e_se e_lh e_br e_we e_me e_ce e_wy e_ho e_ov)), (a_h, (oc1 e_wa e_le e_st e_fo e_lc a_l a_g a_b a_s a_p a_w e_gb a_bb)), (a_b, (oc6 5 24 a_bn e_b)), (a_bn, (arI G 120 f_b)), (a_j, (oc2 a_as a_sk)), (a_as, (arI G 8 k_a)), (a_sk, (arJ G 50 k_k)), (a_l, (arW G 6 f_l))], rfl, Or.inr (⟨k_a, k_k, bda_e i_3 (by omega), rfl⟩), by rw [ht]; exact hP.sub [0, 6, 1, 2, 3, 4, 5, 7] rfl, hD.sub [0, 6, 1, 2, 3, 4, 5, 7] (by decide +kernel) rfl⟩, hS.F ht⟩) hS.2.2 dX5_meetBodies_81
  ·
    have i_5 : k_b.toInt < e_b.toInt := g5_geN (a := k_b.toInt) (b := e_b.toInt) rfl rfl c_5
    refine lv_aload_n hx hb dX5_meetBodies_24 rfl (lv_at hl 2 rfl) ?_
    refine va_get (D := G.1) (ci := 5) (v := .ref a_h) (C := RX5) (T := TX5) (N := 13) hx hb hts inG_X5 hown hK hP 0 rfl rfl 0 (by decide +kernel) (hts _ fl_X5_22) (fun _ h9 => h9) rfl dX5_meetBodies_25 ?_
    refine va_get (D := G.1) (ci := 1) (v := .ref a_b) (C := RX1) (T := TX1) (N := 13) hx hb hts inG_X1 hown hK hP 6 rfl rfl 7 (by decide +kernel) (hts _ fl_X5_117) (fun _ h9 => h9) rfl dX5_meetBodies_28 ?_
    refine lv_iload_n hx hb dX5_meetBodies_31 rfl (lv_at hl 0 rfl) ?_
    refine W.eq (g2 := F0 m 32 ls [.int k_b, .ref a_b]) rfl ?_
    refine lv_aload_n hx hb dX5_meetBodies_32 rfl (lv_at hl 2 rfl) ?_
    refine va_get (D := G.1) (ci := 5) (v := .int e_ho) (C := RX5) (T := TX5) (N := 13) hx hb hts inG_X5 hown hK hP 0 rfl rfl 11 (by decide +kernel) (hts _ fl_X5_33) (fun _ h9 => h9) rfl dX5_meetBodies_33 ?_
    obtain ⟨hPc, hDc, hFc⟩ := g5_sub3 (wc := [(a_b, (oc6 5 24 a_bn e_b)), (a_bn, (arI G 120 f_b))]) hP hD hS hA [1, 2] (by decide +kernel) rfl
    refine va_calli (va_runV (As := [.int k_b, .int e_ho]) (rest := []) ⟨hx, hb, hml, hown, hts⟩ (t_get_B l G a_b a_bn H.size e_b k_b e_ho f_b h_e_b) (cwV 2 hts gV_X5_107 rfl rfl rfl hv_X6_get ⟨Nat.le_of_ble_eq_true rfl, Nat.le_of_ble_eq_true rfl⟩) (g5_preV hPc hK hDc hN hT hS hFc (ci := 6) (q0 := 0) rfl rfl) rfl rfl hl.1 rfl (lv_room (Nat.le_of_ble_eq_true rfl)) dX5_meetBodies_36 ⟨Nat.le_of_ble_eq_true rfl, Nat.le_of_ble_eq_true rfl⟩) hS (fun q _ h => hFc q h) hFc (fun r u t H locs ht hvm hw hB hz1 hk1 hS => ?_)
    obtain ⟨hP1, hD1⟩ := hB
    have hP1 := g5_ht ht hP1
    obtain ⟨z7, (i_6 : z7 = tget f_b e_b.toInt 24 k_b.toInt e_ho.toInt), y8, rfl⟩ := hw
    have hJ9 := va_join (wr := [(a_k, (oc5 a_h a_j a_pt e_ln e_se e_lh e_br e_we e_me e_ce e_wy e_ho e_ov)), (a_j, (oc2 a_as a_sk)), (a_as, (arI G 8 k_a)), (a_sk, (arJ G 50 k_k)), (a_h, (oc1 e_wa e_le e_st e_fo e_lc a_l a_g a_b a_s a_p a_w e_gb a_bb)), (a_l, (arW G 6 f_l))]) hP hD [1, 2] [0, 3, 4, 5, 6, 7] rfl rfl (by decide +kernel) (by decide +kernel) hk1 hFc hP1 hD1
    clear hP hD hPc hDc hFc ht hvm hz1 hk1 hP1 hD1
    obtain ⟨hP, hD⟩ := hJ9
    refine g5_rs [(a_k, (oc5 a_h a_j a_pt e_ln e_se e_lh e_br e_we e_me e_ce e_wy e_ho e_ov)), (a_j, (oc2 a_as a_sk)), (a_as, (arI G 8 k_a)), (a_sk, (arJ G 50 k_k)), (a_h, (oc1 e_wa e_le e_st e_fo e_lc a_l a_g a_b a_s a_p a_w e_gb a_bb)), (a_l, (arW G 6 f_l)), (a_b, (oc6 5 24 a_bn e_b)), (a_bn, (arI G 120 f_b))] hP hD ?_
    clear hP hD
    intro hP hD
    refine g5_ti (v := z7) y8 ?_
    refine lv_aload_n hx hb dX5_meetBodies_39 rfl (lv_at hl 2 rfl) ?_
    refine va_get (D := G.1) (ci := 5) (v := .int e_ce) (C := RX5) (T := TX5) (N := 13) hx hb hts inG_X5 hown hK hP 0 rfl rfl 9 (by decide +kernel) (hts _ fl_X5_26) (fun _ h9 => h9) rfl dX5_meetBodies_40 ?_
    refine W.eq (g2 := F0 m 43 ls [.int e_ce, .int z7]) rfl ?_
    refine lv_icmp_ne (tgt := 75) hx hb dX5_meetBodies_43 (by decide +kernel) (fun c_9 => ?_) (fun c_9 => ?_)
    ·
      have n_9 : gNe (z7.toInt) (e_ce.toInt) := g5_ne (a := z7.toInt) (b := e_ce.toInt) rfl rfl c_9
      refine lv_iinc (v := (k_b + 1)) (lv' := [(2, .int (k_b + 1)), (1, .null), (0, .ref a_k)]) hx hb dX5_meetBodies_75 hl (k := 0) rfl rfl (by decide +kernel) rfl ?_
      clear hl
      intro ls hl
      have t_10 : (k_b + 1).toInt = k_b.toInt + 1 := g5_iadd (a := k_b.toInt) (b := 1) rfl (by decide +kernel) (by omega) (by omega)
      refine lv_goto (tgt := 10) hx hb dX5_meetBodies_78 (by decide +kernel) ?_
      exact ih_10_4 ((k_b + 1), k_a, k_k) ls H locs (show Int.toNat (5 - (k_b + 1).toInt) < Int.toNat (5 - k_b.toInt) from g_up (show k_b.toInt < (k_b + 1).toInt by omega) (show k_b.toInt < 5 by omega)) ⟨lv_sub hl [0, 1, 2] rfl, hP.sub [0, 6, 7, 1, 2, 3, 4, 5] rfl, hD.sub [0, 6, 7, 1, 2, 3, 4, 5] (by decide +kernel) rfl, hS, ⟨by omega, by omega⟩, by omega, bda_n i_3 (by omega) (by omega) (Or.inl (by rw [bd_col e_ht (by omega) (by omega) i_6]; exact fun q9 => by have q8 := congrArg Int32.toInt q9; unfold gNe at *; omega))⟩
    ·
      have i_9 : z7.toInt = e_ce.toInt := g5_neN (a := z7.toInt) (b := e_ce.toInt) rfl rfl c_9
      refine lv_aload_n hx hb dX5_meetBodies_46 rfl (lv_at hl 2 rfl) ?_
      refine lv_iconst (v := (-1)) hx hb dX5_meetBodies_47 (by decide +kernel) ?_
      refine lv_iload_n hx hb dX5_meetBodies_48 rfl (lv_at hl 0 rfl) ?_
      obtain ⟨hPc, hDc, hFc⟩ := g5_sub3 (wc := [(a_k, (oc5 a_h a_j a_pt e_ln e_se e_lh e_br e_we e_me e_ce e_wy e_ho e_ov)), (a_j, (oc2 a_as a_sk)), (a_as, (arI G 8 k_a))]) hP hD hS hA [0, 1, 2] (by decide +kernel) rfl
      refine va_callv (va_runV (As := [.int (-1), .int k_b]) (rest := []) ⟨hx, hb, hml, hown, hts⟩ (k_askX l G a_k a_j a_as a_h a_pt a_sk H.size e_ln e_se e_lh e_br e_we e_me e_ce e_wy e_ho e_ov (-1) k_b k_a h_e_br h_e_ce h_e_wy h_e_ho h_e_ov) (cwV 2 hts gV_X5_120 rfl rfl rfl hv_X5_ask ⟨Nat.le_of_ble_eq_true rfl, Nat.le_of_ble_eq_true rfl⟩) (g5_preV hPc hK hDc hN hT hS hFc (ci := 5) (q0 := 0) rfl rfl) rfl rfl hl.1 rfl (lv_room (Nat.le_of_ble_eq_true rfl)) dX5_meetBodies_49 ⟨Nat.le_of_ble_eq_true rfl, Nat.le_of_ble_eq_true rfl⟩) hS (fun q _ h => hFc q h) hFc (fun u t H locs ht hvm hw hB hz1 hk1 hS => ?_)
      obtain ⟨hP1, hD1⟩ := hB
      have hP1 := g5_ht ht hP1
      obtain ⟨z12, (i_11 : ∀ j : Nat, j < 8 → askQ ((-1) : Int32) e_ce e_ho e_wy k_b e_ln e_br j = (z12 j).toInt64), rfl⟩ := hw
      have hJ9 := va_join (wr := [(a_sk, (arJ G 50 k_k)), (a_h, (oc1 e_wa e_le e_st e_fo e_lc a_l a_g a_b a_s a_p a_w e_gb a_bb)), (a_l, (arW G 6 f_l)), (a_b, (oc6 5 24 a_bn e_b)), (a_bn, (arI G 120 f_b))]) hP hD [0, 1, 2] [3, 4, 5, 6, 7] rfl rfl (by decide +kernel) (by decide +kernel) hk1 hFc hP1 hD1
      clear hP hD hPc hDc hFc ht hvm hz1 hk1 hP1 hD1
      obtain ⟨hP, hD⟩ := hJ9
      refine g5_rs [(a_sk, (arJ G 50 k_k)), (a_h, (oc1 e_wa e_le e_st e_fo e_lc a_l a_g a_b a_s a_p a_w e_gb a_bb)), (a_l, (arW G 6 f_l)), (a_b, (oc6 5 24 a_bn e_b)), (a_bn, (arI G 120 f_b)), (a_k, (oc5 a_h a_j a_pt e_ln e_se e_lh e_br e_we e_me e_ce e_wy e_ho e_ov)), (a_j, (oc2 a_as a_sk)), (a_as, (arI G 8 z12))] hP hD ?_
      clear hP hD
      intro hP hD
      refine W.eq (g2 := F0 m 52 ls []) rfl ?_
      refine lv_aload_n hx hb dX5_meetBodies_52 rfl (lv_at hl 2 rfl) ?_
      refine va_get (D := G.1) (ci := 5) (v := .ref a_j) (C := RX5) (T := TX5) (N := 13) hx hb hts inG_X5 hown hK hP 5 rfl rfl 1 (by decide +kernel) (hts _ fl_X5_12) (fun _ h9 => h9) rfl dX5_meetBodies_53 ?_
      refine lv_aload_nN hx hb dX5_meetBodies_56 rfl (lv_at hl 1 rfl) ?_
      refine lv_iconst (v := 3) hx hb dX5_meetBodies_57 (by decide +kernel) ?_
      obtain ⟨hPc, hDc, hFc⟩ := g5_sub3 (wc := [(a_j, (oc2 a_as a_sk)), (a_as, (arI G 8 z12)), (a_sk, (arJ G 50 k_k))]) hP hD hS hA [6, 7, 0] (by decide +kernel) rfl
      refine va_calli (va_runV (As := [.null, .int 3]) (rest := []) ⟨hx, hb, hml, hown, hts⟩ (j_isHeldN l G a_j a_as a_sk H.size 3 z12 k_k) (cwV 2 hts gV_X5_124 rfl rfl rfl hv_X2_isHeld ⟨Nat.le_of_ble_eq_true rfl, Nat.le_of_ble_eq_true rfl⟩) (g5_preV hPc hK hDc hN hT hS hFc (ci := 2) (q0 := 0) rfl rfl) rfl rfl hl.1 rfl (lv_room (Nat.le_of_ble_eq_true rfl)) dX5_meetBodies_58 ⟨Nat.le_of_ble_eq_true rfl, Nat.le_of_ble_eq_true rfl⟩) hS (fun q _ h => hFc q h) hFc (fun r u t H locs ht hvm hw hB hz1 hk1 hS => ?_)
      obtain ⟨hP1, hD1⟩ := hB
      have hP1 := g5_ht ht hP1
      obtain ⟨rfl, rfl⟩ := hw
      have hJ9 := va_join (wr := [(a_h, (oc1 e_wa e_le e_st e_fo e_lc a_l a_g a_b a_s a_p a_w e_gb a_bb)), (a_l, (arW G 6 f_l)), (a_b, (oc6 5 24 a_bn e_b)), (a_bn, (arI G 120 f_b)), (a_k, (oc5 a_h a_j a_pt e_ln e_se e_lh e_br e_we e_me e_ce e_wy e_ho e_ov))]) hP hD [6, 7, 0] [1, 2, 3, 4, 5] rfl rfl (by decide +kernel) (by decide +kernel) hk1 hFc hP1 hD1
      clear hP hD hPc hDc hFc ht hvm hz1 hk1 hP1 hD1
      obtain ⟨hP, hD⟩ := hJ9
      refine g5_rs [(a_h, (oc1 e_wa e_le e_st e_fo e_lc a_l a_g a_b a_s a_p a_w e_gb a_bb)), (a_l, (arW G 6 f_l)), (a_b, (oc6 5 24 a_bn e_b)), (a_bn, (arI G 120 f_b)), (a_k, (oc5 a_h a_j a_pt e_ln e_se e_lh e_br e_we e_me e_ce e_wy e_ho e_ov)), (a_j, (oc2 a_as a_sk)), (a_as, (arI G 8 z12)), (a_sk, (arJ G 50 k_k))] hP hD ?_
      clear hP hD
      intro hP hD
      refine W.eq (g2 := F0 m 61 ls [.int 0]) rfl ?_
      refine lv_if_ne (tgt := 75) hx hb dX5_meetBodies_61 (by decide +kernel) (fun c_13 => ?_) (fun c_13 => ?_)
      ·
        exact absurd c_13 (by decide +kernel)
      ·
        refine lv_aload_n hx hb dX5_meetBodies_64 rfl (lv_at hl 2 rfl) ?_
        refine lv_iload_n hx hb dX5_meetBodies_65 rfl (lv_at hl 0 rfl) ?_
        refine va_put (D := G.1) (ci := 5) (v := .int k_b) (ty := .int) (C := RX5) (T := TX5) (N := 13) hx hb hts inG_X5 tyX5 tyX5_ok nmX5 hown hK hP hD hS 4 rfl rfl 4 (by decide +kernel) (hts _ fl_X5_39) (fun _ h9 => h9) rfl (by decide +kernel) rfl rfl (Nat.le_of_ble_eq_true rfl) dX5_meetBodies_66 ?_
        clear hP hD hS
        intro H locs hP hD hS
        refine g5_rs [(a_h, (oc1 e_wa e_le e_st e_fo e_lc a_l a_g a_b a_s a_p a_w e_gb a_bb)), (a_l, (arW G 6 f_l)), (a_b, (oc6 5 24 a_bn e_b)), (a_bn, (arI G 120 f_b)), (a_k, (oc5 a_h a_j a_pt e_ln k_b e_lh e_br e_we e_me e_ce e_wy e_ho e_ov)), (a_j, (oc2 a_as a_sk)), (a_as, (arI G 8 z12)), (a_sk, (arJ G 50 k_k))] hP hD ?_
        clear hP hD
        intro hP hD
        refine lv_aload_n hx hb dX5_meetBodies_69 rfl (lv_at hl 2 rfl) ?_
        refine W.eq (g2 := F0 m 70 ls [.ref a_k]) rfl ?_
        refine lv_iconst (v := 1) hx hb dX5_meetBodies_70 (by decide +kernel) ?_
        refine va_put (D := G.1) (ci := 5) (v := .int 1) (ty := .boolean) (C := RX5) (T := TX5) (N := 13) hx hb hts inG_X5 tyX5 tyX5_ok nmX5 hown hK hP hD hS 4 rfl rfl 12 (by decide +kernel) (hts _ fl_X5_56) (fun _ h9 => h9) rfl (by decide +kernel) rfl rfl (Nat.le_of_ble_eq_true rfl) dX5_meetBodies_71 ?_
        clear hP hD hS
        intro H locs hP hD hS
        refine g5_rs [(a_h, (oc1 e_wa e_le e_st e_fo e_lc a_l a_g a_b a_s a_p a_w e_gb a_bb)), (a_l, (arW G 6 f_l)), (a_b, (oc6 5 24 a_bn e_b)), (a_bn, (arI G 120 f_b)), (a_k, (oc5 a_h a_j a_pt e_ln k_b e_lh e_br e_we e_me e_ce e_wy e_ho 1)), (a_j, (oc2 a_as a_sk)), (a_as, (arI G 8 z12)), (a_sk, (arJ G 50 k_k))] hP hD ?_
        clear hP hD
        intro hP hD
        exact W.vret hx hb hr (fun t ht hW => ⟨⟨[(a_k, (oc5 a_h a_j a_pt e_ln k_b e_lh e_br e_we e_me e_ce e_wy e_ho 1)), (a_h, (oc1 e_wa e_le e_st e_fo e_lc a_l a_g a_b a_s a_p a_w e_gb a_bb)), (a_b, (oc6 5 24 a_bn e_b)), (a_bn, (arI G 120 f_b)), (a_j, (oc2 a_as a_sk)), (a_as, (arI G 8 z12)), (a_sk, (arJ G 50 k_k)), (a_l, (arW G 6 f_l))], rfl, Or.inl (⟨k_b, z12, k_k, ⟨by omega, by omega⟩, (bda_y i_3 (by omega) (by rw [bd_col e_ht (by omega) (by omega) i_6]; exact Int32.toInt_inj.mp (by omega)) (tW_n e_w)).symm, rfl⟩), by rw [ht]; exact hP.sub [4, 0, 2, 3, 5, 6, 7, 1] rfl, hD.sub [4, 0, 2, 3, 5, 6, 7, 1] (by decide +kernel) rfl⟩, hS.F ht⟩) hS.2.2 dX5_meetBodies_74
set_option maxHeartbeats 4000000 in
set_option maxRecDepth 100000 in
theorem k_meetBodiesXL (l : Launch) (G : g5_G) (a_k a_h a_b a_bn a_j a_as a_sk a_l a_lo a_sr a_cd a_hd a_pt a_g a_s a_p a_w a_bb : Nat) (sz : Nat) (e_ln : Int32) (e_se : Int32) (e_lh : Int32) (e_br : Int32) (e_we : Int32) (e_me : Int32) (e_ce : Int32) (e_wy : Int32) (e_ho : Int32) (e_ov : Int32) (e_le : Int32) (e_st : Int32) (e_fo : Int32) (e_lc : Int32) (e_b : Int32) (e_cl : Int32) (e_wa : Int64) (e_gb : Int64) (f_b : Nat → Int32) (f_as : Nat → Int32) (f_sk : Nat → Int64) (f_l : Nat → Option Nat) (f_sr : Nat → Int32) (f_cd : Nat → Int32) (f_hd : Nat → Int32) (f_ro : Nat → Int32) (g_w : Option (List CLT)) (g_L : List CLT) (n_sr : Nat) (n_cd : Nat) (n_hd : Nat) (h_e_br : 0 ≤ e_br.toInt ∧ e_br.toInt ≤ 1000000) (h_e_ce : 0 ≤ e_ce.toInt ∧ e_ce.toInt ≤ 63) (h_e_wy : 0 ≤ e_wy.toInt ∧ e_wy.toInt ≤ 3) (h_e_ho : 0 ≤ e_ho.toInt ∧ e_ho.toInt ≤ 23) (h_e_ov : 0 ≤ e_ov.toInt ∧ e_ov.toInt ≤ 1) (h_e_b : 0 ≤ e_b.toInt ∧ e_b.toInt ≤ 5) (h_e_cl : 0 ≤ e_cl.toInt ∧ e_cl.toInt ≤ 12) (e_f : 0 ≤ e_fo.toInt ∧ e_fo.toInt < e_lc.toInt ∧ e_lc.toInt ≤ 6) (e_a : f_l e_fo.toNatClampNeg = some a_lo) (e_hn : n_cd ≤ 400) (e_hs : ∀ j : Nat, j < n_sr → 0 ≤ (f_sr j).toInt ∧ (f_sr j).toInt ≤ (n_cd : Int)) (e_hk : ∀ j : Nat, j < n_cd → (f_cd j >>> (12 &&& 31)).toInt = 1 → (f_cd j &&& 4095).toInt < 8) (e_c : (e_cl.toInt : Int) ≤ (n_hd : Int) ∧ (e_cl.toInt + 1 : Int) ≤ (n_sr : Int)) (e_w : g_w = some g_L) (e_lw : LWC f_hd f_sr f_cd g_L e_cl.toInt.toNat) (e_lv : lvC f_cd n_cd ≤ 50) (e_f1 : f_ro 1 = e_b) (e_ht : HTb 110 24 24 e_b.toInt f_b f_ro) : Met l yX5_meetBodies (wsG yX5_meetBodies cX5_meetBodies 3 none) ({ frames := 3, cells := 0, slots := 0, locals := 78 }) (va_Pc [.ref a_k] (g5_P G [(a_k, (oc5 a_h a_j a_pt e_ln e_se e_lh e_br e_we e_me e_ce e_wy e_ho e_ov)), (a_h, (oc1 e_wa e_le e_st e_fo e_lc a_l a_g a_b a_s a_p a_w e_gb a_bb)), (a_b, (oc6 5 24 a_bn e_b)), (a_bn, (arI G 120 f_b)), (a_j, (oc2 a_as a_sk)), (a_as, (arI G 8 f_as)), (a_sk, (arJ G 50 f_sk)), (a_l, (arW G 6 f_l)), (a_lo, (oc3 e_cl a_hd a_sr a_cd)), (a_sr, (arI G n_sr f_sr)), (a_cd, (arI G n_cd f_cd)), (a_hd, (arI G n_hd f_hd))] sz)) (va_Qv (fun (u : va_W) => (∃ (o_s : Int32) (o_a : Nat → Int32) (o_k : Nat → Int64), (0 ≤ o_s.toInt ∧ o_s.toInt ≤ 4) ∧ (o_s = seenF f_ro g_w e_ce e_ho e_wy e_ln e_br) ∧ (u = [(a_k, (oc5 a_h a_j a_pt e_ln o_s e_lh e_br e_we e_me e_ce e_wy e_ho 1)), (a_h, (oc1 e_wa e_le e_st e_fo e_lc a_l a_g a_b a_s a_p a_w e_gb a_bb)), (a_b, (oc6 5 24 a_bn e_b)), (a_bn, (arI G 120 f_b)), (a_j, (oc2 a_as a_sk)), (a_as, (arI G 8 o_a)), (a_sk, (arJ G 50 o_k)), (a_l, (arW G 6 f_l)), (a_lo, (oc3 e_cl a_hd a_sr a_cd)), (a_sr, (arI G n_sr f_sr)), (a_cd, (arI G n_cd f_cd)), (a_hd, (arI G n_hd f_hd))])) ∨ (∃ (o_a : Nat → Int32) (o_k : Nat → Int64), (seenF f_ro g_w e_ce e_ho e_wy e_ln e_br = -1) ∧ (u = [(a_k, (oc5 a_h a_j a_pt e_ln e_se e_lh e_br e_we e_me e_ce e_wy e_ho e_ov)), (a_h, (oc1 e_wa e_le e_st e_fo e_lc a_l a_g a_b a_s a_p a_w e_gb a_bb)), (a_b, (oc6 5 24 a_bn e_b)), (a_bn, (arI G 120 f_b)), (a_j, (oc2 a_as a_sk)), (a_as, (arI G 8 o_a)), (a_sk, (arJ G 50 o_k)), (a_l, (arW G 6 f_l)), (a_lo, (oc3 e_cl a_hd a_sr a_cd)), (a_sr, (arI G n_sr f_sr)), (a_cd, (arI G n_cd f_cd)), (a_hd, (arI G n_hd f_hd))]))) (g5_B G (va_A [(a_k, (oc5 a_h a_j a_pt e_ln e_se e_lh e_br e_we e_me e_ce e_wy e_ho e_ov)), (a_h, (oc1 e_wa e_le e_st e_fo e_lc a_l a_g a_b a_s a_p a_w e_gb a_bb)), (a_b, (oc6 5 24 a_bn e_b)), (a_bn, (arI G 120 f_b)), (a_j, (oc2 a_as a_sk)), (a_as, (arI G 8 f_as)), (a_sk, (arJ G 50 f_sk)), (a_l, (arW G 6 f_l)), (a_lo, (oc3 e_cl a_hd a_sr a_cd)), (a_sr, (arI G n_sr f_sr)), (a_cd, (arI G n_cd f_cd)), (a_hd, (arI G n_hd f_hd))] sz)) (va_A [(a_k, (oc5 a_h a_j a_pt e_ln e_se e_lh e_br e_we e_me e_ce e_wy e_ho e_ov)), (a_h, (oc1 e_wa e_le e_st e_fo e_lc a_l a_g a_b a_s a_p a_w e_gb a_bb)), (a_b, (oc6 5 24 a_bn e_b)), (a_bn, (arI G 120 f_b)), (a_j, (oc2 a_as a_sk)), (a_as, (arI G 8 f_as)), (a_sk, (arJ G 50 f_sk)), (a_l, (arW G 6 f_l)), (a_lo, (oc3 e_cl a_hd a_sr a_cd)), (a_sr, (arI G n_sr f_sr)), (a_cd, (arI G n_cd f_cd)), (a_hd, (arI G n_hd f_hd))] sz)) 0 0 (va_A [(a_k, (oc5 a_h a_j a_pt e_ln e_se e_lh e_br e_we e_me e_ce e_wy e_ho e_ov)), (a_h, (oc1 e_wa e_le e_st e_fo e_lc a_l a_g a_b a_s a_p a_w e_gb a_bb)), (a_b, (oc6 5 24 a_bn e_b)), (a_bn, (arI G 120 f_b)), (a_j, (oc2 a_as a_sk)), (a_as, (arI G 8 f_as)), (a_sk, (arJ G 50 f_sk)), (a_l, (arW G 6 f_l)), (a_lo, (oc3 e_cl a_hd a_sr a_cd)), (a_sr, (arI G n_sr f_sr)), (a_cd, (arI G n_cd f_cd)), (a_hd, (arI G n_hd f_hd))] sz) := by
  refine Met.ofW (cc := cX5_meetBodies) (maxL := 3) (ret := none) (by decide +kernel) rfl ?_
  intro p e s m args below meth c s₁ B hml hv
  obtain ⟨rfl, hsz, hP, hK, hD0, hN, hT⟩ := hv
  have hx := B.exec
  have hb := B.bytes
  have hr := B.returns
  have hts : ∀ w ∈ tblG, w.before _ s = true := fun w h => atoms_spec (ws := (wsG yX5_meetBodies cX5_meetBodies 3 none)) B.pre w (List.mem_cons_of_mem _ h)
  have hown : s.vm.findClass RX5 = some m.cls := findClass_of_methodNamed B.named
  have hlocks := B.notSynchronized
  subst hsz
  have hD := hD0.self (sz := s.heap.size)
  generalize hAe : va_A [(a_k, (oc5 a_h a_j a_pt e_ln e_se e_lh e_br e_we e_me e_ce e_wy e_ho e_ov)), (a_h, (oc1 e_wa e_le e_st e_fo e_lc a_l a_g a_b a_s a_p a_w e_gb a_bb)), (a_b, (oc6 5 24 a_bn e_b)), (a_bn, (arI G 120 f_b)), (a_j, (oc2 a_as a_sk)), (a_as, (arI G 8 f_as)), (a_sk, (arJ G 50 f_sk)), (a_l, (arW G 6 f_l)), (a_lo, (oc3 e_cl a_hd a_sr a_cd)), (a_sr, (arI G n_sr f_sr)), (a_cd, (arI G n_cd f_cd)), (a_hd, (arI G n_hd f_hd))] s.heap.size = A at hD hT ⊢
  have hA : ∀ q : Nat, s.heap.size ≤ q → A q := fun q h => by rw [← hAe]; exact Or.inr h
  have hS : va_S A s.heap s.heap [] := va_S.rf
  replace hP : va_P G.1 vwCl [(a_k, (oc5 a_h a_j a_pt e_ln e_se e_lh e_br e_we e_me e_ce e_wy e_ho e_ov)), (a_h, (oc1 e_wa e_le e_st e_fo e_lc a_l a_g a_b a_s a_p a_w e_gb a_bb)), (a_b, (oc6 5 24 a_bn e_b)), (a_bn, (arI G 120 f_b)), (a_j, (oc2 a_as a_sk)), (a_as, (arI G 8 f_as)), (a_sk, (arJ G 50 f_sk)), (a_l, (arW G 6 f_l)), (a_lo, (oc3 e_cl a_hd a_sr a_cd)), (a_sr, (arI G n_sr f_sr)), (a_cd, (arI G n_cd f_cd)), (a_hd, (arI G n_hd f_hd))] s.heap := hP
  have hl := lv_entry ([.ref a_k]) (n := 3) (Nat.le_of_ble_eq_true rfl)
  rw [lg_entry_eq]
  generalize (lg_sl ([.ref a_k]) ++ List.replicate (3 - (lg_sl ([.ref a_k])).length) Slot.unset).toArray = ls at hl ⊢
  replace hl : lv_has ls 3 [(0, .ref a_k)] := hl
  have hf1 : (f_ro 1).toInt = e_b.toInt := by rw [e_f1]
  refine lv_aload_n hx hb dX5_meetBodies_0 rfl (lv_at hl 0 rfl) ?_
  refine va_get (D := G.1) (ci := 5) (v := .ref a_h) (C := RX5) (T := TX5) (N := 13) hx hb hts inG_X5 hown hK hP 0 rfl rfl 0 (by decide +kernel) (hts _ fl_X5_22) (fun _ h9 => h9) rfl dX5_meetBodies_1 ?_
  obtain ⟨hPc, hDc, hFc⟩ := g5_sub3 (wc := [(a_h, (oc1 e_wa e_le e_st e_fo e_lc a_l a_g a_b a_s a_p a_w e_gb a_bb)), (a_l, (arW G 6 f_l))]) hP hD hS hA [1, 7] (by decide +kernel) rfl
  refine va_callq (va_runV (As := []) (rest := []) ⟨hx, hb, hml, hown, hts⟩ (h_lawL l G a_h a_l a_g a_b a_s a_p a_w a_bb a_lo s.heap.size e_le e_st e_fo e_lc e_wa e_gb f_l (e_f) (e_a)) (cwV 0 hts gV_X5_113 rfl rfl rfl hv_X1_lawInForce ⟨Nat.le_of_ble_eq_true rfl, Nat.le_of_ble_eq_true rfl⟩) (g5_preV hPc hK hDc hN hT hS hFc (ci := 1) (q0 := 0) rfl rfl) rfl rfl hl.1 rfl (lv_room (Nat.le_of_ble_eq_true rfl)) dX5_meetBodies_4 ⟨Nat.le_of_ble_eq_true rfl, Nat.le_of_ble_eq_true rfl⟩) hS (fun q _ h => hFc q h) hFc (fun r u t H locs ht hvm hw hB hz1 hk1 hS => ?_)
  obtain ⟨hP1, hD1⟩ := hB
  have hP1 := g5_ht ht hP1
  obtain ⟨rfl, rfl⟩ := hw
  have hJ9 := va_join (wr := [(a_k, (oc5 a_h a_j a_pt e_ln e_se e_lh e_br e_we e_me e_ce e_wy e_ho e_ov)), (a_b, (oc6 5 24 a_bn e_b)), (a_bn, (arI G 120 f_b)), (a_j, (oc2 a_as a_sk)), (a_as, (arI G 8 f_as)), (a_sk, (arJ G 50 f_sk)), (a_lo, (oc3 e_cl a_hd a_sr a_cd)), (a_sr, (arI G n_sr f_sr)), (a_cd, (arI G n_cd f_cd)), (a_hd, (arI G n_hd f_hd))]) hP hD [1, 7] [0, 2, 3, 4, 5, 6, 8, 9, 10, 11] rfl rfl (by decide +kernel) (by decide +kernel) hk1 hFc hP1 hD1
  clear hP hD hPc hDc hFc ht hvm hz1 hk1 hP1 hD1
  obtain ⟨hP, hD⟩ := hJ9
  refine g5_rs [(a_k, (oc5 a_h a_j a_pt e_ln e_se e_lh e_br e_we e_me e_ce e_wy e_ho e_ov)), (a_b, (oc6 5 24 a_bn e_b)), (a_bn, (arI G 120 f_b)), (a_j, (oc2 a_as a_sk)), (a_as, (arI G 8 f_as)), (a_sk, (arJ G 50 f_sk)), (a_lo, (oc3 e_cl a_hd a_sr a_cd)), (a_sr, (arI G n_sr f_sr)), (a_cd, (arI G n_cd f_cd)), (a_hd, (arI G n_hd f_hd)), (a_h, (oc1 e_wa e_le e_st e_fo e_lc a_l a_g a_b a_s a_p a_w e_gb a_bb)), (a_l, (arW G 6 f_l))] hP hD ?_
  clear hP hD
  intro hP hD
  refine g5_tv (v := .ref a_lo) rfl ?_
  refine lv_astore_n (lv' := [(1, .ref a_lo), (0, .ref a_k)]) hx hb dX5_meetBodies_7 rfl hl (by decide +kernel) rfl ?_
  clear hl
  intro ls hl
  refine W.eq (g2 := F0 m 8 ls []) rfl ?_
  refine lv_iconst (v := 0) hx hb dX5_meetBodies_8 (by decide +kernel) ?_
  refine lv_istore_n (lv' := [(2, .int 0), (1, .ref a_lo), (0, .ref a_k)]) hx hb dX5_meetBodies_9 rfl hl (by decide +kernel) rfl ?_
  clear hl
  intro ls hl
  refine g5_loop (α := (Int32) × (Nat → Int32) × (Nat → Int64)) (fun (q : (Int32) × (Nat → Int32) × (Nat → Int64)) (ls : Array Slot) (H : Heap) (locs : List Loc) => match q with | (k_b, k_a, k_k) => lv_has ls 3 [(2, .int k_b), (1, .ref a_lo), (0, .ref a_k)] ∧ va_P G.1 vwCl [(a_k, (oc5 a_h a_j a_pt e_ln e_se e_lh e_br e_we e_me e_ce e_wy e_ho e_ov)), (a_b, (oc6 5 24 a_bn e_b)), (a_bn, (arI G 120 f_b)), (a_j, (oc2 a_as a_sk)), (a_as, (arI G 8 k_a)), (a_sk, (arJ G 50 k_k)), (a_lo, (oc3 e_cl a_hd a_sr a_cd)), (a_sr, (arI G n_sr f_sr)), (a_cd, (arI G n_cd f_cd)), (a_hd, (arI G n_hd f_hd)), (a_h, (oc1 e_wa e_le e_st e_fo e_lc a_l a_g a_b a_s a_p a_w e_gb a_bb)), (a_l, (arW G 6 f_l))] H ∧ va_D A [(a_k, (oc5 a_h a_j a_pt e_ln e_se e_lh e_br e_we e_me e_ce e_wy e_ho e_ov)), (a_b, (oc6 5 24 a_bn e_b)), (a_bn, (arI G 120 f_b)), (a_j, (oc2 a_as a_sk)), (a_as, (arI G 8 k_a)), (a_sk, (arJ G 50 k_k)), (a_lo, (oc3 e_cl a_hd a_sr a_cd)), (a_sr, (arI G n_sr f_sr)), (a_cd, (arI G n_cd f_cd)), (a_hd, (arI G n_hd f_hd)), (a_h, (oc1 e_wa e_le e_st e_fo e_lc a_l a_g a_b a_s a_p a_w e_gb a_bb)), (a_l, (arW G 6 f_l))] ∧ va_S A s.heap H locs ∧ (0 ≤ k_b.toInt ∧ k_b.toInt ≤ 5) ∧ (k_b.toInt ≤ e_b.toInt) ∧ (BDA f_ro g_w e_ce e_ho e_wy e_ln e_br k_b)) (fun (q : (Int32) × (Nat → Int32) × (Nat → Int64)) => match q with | (k_b, k_a, k_k) => Int.toNat (5 - k_b.toInt)) (0, f_as, f_sk) ⟨lv_sub hl [0, 1, 2] rfl, hP, hD, hS, ⟨by decide, by decide⟩, by have z0 : (0 : Int32).toInt = 0 := (by decide +kernel); omega, bda_0 (by decide +kernel)⟩ ?_
  rintro ⟨k_b, k_a, k_k⟩ ls H locs ⟨hl, hP, hD, hS, (i_1 : 0 ≤ k_b.toInt ∧ k_b.toInt ≤ 5), (i_2 : k_b.toInt ≤ e_b.toInt), (i_3 : BDA f_ro g_w e_ce e_ho e_wy e_ln e_br k_b)⟩ ih_10_4
  replace hl : lv_has ls 3 [(2, .int k_b), (1, .ref a_lo), (0, .ref a_k)] := hl
  refine g5_rs [(a_k, (oc5 a_h a_j a_pt e_ln e_se e_lh e_br e_we e_me e_ce e_wy e_ho e_ov)), (a_b, (oc6 5 24 a_bn e_b)), (a_bn, (arI G 120 f_b)), (a_j, (oc2 a_as a_sk)), (a_as, (arI G 8 k_a)), (a_sk, (arJ G 50 k_k)), (a_lo, (oc3 e_cl a_hd a_sr a_cd)), (a_sr, (arI G n_sr f_sr)), (a_cd, (arI G n_cd f_cd)), (a_hd, (arI G n_hd f_hd)), (a_h, (oc1 e_wa e_le e_st e_fo e_lc a_l a_g a_b a_s a_p a_w e_gb a_bb)), (a_l, (arW G 6 f_l))] hP hD ?_
  clear hP hD
  intro hP hD
  refine lv_iload_n hx hb dX5_meetBodies_10 rfl (lv_at hl 0 rfl) ?_
  refine lv_aload_n hx hb dX5_meetBodies_11 rfl (lv_at hl 2 rfl) ?_
  refine va_get (D := G.1) (ci := 5) (v := .ref a_h) (C := RX5) (T := TX5) (N := 13) hx hb hts inG_X5 hown hK hP 0 rfl rfl 0 (by decide +kernel) (hts _ fl_X5_22) (fun _ h9 => h9) rfl dX5_meetBodies_12 ?_
  refine va_get (D := G.1) (ci := 1) (v := .ref a_b) (C := RX1) (T := TX1) (N := 13) hx hb hts inG_X1 hown hK hP 10 rfl rfl 7 (by decide +kernel) (hts _ fl_X5_117) (fun _ h9 => h9) rfl dX5_meetBodies_15 ?_
  refine W.eq (g2 := F0 m 18 ls [.ref a_b, .int k_b]) rfl ?_
  refine va_get (D := G.1) (ci := 6) (v := .int e_b) (C := RX6) (T := TX6) (N := 4) hx hb hts inG_X6 hown hK hP 1 rfl rfl 3 (by decide +kernel) (hts _ fl_X5_102) (fun _ h9 => h9) rfl dX5_meetBodies_18 ?_
  refine lv_icmp_ge (tgt := 81) hx hb dX5_meetBodies_21 (by decide +kernel) (fun c_5 => ?_) (fun c_5 => ?_)
  ·
    have i_5 : k_b.toInt ≥ e_b.toInt := g5_ge (a := k_b.toInt) (b := e_b.toInt) rfl rfl c_5
    exact W.vret hx hb hr (fun t ht hW => ⟨⟨[(a_k, (oc5 a_h a_j a_pt e_ln e_se e_lh e_br e_we e_me e_ce e_wy e_ho e_ov)), (a_h, (oc1 e_wa e_le e_st e_fo e_lc a_l a_g a_b a_s a_p a_w e_gb a_bb)), (a_b, (oc6 5 24 a_bn e_b)), (a_bn, (arI G 120 f_b)), (a_j, (oc2 a_as a_sk)), (a_as, (arI G 8 k_a)), (a_sk, (arJ G 50 k_k)), (a_l, (arW G 6 f_l)), (a_lo, (oc3 e_cl a_hd a_sr a_cd)), (a_sr, (arI G n_sr f_sr)), (a_cd, (arI G n_cd f_cd)), (a_hd, (arI G n_hd f_hd))], rfl, Or.inr (⟨k_a, k_k, bda_e i_3 (by omega), rfl⟩), by rw [ht]; exact hP.sub [0, 10, 1, 2, 3, 4, 5, 11, 6, 7, 8, 9] rfl, hD.sub [0, 10, 1, 2, 3, 4, 5, 11, 6, 7, 8, 9] (by decide +kernel) rfl⟩, hS.F ht⟩) hS.2.2 dX5_meetBodies_81
  ·
    have i_5 : k_b.toInt < e_b.toInt := g5_geN (a := k_b.toInt) (b := e_b.toInt) rfl rfl c_5
    refine lv_aload_n hx hb dX5_meetBodies_24 rfl (lv_at hl 2 rfl) ?_
    refine va_get (D := G.1) (ci := 5) (v := .ref a_h) (C := RX5) (T := TX5) (N := 13) hx hb hts inG_X5 hown hK hP 0 rfl rfl 0 (by decide +kernel) (hts _ fl_X5_22) (fun _ h9 => h9) rfl dX5_meetBodies_25 ?_
    refine va_get (D := G.1) (ci := 1) (v := .ref a_b) (C := RX1) (T := TX1) (N := 13) hx hb hts inG_X1 hown hK hP 10 rfl rfl 7 (by decide +kernel) (hts _ fl_X5_117) (fun _ h9 => h9) rfl dX5_meetBodies_28 ?_
    refine lv_iload_n hx hb dX5_meetBodies_31 rfl (lv_at hl 0 rfl) ?_
    refine W.eq (g2 := F0 m 32 ls [.int k_b, .ref a_b]) rfl ?_
    refine lv_aload_n hx hb dX5_meetBodies_32 rfl (lv_at hl 2 rfl) ?_
    refine va_get (D := G.1) (ci := 5) (v := .int e_ho) (C := RX5) (T := TX5) (N := 13) hx hb hts inG_X5 hown hK hP 0 rfl rfl 11 (by decide +kernel) (hts _ fl_X5_33) (fun _ h9 => h9) rfl dX5_meetBodies_33 ?_
    obtain ⟨hPc, hDc, hFc⟩ := g5_sub3 (wc := [(a_b, (oc6 5 24 a_bn e_b)), (a_bn, (arI G 120 f_b))]) hP hD hS hA [1, 2] (by decide +kernel) rfl
    refine va_calli (va_runV (As := [.int k_b, .int e_ho]) (rest := []) ⟨hx, hb, hml, hown, hts⟩ (t_get_B l G a_b a_bn H.size e_b k_b e_ho f_b h_e_b) (cwV 2 hts gV_X5_107 rfl rfl rfl hv_X6_get ⟨Nat.le_of_ble_eq_true rfl, Nat.le_of_ble_eq_true rfl⟩) (g5_preV hPc hK hDc hN hT hS hFc (ci := 6) (q0 := 0) rfl rfl) rfl rfl hl.1 rfl (lv_room (Nat.le_of_ble_eq_true rfl)) dX5_meetBodies_36 ⟨Nat.le_of_ble_eq_true rfl, Nat.le_of_ble_eq_true rfl⟩) hS (fun q _ h => hFc q h) hFc (fun r u t H locs ht hvm hw hB hz1 hk1 hS => ?_)
    obtain ⟨hP1, hD1⟩ := hB
    have hP1 := g5_ht ht hP1
    obtain ⟨z7, (i_6 : z7 = tget f_b e_b.toInt 24 k_b.toInt e_ho.toInt), y8, rfl⟩ := hw
    have hJ9 := va_join (wr := [(a_k, (oc5 a_h a_j a_pt e_ln e_se e_lh e_br e_we e_me e_ce e_wy e_ho e_ov)), (a_j, (oc2 a_as a_sk)), (a_as, (arI G 8 k_a)), (a_sk, (arJ G 50 k_k)), (a_lo, (oc3 e_cl a_hd a_sr a_cd)), (a_sr, (arI G n_sr f_sr)), (a_cd, (arI G n_cd f_cd)), (a_hd, (arI G n_hd f_hd)), (a_h, (oc1 e_wa e_le e_st e_fo e_lc a_l a_g a_b a_s a_p a_w e_gb a_bb)), (a_l, (arW G 6 f_l))]) hP hD [1, 2] [0, 3, 4, 5, 6, 7, 8, 9, 10, 11] rfl rfl (by decide +kernel) (by decide +kernel) hk1 hFc hP1 hD1
    clear hP hD hPc hDc hFc ht hvm hz1 hk1 hP1 hD1
    obtain ⟨hP, hD⟩ := hJ9
    refine g5_rs [(a_k, (oc5 a_h a_j a_pt e_ln e_se e_lh e_br e_we e_me e_ce e_wy e_ho e_ov)), (a_j, (oc2 a_as a_sk)), (a_as, (arI G 8 k_a)), (a_sk, (arJ G 50 k_k)), (a_lo, (oc3 e_cl a_hd a_sr a_cd)), (a_sr, (arI G n_sr f_sr)), (a_cd, (arI G n_cd f_cd)), (a_hd, (arI G n_hd f_hd)), (a_h, (oc1 e_wa e_le e_st e_fo e_lc a_l a_g a_b a_s a_p a_w e_gb a_bb)), (a_l, (arW G 6 f_l)), (a_b, (oc6 5 24 a_bn e_b)), (a_bn, (arI G 120 f_b))] hP hD ?_
    clear hP hD
    intro hP hD
    refine g5_ti (v := z7) y8 ?_
    refine lv_aload_n hx hb dX5_meetBodies_39 rfl (lv_at hl 2 rfl) ?_
    refine va_get (D := G.1) (ci := 5) (v := .int e_ce) (C := RX5) (T := TX5) (N := 13) hx hb hts inG_X5 hown hK hP 0 rfl rfl 9 (by decide +kernel) (hts _ fl_X5_26) (fun _ h9 => h9) rfl dX5_meetBodies_40 ?_
    refine W.eq (g2 := F0 m 43 ls [.int e_ce, .int z7]) rfl ?_
    refine lv_icmp_ne (tgt := 75) hx hb dX5_meetBodies_43 (by decide +kernel) (fun c_9 => ?_) (fun c_9 => ?_)
    ·
      have n_9 : gNe (z7.toInt) (e_ce.toInt) := g5_ne (a := z7.toInt) (b := e_ce.toInt) rfl rfl c_9
      refine lv_iinc (v := (k_b + 1)) (lv' := [(2, .int (k_b + 1)), (1, .ref a_lo), (0, .ref a_k)]) hx hb dX5_meetBodies_75 hl (k := 0) rfl rfl (by decide +kernel) rfl ?_
      clear hl
      intro ls hl
      have t_10 : (k_b + 1).toInt = k_b.toInt + 1 := g5_iadd (a := k_b.toInt) (b := 1) rfl (by decide +kernel) (by omega) (by omega)
      refine lv_goto (tgt := 10) hx hb dX5_meetBodies_78 (by decide +kernel) ?_
      exact ih_10_4 ((k_b + 1), k_a, k_k) ls H locs (show Int.toNat (5 - (k_b + 1).toInt) < Int.toNat (5 - k_b.toInt) from g_up (show k_b.toInt < (k_b + 1).toInt by omega) (show k_b.toInt < 5 by omega)) ⟨lv_sub hl [0, 1, 2] rfl, hP.sub [0, 10, 11, 1, 2, 3, 4, 5, 6, 7, 8, 9] rfl, hD.sub [0, 10, 11, 1, 2, 3, 4, 5, 6, 7, 8, 9] (by decide +kernel) rfl, hS, ⟨by omega, by omega⟩, by omega, bda_n i_3 (by omega) (by omega) (Or.inl (by rw [bd_col e_ht (by omega) (by omega) i_6]; exact fun q9 => by have q8 := congrArg Int32.toInt q9; unfold gNe at *; omega))⟩
    ·
      have i_9 : z7.toInt = e_ce.toInt := g5_neN (a := z7.toInt) (b := e_ce.toInt) rfl rfl c_9
      refine lv_aload_n hx hb dX5_meetBodies_46 rfl (lv_at hl 2 rfl) ?_
      refine lv_iconst (v := (-1)) hx hb dX5_meetBodies_47 (by decide +kernel) ?_
      refine lv_iload_n hx hb dX5_meetBodies_48 rfl (lv_at hl 0 rfl) ?_
      obtain ⟨hPc, hDc, hFc⟩ := g5_sub3 (wc := [(a_k, (oc5 a_h a_j a_pt e_ln e_se e_lh e_br e_we e_me e_ce e_wy e_ho e_ov)), (a_j, (oc2 a_as a_sk)), (a_as, (arI G 8 k_a))]) hP hD hS hA [0, 1, 2] (by decide +kernel) rfl
      refine va_callv (va_runV (As := [.int (-1), .int k_b]) (rest := []) ⟨hx, hb, hml, hown, hts⟩ (k_askX l G a_k a_j a_as a_h a_pt a_sk H.size e_ln e_se e_lh e_br e_we e_me e_ce e_wy e_ho e_ov (-1) k_b k_a h_e_br h_e_ce h_e_wy h_e_ho h_e_ov) (cwV 2 hts gV_X5_120 rfl rfl rfl hv_X5_ask ⟨Nat.le_of_ble_eq_true rfl, Nat.le_of_ble_eq_true rfl⟩) (g5_preV hPc hK hDc hN hT hS hFc (ci := 5) (q0 := 0) rfl rfl) rfl rfl hl.1 rfl (lv_room (Nat.le_of_ble_eq_true rfl)) dX5_meetBodies_49 ⟨Nat.le_of_ble_eq_true rfl, Nat.le_of_ble_eq_true rfl⟩) hS (fun q _ h => hFc q h) hFc (fun u t H locs ht hvm hw hB hz1 hk1 hS => ?_)
      obtain ⟨hP1, hD1⟩ := hB
      have hP1 := g5_ht ht hP1
      obtain ⟨z12, (i_11 : ∀ j : Nat, j < 8 → askQ ((-1) : Int32) e_ce e_ho e_wy k_b e_ln e_br j = (z12 j).toInt64), rfl⟩ := hw
      have hJ9 := va_join (wr := [(a_sk, (arJ G 50 k_k)), (a_lo, (oc3 e_cl a_hd a_sr a_cd)), (a_sr, (arI G n_sr f_sr)), (a_cd, (arI G n_cd f_cd)), (a_hd, (arI G n_hd f_hd)), (a_h, (oc1 e_wa e_le e_st e_fo e_lc a_l a_g a_b a_s a_p a_w e_gb a_bb)), (a_l, (arW G 6 f_l)), (a_b, (oc6 5 24 a_bn e_b)), (a_bn, (arI G 120 f_b))]) hP hD [0, 1, 2] [3, 4, 5, 6, 7, 8, 9, 10, 11] rfl rfl (by decide +kernel) (by decide +kernel) hk1 hFc hP1 hD1
      clear hP hD hPc hDc hFc ht hvm hz1 hk1 hP1 hD1
      obtain ⟨hP, hD⟩ := hJ9
      refine g5_rs [(a_sk, (arJ G 50 k_k)), (a_lo, (oc3 e_cl a_hd a_sr a_cd)), (a_sr, (arI G n_sr f_sr)), (a_cd, (arI G n_cd f_cd)), (a_hd, (arI G n_hd f_hd)), (a_h, (oc1 e_wa e_le e_st e_fo e_lc a_l a_g a_b a_s a_p a_w e_gb a_bb)), (a_l, (arW G 6 f_l)), (a_b, (oc6 5 24 a_bn e_b)), (a_bn, (arI G 120 f_b)), (a_k, (oc5 a_h a_j a_pt e_ln e_se e_lh e_br e_we e_me e_ce e_wy e_ho e_ov)), (a_j, (oc2 a_as a_sk)), (a_as, (arI G 8 z12))] hP hD ?_
      clear hP hD
      intro hP hD
      refine W.eq (g2 := F0 m 52 ls []) rfl ?_
      refine lv_aload_n hx hb dX5_meetBodies_52 rfl (lv_at hl 2 rfl) ?_
      refine va_get (D := G.1) (ci := 5) (v := .ref a_j) (C := RX5) (T := TX5) (N := 13) hx hb hts inG_X5 hown hK hP 9 rfl rfl 1 (by decide +kernel) (hts _ fl_X5_12) (fun _ h9 => h9) rfl dX5_meetBodies_53 ?_
      refine lv_aload_n hx hb dX5_meetBodies_56 rfl (lv_at hl 1 rfl) ?_
      refine lv_iconst (v := 3) hx hb dX5_meetBodies_57 (by decide +kernel) ?_
      obtain ⟨hPc, hDc, hFc⟩ := g5_sub3 (wc := [(a_j, (oc2 a_as a_sk)), (a_as, (arI G 8 z12)), (a_sk, (arJ G 50 k_k)), (a_lo, (oc3 e_cl a_hd a_sr a_cd)), (a_sr, (arI G n_sr f_sr)), (a_cd, (arI G n_cd f_cd)), (a_hd, (arI G n_hd f_hd))]) hP hD hS hA [10, 11, 0, 1, 2, 3, 4] (by decide +kernel) rfl
      refine va_calli (va_runV (As := [.ref a_lo, .int 3]) (rest := []) ⟨hx, hb, hml, hown, hts⟩ (j_isHeldX l G a_j a_as a_sk a_lo a_sr a_cd a_hd H.size 3 e_cl z12 k_k f_sr f_cd f_hd (askQ (-1) e_ce e_ho e_wy k_b e_ln e_br) g_L n_sr n_cd n_hd h_e_cl (e_hn) (e_hs) (e_hk) (e_c) (i_11) (e_lw) (e_lv)) (cwV 2 hts gV_X5_124 rfl rfl rfl hv_X2_isHeld ⟨Nat.le_of_ble_eq_true rfl, Nat.le_of_ble_eq_true rfl⟩) (g5_preV hPc hK hDc hN hT hS hFc (ci := 2) (q0 := 0) rfl rfl) rfl rfl hl.1 rfl (lv_room (Nat.le_of_ble_eq_true rfl)) dX5_meetBodies_58 ⟨Nat.le_of_ble_eq_true rfl, Nat.le_of_ble_eq_true rfl⟩) hS (fun q _ h => hFc q h) hFc (fun r u t H locs ht hvm hw hB hz1 hk1 hS => ?_)
      obtain ⟨hP1, hD1⟩ := hB
      have hP1 := g5_ht ht hP1
      rcases hw with ⟨z14, (i_13 : ∃ v : Int64, toldX g_L (3 : Int32).toInt (askQ (-1) e_ce e_ho e_wy k_b e_ln e_br) = some v ∧ ((3 : Int32).toInt < 2 → z14 0 = v)), rfl, rfl⟩ | ⟨z16, (i_15 : toldX g_L (3 : Int32).toInt (askQ (-1) e_ce e_ho e_wy k_b e_ln e_br) = none), rfl, rfl⟩
      ·
        have hJ9 := va_join (wr := [(a_h, (oc1 e_wa e_le e_st e_fo e_lc a_l a_g a_b a_s a_p a_w e_gb a_bb)), (a_l, (arW G 6 f_l)), (a_b, (oc6 5 24 a_bn e_b)), (a_bn, (arI G 120 f_b)), (a_k, (oc5 a_h a_j a_pt e_ln e_se e_lh e_br e_we e_me e_ce e_wy e_ho e_ov))]) hP hD [10, 11, 0, 1, 2, 3, 4] [5, 6, 7, 8, 9] rfl rfl (by decide +kernel) (by decide +kernel) hk1 hFc hP1 hD1
        clear hP hD hPc hDc hFc ht hvm hz1 hk1 hP1 hD1
        obtain ⟨hP, hD⟩ := hJ9
        refine g5_rs [(a_h, (oc1 e_wa e_le e_st e_fo e_lc a_l a_g a_b a_s a_p a_w e_gb a_bb)), (a_l, (arW G 6 f_l)), (a_b, (oc6 5 24 a_bn e_b)), (a_bn, (arI G 120 f_b)), (a_k, (oc5 a_h a_j a_pt e_ln e_se e_lh e_br e_we e_me e_ce e_wy e_ho e_ov)), (a_j, (oc2 a_as a_sk)), (a_as, (arI G 8 z12)), (a_sk, (arJ G 50 z14)), (a_lo, (oc3 e_cl a_hd a_sr a_cd)), (a_sr, (arI G n_sr f_sr)), (a_cd, (arI G n_cd f_cd)), (a_hd, (arI G n_hd f_hd))] hP hD ?_
        clear hP hD
        intro hP hD
        obtain ⟨v9, ht_17, hv_17⟩ := i_13
        refine lv_if_ne (tgt := 75) hx hb dX5_meetBodies_61 (by decide +kernel) (fun c_18 => ?_) (fun c_18 => ?_)
        ·
          refine lv_iinc (v := (k_b + 1)) (lv' := [(2, .int (k_b + 1)), (1, .ref a_lo), (0, .ref a_k)]) hx hb dX5_meetBodies_75 hl (k := 0) rfl rfl (by decide +kernel) rfl ?_
          clear hl
          intro ls hl
          have t_19 : (k_b + 1).toInt = k_b.toInt + 1 := g5_iadd (a := k_b.toInt) (b := 1) rfl (by decide +kernel) (by omega) (by omega)
          refine lv_goto (tgt := 10) hx hb dX5_meetBodies_78 (by decide +kernel) ?_
          exact ih_10_4 ((k_b + 1), z12, z14) ls H locs (show Int.toNat (5 - (k_b + 1).toInt) < Int.toNat (5 - k_b.toInt) from g_up (show k_b.toInt < (k_b + 1).toInt by omega) (show k_b.toInt < 5 by omega)) ⟨lv_sub hl [0, 1, 2] rfl, hP.sub [4, 2, 3, 5, 6, 7, 8, 9, 10, 11, 0, 1] rfl, hD.sub [4, 2, 3, 5, 6, 7, 8, 9, 10, 11, 0, 1] (by decide +kernel) rfl, hS, ⟨by omega, by omega⟩, by omega, bda_n i_3 (by omega) (by omega) (Or.inr (by rw [tW_of e_w (by decide +kernel) ht_17]; exact fun q9 => by cases q9))⟩
        ·
          exact absurd c_18 (by decide +kernel)
      ·
        have hJ9 := va_join (wr := [(a_h, (oc1 e_wa e_le e_st e_fo e_lc a_l a_g a_b a_s a_p a_w e_gb a_bb)), (a_l, (arW G 6 f_l)), (a_b, (oc6 5 24 a_bn e_b)), (a_bn, (arI G 120 f_b)), (a_k, (oc5 a_h a_j a_pt e_ln e_se e_lh e_br e_we e_me e_ce e_wy e_ho e_ov))]) hP hD [10, 11, 0, 1, 2, 3, 4] [5, 6, 7, 8, 9] rfl rfl (by decide +kernel) (by decide +kernel) hk1 hFc hP1 hD1
        clear hP hD hPc hDc hFc ht hvm hz1 hk1 hP1 hD1
        obtain ⟨hP, hD⟩ := hJ9
        refine g5_rs [(a_h, (oc1 e_wa e_le e_st e_fo e_lc a_l a_g a_b a_s a_p a_w e_gb a_bb)), (a_l, (arW G 6 f_l)), (a_b, (oc6 5 24 a_bn e_b)), (a_bn, (arI G 120 f_b)), (a_k, (oc5 a_h a_j a_pt e_ln e_se e_lh e_br e_we e_me e_ce e_wy e_ho e_ov)), (a_j, (oc2 a_as a_sk)), (a_as, (arI G 8 z12)), (a_sk, (arJ G 50 z16)), (a_lo, (oc3 e_cl a_hd a_sr a_cd)), (a_sr, (arI G n_sr f_sr)), (a_cd, (arI G n_cd f_cd)), (a_hd, (arI G n_hd f_hd))] hP hD ?_
        clear hP hD
        intro hP hD
        refine lv_if_ne (tgt := 75) hx hb dX5_meetBodies_61 (by decide +kernel) (fun c_20 => ?_) (fun c_20 => ?_)
        ·
          exact absurd c_20 (by decide +kernel)
        ·
          refine lv_aload_n hx hb dX5_meetBodies_64 rfl (lv_at hl 2 rfl) ?_
          refine lv_iload_n hx hb dX5_meetBodies_65 rfl (lv_at hl 0 rfl) ?_
          refine va_put (D := G.1) (ci := 5) (v := .int k_b) (ty := .int) (C := RX5) (T := TX5) (N := 13) hx hb hts inG_X5 tyX5 tyX5_ok nmX5 hown hK hP hD hS 4 rfl rfl 4 (by decide +kernel) (hts _ fl_X5_39) (fun _ h9 => h9) rfl (by decide +kernel) rfl rfl (Nat.le_of_ble_eq_true rfl) dX5_meetBodies_66 ?_
          clear hP hD hS
          intro H locs hP hD hS
          refine g5_rs [(a_h, (oc1 e_wa e_le e_st e_fo e_lc a_l a_g a_b a_s a_p a_w e_gb a_bb)), (a_l, (arW G 6 f_l)), (a_b, (oc6 5 24 a_bn e_b)), (a_bn, (arI G 120 f_b)), (a_k, (oc5 a_h a_j a_pt e_ln k_b e_lh e_br e_we e_me e_ce e_wy e_ho e_ov)), (a_j, (oc2 a_as a_sk)), (a_as, (arI G 8 z12)), (a_sk, (arJ G 50 z16)), (a_lo, (oc3 e_cl a_hd a_sr a_cd)), (a_sr, (arI G n_sr f_sr)), (a_cd, (arI G n_cd f_cd)), (a_hd, (arI G n_hd f_hd))] hP hD ?_
          clear hP hD
          intro hP hD
          refine lv_aload_n hx hb dX5_meetBodies_69 rfl (lv_at hl 2 rfl) ?_
          refine W.eq (g2 := F0 m 70 ls [.ref a_k]) rfl ?_
          refine lv_iconst (v := 1) hx hb dX5_meetBodies_70 (by decide +kernel) ?_
          refine va_put (D := G.1) (ci := 5) (v := .int 1) (ty := .boolean) (C := RX5) (T := TX5) (N := 13) hx hb hts inG_X5 tyX5 tyX5_ok nmX5 hown hK hP hD hS 4 rfl rfl 12 (by decide +kernel) (hts _ fl_X5_56) (fun _ h9 => h9) rfl (by decide +kernel) rfl rfl (Nat.le_of_ble_eq_true rfl) dX5_meetBodies_71 ?_
          clear hP hD hS
          intro H locs hP hD hS
          refine g5_rs [(a_h, (oc1 e_wa e_le e_st e_fo e_lc a_l a_g a_b a_s a_p a_w e_gb a_bb)), (a_l, (arW G 6 f_l)), (a_b, (oc6 5 24 a_bn e_b)), (a_bn, (arI G 120 f_b)), (a_k, (oc5 a_h a_j a_pt e_ln k_b e_lh e_br e_we e_me e_ce e_wy e_ho 1)), (a_j, (oc2 a_as a_sk)), (a_as, (arI G 8 z12)), (a_sk, (arJ G 50 z16)), (a_lo, (oc3 e_cl a_hd a_sr a_cd)), (a_sr, (arI G n_sr f_sr)), (a_cd, (arI G n_cd f_cd)), (a_hd, (arI G n_hd f_hd))] hP hD ?_
          clear hP hD
          intro hP hD
          exact W.vret hx hb hr (fun t ht hW => ⟨⟨[(a_k, (oc5 a_h a_j a_pt e_ln k_b e_lh e_br e_we e_me e_ce e_wy e_ho 1)), (a_h, (oc1 e_wa e_le e_st e_fo e_lc a_l a_g a_b a_s a_p a_w e_gb a_bb)), (a_b, (oc6 5 24 a_bn e_b)), (a_bn, (arI G 120 f_b)), (a_j, (oc2 a_as a_sk)), (a_as, (arI G 8 z12)), (a_sk, (arJ G 50 z16)), (a_l, (arW G 6 f_l)), (a_lo, (oc3 e_cl a_hd a_sr a_cd)), (a_sr, (arI G n_sr f_sr)), (a_cd, (arI G n_cd f_cd)), (a_hd, (arI G n_hd f_hd))], rfl, Or.inl (⟨k_b, z12, z16, ⟨by omega, by omega⟩, (bda_y i_3 (by omega) (by rw [bd_col e_ht (by omega) (by omega) i_6]; exact Int32.toInt_inj.mp (by omega)) (tW_of e_w (by decide +kernel) i_15)).symm, rfl⟩), by rw [ht]; exact hP.sub [4, 0, 2, 3, 5, 6, 7, 1, 8, 9, 10, 11] rfl, hD.sub [4, 0, 2, 3, 5, 6, 7, 1, 8, 9, 10, 11] (by decide +kernel) rfl⟩, hS.F ht⟩) hS.2.2 dX5_meetBodies_74
set_option maxHeartbeats 4000000 in
set_option maxRecDepth 100000 in
theorem k_meetGlassXN (l : Launch) (G : g5_G) (a_k a_h a_g a_gn a_j a_as a_sk a_l a_pt a_b a_s a_p a_w a_bb : Nat) (sz : Nat) (e_ln : Int32) (e_se : Int32) (e_lh : Int32) (e_br : Int32) (e_we : Int32) (e_me : Int32) (e_ce : Int32) (e_wy : Int32) (e_ho : Int32) (e_ov : Int32) (e_le : Int32) (e_st : Int32) (e_fo : Int32) (e_lc : Int32) (e_g : Int32) (e_wa : Int64) (e_gb : Int64) (f_g : Nat → Int32) (f_as : Nat → Int32) (f_sk : Nat → Int64) (f_l : Nat → Option Nat) (f_ro : Nat → Int32) (g_w : Option (List CLT)) (h_e_br : 0 ≤ e_br.toInt ∧ e_br.toInt ≤ 1000000) (h_e_ce : 0 ≤ e_ce.toInt ∧ e_ce.toInt ≤ 63) (h_e_wy : 0 ≤ e_wy.toInt ∧ e_wy.toInt ≤ 3) (h_e_ho : 0 ≤ e_ho.toInt ∧ e_ho.toInt ≤ 23) (h_e_ov : 0 ≤ e_ov.toInt ∧ e_ov.toInt ≤ 1) (h_e_g : 0 ≤ e_g.toInt ∧ e_g.toInt ≤ 6) (e_f : e_fo.toInt < 0 ∨ e_lc.toInt ≤ e_fo.toInt) (e_w : g_w = none) (e_gk : gOK f_g e_g.toInt) (e_qg : QG e_g f_g e_gb f_ro) (e_on : onB e_gb e_ce.toInt = true) (e_f4 : f_ro 4 = e_le) : Met l yX5_meetGlass (wsG yX5_meetGlass cX5_meetGlass 9 none) ({ frames := 2, cells := 0, slots := 0, locals := 45 }) (va_Pc [.ref a_k] (g5_P G [(a_k, (oc5 a_h a_j a_pt e_ln e_se e_lh e_br e_we e_me e_ce e_wy e_ho e_ov)), (a_h, (oc1 e_wa e_le e_st e_fo e_lc a_l a_g a_b a_s a_p a_w e_gb a_bb)), (a_g, (oc6 6 5 a_gn e_g)), (a_gn, (arI G 30 f_g)), (a_j, (oc2 a_as a_sk)), (a_as, (arI G 8 f_as)), (a_sk, (arJ G 50 f_sk)), (a_l, (arW G 6 f_l))] sz)) (va_Qv (fun (u : va_W) => (∃ (o_b : Int32) (o_m : Int32) (o_a : Nat → Int32) (o_k : Nat → Int64), (0 ≤ o_b.toInt ∧ o_b.toInt ≤ 1000000) ∧ ((meetF f_ro g_w 0 e_ce e_wy e_ho e_br e_we e_ln).1 = false ∧ (meetF f_ro g_w 0 e_ce e_wy e_ho e_br e_we e_ln).2.2.2.1 = o_b ∧ (meetF f_ro g_w 0 e_ce e_wy e_ho e_br e_we e_ln).2.2.2.2 = e_we) ∧ (u = [(a_k, (oc5 a_h a_j a_pt e_ln e_se e_lh o_b e_we o_m e_ce e_wy e_ho 1)), (a_h, (oc1 e_wa e_le e_st e_fo e_lc a_l a_g a_b a_s a_p a_w e_gb a_bb)), (a_g, (oc6 6 5 a_gn e_g)), (a_gn, (arI G 30 f_g)), (a_j, (oc2 a_as a_sk)), (a_as, (arI G 8 o_a)), (a_sk, (arJ G 50 o_k)), (a_l, (arW G 6 f_l))])) ∨ (∃ (o_b : Int32) (o_w : Int32) (o_m : Int32) (o_y : Int32) (o_h : Int32) (o_a : Nat → Int32) (o_k : Nat → Int64), (0 ≤ o_b.toInt ∧ o_b.toInt ≤ 1000000) ∧ (0 ≤ o_y.toInt ∧ o_y.toInt ≤ 3) ∧ (0 ≤ o_h.toInt ∧ o_h.toInt ≤ 23) ∧ (meetF f_ro g_w 0 e_ce e_wy e_ho e_br e_we e_ln = (true, o_y, o_h, o_b, o_w)) ∧ (u = [(a_k, (oc5 a_h a_j a_pt e_ln e_se e_lh o_b o_w o_m e_ce o_y o_h 0)), (a_h, (oc1 e_wa e_le e_st e_fo e_lc a_l a_g a_b a_s a_p a_w e_gb a_bb)), (a_g, (oc6 6 5 a_gn e_g)), (a_gn, (arI G 30 f_g)), (a_j, (oc2 a_as a_sk)), (a_as, (arI G 8 o_a)), (a_sk, (arJ G 50 o_k)), (a_l, (arW G 6 f_l))]))) (g5_B G (va_A [(a_k, (oc5 a_h a_j a_pt e_ln e_se e_lh e_br e_we e_me e_ce e_wy e_ho e_ov)), (a_h, (oc1 e_wa e_le e_st e_fo e_lc a_l a_g a_b a_s a_p a_w e_gb a_bb)), (a_g, (oc6 6 5 a_gn e_g)), (a_gn, (arI G 30 f_g)), (a_j, (oc2 a_as a_sk)), (a_as, (arI G 8 f_as)), (a_sk, (arJ G 50 f_sk)), (a_l, (arW G 6 f_l))] sz)) (va_A [(a_k, (oc5 a_h a_j a_pt e_ln e_se e_lh e_br e_we e_me e_ce e_wy e_ho e_ov)), (a_h, (oc1 e_wa e_le e_st e_fo e_lc a_l a_g a_b a_s a_p a_w e_gb a_bb)), (a_g, (oc6 6 5 a_gn e_g)), (a_gn, (arI G 30 f_g)), (a_j, (oc2 a_as a_sk)), (a_as, (arI G 8 f_as)), (a_sk, (arJ G 50 f_sk)), (a_l, (arW G 6 f_l))] sz)) 0 0 (va_A [(a_k, (oc5 a_h a_j a_pt e_ln e_se e_lh e_br e_we e_me e_ce e_wy e_ho e_ov)), (a_h, (oc1 e_wa e_le e_st e_fo e_lc a_l a_g a_b a_s a_p a_w e_gb a_bb)), (a_g, (oc6 6 5 a_gn e_g)), (a_gn, (arI G 30 f_g)), (a_j, (oc2 a_as a_sk)), (a_as, (arI G 8 f_as)), (a_sk, (arJ G 50 f_sk)), (a_l, (arW G 6 f_l))] sz) := by
  refine Met.ofW (cc := cX5_meetGlass) (maxL := 9) (ret := none) (by decide +kernel) rfl ?_
  intro p e s m args below meth c s₁ B hml hv
  obtain ⟨rfl, hsz, hP, hK, hD0, hN, hT⟩ := hv
  have hx := B.exec
  have hb := B.bytes
  have hr := B.returns
  have hts : ∀ w ∈ tblG, w.before _ s = true := fun w h => atoms_spec (ws := (wsG yX5_meetGlass cX5_meetGlass 9 none)) B.pre w (List.mem_cons_of_mem _ h)
  have hown : s.vm.findClass RX5 = some m.cls := findClass_of_methodNamed B.named
  have hlocks := B.notSynchronized
  subst hsz
  have hD := hD0.self (sz := s.heap.size)
  generalize hAe : va_A [(a_k, (oc5 a_h a_j a_pt e_ln e_se e_lh e_br e_we e_me e_ce e_wy e_ho e_ov)), (a_h, (oc1 e_wa e_le e_st e_fo e_lc a_l a_g a_b a_s a_p a_w e_gb a_bb)), (a_g, (oc6 6 5 a_gn e_g)), (a_gn, (arI G 30 f_g)), (a_j, (oc2 a_as a_sk)), (a_as, (arI G 8 f_as)), (a_sk, (arJ G 50 f_sk)), (a_l, (arW G 6 f_l))] s.heap.size = A at hD hT ⊢
  have hA : ∀ q : Nat, s.heap.size ≤ q → A q := fun q h => by rw [← hAe]; exact Or.inr h
  have hS : va_S A s.heap s.heap [] := va_S.rf
  replace hP : va_P G.1 vwCl [(a_k, (oc5 a_h a_j a_pt e_ln e_se e_lh e_br e_we e_me e_ce e_wy e_ho e_ov)), (a_h, (oc1 e_wa e_le e_st e_fo e_lc a_l a_g a_b a_s a_p a_w e_gb a_bb)), (a_g, (oc6 6 5 a_gn e_g)), (a_gn, (arI G 30 f_g)), (a_j, (oc2 a_as a_sk)), (a_as, (arI G 8 f_as)), (a_sk, (arJ G 50 f_sk)), (a_l, (arW G 6 f_l))] s.heap := hP
  have hl := lv_entry ([.ref a_k]) (n := 9) (Nat.le_of_ble_eq_true rfl)
  rw [lg_entry_eq]
  generalize (lg_sl ([.ref a_k]) ++ List.replicate (9 - (lg_sl ([.ref a_k])).length) Slot.unset).toArray = ls at hl ⊢
  replace hl : lv_has ls 9 [(0, .ref a_k)] := hl
  refine lv_aload_n hx hb dX5_meetGlass_0 rfl (lv_at hl 0 rfl) ?_
  refine lv_iconst (v := 1) hx hb dX5_meetGlass_1 (by decide +kernel) ?_
  refine va_put (D := G.1) (ci := 5) (v := .int 1) (ty := .boolean) (C := RX5) (T := TX5) (N := 13) hx hb hts inG_X5 tyX5 tyX5_ok nmX5 hown hK hP hD hS 0 rfl rfl 12 (by decide +kernel) (hts _ fl_X5_56) (fun _ h9 => h9) rfl (by decide +kernel) rfl rfl (Nat.le_of_ble_eq_true rfl) dX5_meetGlass_2 ?_
  clear hP hD hS
  intro H locs hP hD hS
  refine g5_rs [(a_k, (oc5 a_h a_j a_pt e_ln e_se e_lh e_br e_we e_me e_ce e_wy e_ho 1)), (a_h, (oc1 e_wa e_le e_st e_fo e_lc a_l a_g a_b a_s a_p a_w e_gb a_bb)), (a_g, (oc6 6 5 a_gn e_g)), (a_gn, (arI G 30 f_g)), (a_j, (oc2 a_as a_sk)), (a_as, (arI G 8 f_as)), (a_sk, (arJ G 50 f_sk)), (a_l, (arW G 6 f_l))] hP hD ?_
  clear hP hD
  intro hP hD
  refine lv_aload_n hx hb dX5_meetGlass_5 rfl (lv_at hl 0 rfl) ?_
  refine W.eq (g2 := F0 m 6 ls [.ref a_k]) rfl ?_
  refine va_get (D := G.1) (ci := 5) (v := .ref a_h) (C := RX5) (T := TX5) (N := 13) hx hb hts inG_X5 hown hK hP 0 rfl rfl 0 (by decide +kernel) (hts _ fl_X5_22) (fun _ h9 => h9) rfl dX5_meetGlass_6 ?_
  refine va_get (D := G.1) (ci := 1) (v := .ref a_g) (C := RX1) (T := TX1) (N := 13) hx hb hts inG_X1 hown hK hP 1 rfl rfl 6 (by decide +kernel) (hts _ fl_X5_128) (fun _ h9 => h9) rfl dX5_meetGlass_9 ?_
  refine lv_iconst (v := 0) hx hb dX5_meetGlass_12 (by decide +kernel) ?_
  refine lv_aload_n hx hb dX5_meetGlass_13 rfl (lv_at hl 0 rfl) ?_
  refine va_get (D := G.1) (ci := 5) (v := .int e_ce) (C := RX5) (T := TX5) (N := 13) hx hb hts inG_X5 hown hK hP 0 rfl rfl 9 (by decide +kernel) (hts _ fl_X5_26) (fun _ h9 => h9) rfl dX5_meetGlass_14 ?_
  refine W.eq (g2 := F0 m 17 ls [.int e_ce, .int 0, .ref a_g]) rfl ?_
  obtain ⟨hPc, hDc, hFc⟩ := g5_sub3 (wc := [(a_g, (oc6 6 5 a_gn e_g)), (a_gn, (arI G 30 f_g))]) hP hD hS hA [2, 3] (by decide +kernel) rfl
  refine va_calli (va_runV (As := [.int 0, .int e_ce]) (rest := []) ⟨hx, hb, hml, hown, hts⟩ (t_findX_G l G a_g a_gn H.size e_g 0 e_ce f_g h_e_g) (cwV 2 hts gV_X5_131 rfl rfl rfl hv_X6_find ⟨Nat.le_of_ble_eq_true rfl, Nat.le_of_ble_eq_true rfl⟩) (g5_preV hPc hK hDc hN hT hS hFc (ci := 6) (q0 := 0) rfl rfl) rfl rfl hl.1 rfl (lv_room (Nat.le_of_ble_eq_true rfl)) dX5_meetGlass_17 ⟨Nat.le_of_ble_eq_true rfl, Nat.le_of_ble_eq_true rfl⟩) hS (fun q _ h => hFc q h) hFc (fun r u t H locs ht hvm hw hB hz1 hk1 hS => ?_)
  obtain ⟨hP1, hD1⟩ := hB
  have hP1 := g5_ht ht hP1
  rcases hw with ⟨(i_1 : ∀ r : Int, 0 ≤ r → r < e_g.toInt → tget f_g e_g.toInt 5 r (0 : Int32).toInt ≠ e_ce), rfl, rfl⟩ | ⟨z5, (i_2 : 0 ≤ z5.toInt ∧ z5.toInt < e_g.toInt), (i_3 : tget f_g e_g.toInt 5 z5.toInt (0 : Int32).toInt = e_ce), (i_4 : ∀ r : Int, 0 ≤ r → r < z5.toInt → tget f_g e_g.toInt 5 r (0 : Int32).toInt ≠ e_ce), y6, rfl⟩
  ·
    have hJ9 := va_join (wr := [(a_k, (oc5 a_h a_j a_pt e_ln e_se e_lh e_br e_we e_me e_ce e_wy e_ho 1)), (a_h, (oc1 e_wa e_le e_st e_fo e_lc a_l a_g a_b a_s a_p a_w e_gb a_bb)), (a_j, (oc2 a_as a_sk)), (a_as, (arI G 8 f_as)), (a_sk, (arJ G 50 f_sk)), (a_l, (arW G 6 f_l))]) hP hD [2, 3] [0, 1, 4, 5, 6, 7] rfl rfl (by decide +kernel) (by decide +kernel) hk1 hFc hP1 hD1
    clear hP hD hPc hDc hFc ht hvm hz1 hk1 hP1 hD1
    obtain ⟨hP, hD⟩ := hJ9
    refine g5_rs [(a_k, (oc5 a_h a_j a_pt e_ln e_se e_lh e_br e_we e_me e_ce e_wy e_ho 1)), (a_h, (oc1 e_wa e_le e_st e_fo e_lc a_l a_g a_b a_s a_p a_w e_gb a_bb)), (a_j, (oc2 a_as a_sk)), (a_as, (arI G 8 f_as)), (a_sk, (arJ G 50 f_sk)), (a_l, (arW G 6 f_l)), (a_g, (oc6 6 5 a_gn e_g)), (a_gn, (arI G 30 f_g))] hP hD ?_
    clear hP hD
    intro hP hD
    refine lv_istore_n (lv' := [(1, .int (-1)), (0, .ref a_k)]) hx hb dX5_meetGlass_20 rfl hl (by decide +kernel) rfl ?_
    clear hl
    intro ls hl
    refine lv_iload_n hx hb dX5_meetGlass_21 rfl (lv_at hl 0 rfl) ?_
    refine lv_iconst (v := (-1)) hx hb dX5_meetGlass_22 (by decide +kernel) ?_
    refine lv_icmp_ne (tgt := 36) hx hb dX5_meetGlass_23 (by decide +kernel) (fun c_7 => ?_) (fun c_7 => ?_)
    ·
      exact absurd c_7 (by decide +kernel)
    ·
      exact absurd (gl_abs e_qg (by omega) e_on i_1) (fun h9 => h9)
  ·
    have hJ9 := va_join (wr := [(a_k, (oc5 a_h a_j a_pt e_ln e_se e_lh e_br e_we e_me e_ce e_wy e_ho 1)), (a_h, (oc1 e_wa e_le e_st e_fo e_lc a_l a_g a_b a_s a_p a_w e_gb a_bb)), (a_j, (oc2 a_as a_sk)), (a_as, (arI G 8 f_as)), (a_sk, (arJ G 50 f_sk)), (a_l, (arW G 6 f_l))]) hP hD [2, 3] [0, 1, 4, 5, 6, 7] rfl rfl (by decide +kernel) (by decide +kernel) hk1 hFc hP1 hD1
    clear hP hD hPc hDc hFc ht hvm hz1 hk1 hP1 hD1
    obtain ⟨hP, hD⟩ := hJ9
    refine g5_rs [(a_k, (oc5 a_h a_j a_pt e_ln e_se e_lh e_br e_we e_me e_ce e_wy e_ho 1)), (a_h, (oc1 e_wa e_le e_st e_fo e_lc a_l a_g a_b a_s a_p a_w e_gb a_bb)), (a_j, (oc2 a_as a_sk)), (a_as, (arI G 8 f_as)), (a_sk, (arJ G 50 f_sk)), (a_l, (arW G 6 f_l)), (a_g, (oc6 6 5 a_gn e_g)), (a_gn, (arI G 30 f_g))] hP hD ?_
    clear hP hD
    intro hP hD
    refine g5_ti (v := z5) y6 ?_
    refine lv_istore_n (lv' := [(1, .int z5), (0, .ref a_k)]) hx hb dX5_meetGlass_20 rfl hl (by decide +kernel) rfl ?_
    clear hl
    intro ls hl
    refine lv_iload_n hx hb dX5_meetGlass_21 rfl (lv_at hl 0 rfl) ?_
    refine lv_iconst (v := (-1)) hx hb dX5_meetGlass_22 (by decide +kernel) ?_
    refine lv_icmp_ne (tgt := 36) hx hb dX5_meetGlass_23 (by decide +kernel) (fun c_8 => ?_) (fun c_8 => ?_)
    ·
      have n_8 : gNe (z5.toInt) ((-1)) := g5_ne (a := z5.toInt) (b := (-1)) rfl (by decide +kernel) c_8
      have hGF := find_g e_qg i_2 i_3 i_4
      refine lv_aload_n hx hb dX5_meetGlass_36 rfl (lv_at hl 1 rfl) ?_
      refine va_get (D := G.1) (ci := 5) (v := .ref a_h) (C := RX5) (T := TX5) (N := 13) hx hb hts inG_X5 hown hK hP 0 rfl rfl 0 (by decide +kernel) (hts _ fl_X5_22) (fun _ h9 => h9) rfl dX5_meetGlass_37 ?_
      refine va_get (D := G.1) (ci := 1) (v := .ref a_g) (C := RX1) (T := TX1) (N := 13) hx hb hts inG_X1 hown hK hP 1 rfl rfl 6 (by decide +kernel) (hts _ fl_X5_128) (fun _ h9 => h9) rfl dX5_meetGlass_40 ?_
      refine lv_astore_n (lv' := [(2, .ref a_g), (1, .int z5), (0, .ref a_k)]) hx hb dX5_meetGlass_43 rfl hl (by decide +kernel) rfl ?_
      clear hl
      intro ls hl
      refine W.eq (g2 := F0 m 44 ls []) rfl ?_
      refine lv_iload_n hx hb dX5_meetGlass_44 rfl (lv_at hl 1 rfl) ?_
      refine lv_iconst (v := (-1)) hx hb dX5_meetGlass_45 (by decide +kernel) ?_
      refine lv_icmp_ne (tgt := 67) hx hb dX5_meetGlass_46 (by decide +kernel) (fun c_9 => ?_) (fun c_9 => ?_)
      ·
        have n_9 : gNe (z5.toInt) ((-1)) := g5_ne (a := z5.toInt) (b := (-1)) rfl (by decide +kernel) c_9
        refine lv_iload_n hx hb dX5_meetGlass_67 rfl (lv_at hl 1 rfl) ?_
        refine lv_istore_n (lv' := [(3, .int z5), (2, .ref a_g), (1, .int z5), (0, .ref a_k)]) hx hb dX5_meetGlass_68 rfl hl (by decide +kernel) rfl ?_
        clear hl
        intro ls hl
        refine lv_iload_n hx hb dX5_meetGlass_69 rfl (lv_at hl 2 rfl) ?_
        refine lv_iconst (v := (-1)) hx hb dX5_meetGlass_70 (by decide +kernel) ?_
        refine W.eq (g2 := F0 m 71 ls [.int (-1), .int z5]) rfl ?_
        refine lv_icmp_ne (tgt := 81) hx hb dX5_meetGlass_71 (by decide +kernel) (fun c_10 => ?_) (fun c_10 => ?_)
        ·
          have n_10 : gNe (z5.toInt) ((-1)) := g5_ne (a := z5.toInt) (b := (-1)) rfl (by decide +kernel) c_10
          refine lv_iload_n hx hb dX5_meetGlass_81 rfl (lv_at hl 2 rfl) ?_
          refine lv_istore (lv' := [(4, .int z5), (3, .int z5), (2, .ref a_g), (1, .int z5), (0, .ref a_k)]) hx hb dX5_meetGlass_82 hl (by decide +kernel) rfl ?_
          clear hl
          intro ls hl
          refine lv_aload_n hx hb dX5_meetGlass_84 rfl (lv_at hl 2 rfl) ?_
          refine lv_iload_n hx hb dX5_meetGlass_85 rfl (lv_at hl 1 rfl) ?_
          refine W.eq (g2 := F0 m 86 ls [.int z5, .ref a_g]) rfl ?_
          refine lv_iconst (v := 1) hx hb dX5_meetGlass_86 (by decide +kernel) ?_
          obtain ⟨hPc, hDc, hFc⟩ := g5_sub3 (wc := [(a_g, (oc6 6 5 a_gn e_g)), (a_gn, (arI G 30 f_g))]) hP hD hS hA [6, 7] (by decide +kernel) rfl
          refine va_calli (va_runV (As := [.int z5, .int 1]) (rest := []) ⟨hx, hb, hml, hown, hts⟩ (t_get_G l G a_g a_gn H.size e_g z5 1 f_g h_e_g) (cwV 2 hts gV_X5_107 rfl rfl rfl hv_X6_get ⟨Nat.le_of_ble_eq_true rfl, Nat.le_of_ble_eq_true rfl⟩) (g5_preV hPc hK hDc hN hT hS hFc (ci := 6) (q0 := 0) rfl rfl) rfl rfl hl.1 rfl (lv_room (Nat.le_of_ble_eq_true rfl)) dX5_meetGlass_87 ⟨Nat.le_of_ble_eq_true rfl, Nat.le_of_ble_eq_true rfl⟩) hS (fun q _ h => hFc q h) hFc (fun r u t H locs ht hvm hw hB hz1 hk1 hS => ?_)
          obtain ⟨hP1, hD1⟩ := hB
          have hP1 := g5_ht ht hP1
          obtain ⟨z12, (i_11 : z12 = tget f_g e_g.toInt 5 z5.toInt (1 : Int32).toInt), y13, rfl⟩ := hw
          have hJ9 := va_join (wr := [(a_k, (oc5 a_h a_j a_pt e_ln e_se e_lh e_br e_we e_me e_ce e_wy e_ho 1)), (a_h, (oc1 e_wa e_le e_st e_fo e_lc a_l a_g a_b a_s a_p a_w e_gb a_bb)), (a_j, (oc2 a_as a_sk)), (a_as, (arI G 8 f_as)), (a_sk, (arJ G 50 f_sk)), (a_l, (arW G 6 f_l))]) hP hD [6, 7] [0, 1, 2, 3, 4, 5] rfl rfl (by decide +kernel) (by decide +kernel) hk1 hFc hP1 hD1
          clear hP hD hPc hDc hFc ht hvm hz1 hk1 hP1 hD1
          obtain ⟨hP, hD⟩ := hJ9
          refine g5_rs [(a_k, (oc5 a_h a_j a_pt e_ln e_se e_lh e_br e_we e_me e_ce e_wy e_ho 1)), (a_h, (oc1 e_wa e_le e_st e_fo e_lc a_l a_g a_b a_s a_p a_w e_gb a_bb)), (a_j, (oc2 a_as a_sk)), (a_as, (arI G 8 f_as)), (a_sk, (arJ G 50 f_sk)), (a_l, (arW G 6 f_l)), (a_g, (oc6 6 5 a_gn e_g)), (a_gn, (arI G 30 f_g))] hP hD ?_
          clear hP hD
          intro hP hD
          refine g5_ti (v := z12) y13 ?_
          have hc1_14 := gl_col (k := 1) e_qg i_2 i_11 (by decide +kernel) (by omega)
          have hg_14 : 0 ≤ z12.toInt ∧ z12.toInt ≤ 5 := by rw [i_11]; exact (e_gk z5.toInt (by omega) (by omega)).2.1
          refine lv_istore (lv' := [(5, .int z12), (4, .int z5), (3, .int z5), (2, .ref a_g), (1, .int z5), (0, .ref a_k)]) hx hb dX5_meetGlass_90 hl (by decide +kernel) rfl ?_
          clear hl
          intro ls hl
          refine lv_aload_n hx hb dX5_meetGlass_92 rfl (lv_at hl 5 rfl) ?_
          refine lv_dup hx hb dX5_meetGlass_93 rfl ?_
          refine W.eq (g2 := F0 m 94 ls [.ref a_k, .ref a_k]) rfl ?_
          refine va_get (D := G.1) (ci := 5) (v := .int e_me) (C := RX5) (T := TX5) (N := 13) hx hb hts inG_X5 hown hK hP 0 rfl rfl 8 (by decide +kernel) (hts _ fl_X5_95) (fun _ h9 => h9) rfl dX5_meetGlass_94 ?_
          refine lv_iconst (v := 1) hx hb dX5_meetGlass_97 (by decide +kernel) ?_
          refine lv_iload hx hb dX5_meetGlass_98 (lv_at hl 1 rfl) ?_
          refine lv_ishl hx hb dX5_meetGlass_100 ?_
          refine lv_ior hx hb dX5_meetGlass_101 ?_
          refine W.eq (g2 := F0 m 102 ls [.int (e_me ||| (1 <<< (z5 &&& 31))), .ref a_k]) rfl ?_
          refine va_put (D := G.1) (ci := 5) (v := .int (e_me ||| (1 <<< (z5 &&& 31)))) (ty := .int) (C := RX5) (T := TX5) (N := 13) hx hb hts inG_X5 tyX5 tyX5_ok nmX5 hown hK hP hD hS 0 rfl rfl 8 (by decide +kernel) (hts _ fl_X5_95) (fun _ h9 => h9) rfl (by decide +kernel) rfl rfl (Nat.le_of_ble_eq_true rfl) dX5_meetGlass_102 ?_
          clear hP hD hS
          intro H locs hP hD hS
          refine g5_rs [(a_k, (oc5 a_h a_j a_pt e_ln e_se e_lh e_br e_we (e_me ||| (1 <<< (z5 &&& 31))) e_ce e_wy e_ho 1)), (a_h, (oc1 e_wa e_le e_st e_fo e_lc a_l a_g a_b a_s a_p a_w e_gb a_bb)), (a_j, (oc2 a_as a_sk)), (a_as, (arI G 8 f_as)), (a_sk, (arJ G 50 f_sk)), (a_l, (arW G 6 f_l)), (a_g, (oc6 6 5 a_gn e_g)), (a_gn, (arI G 30 f_g))] hP hD ?_
          clear hP hD
          intro hP hD
          refine lv_aload_n hx hb dX5_meetGlass_105 rfl (lv_at hl 5 rfl) ?_
          refine va_get (D := G.1) (ci := 5) (v := .ref a_h) (C := RX5) (T := TX5) (N := 13) hx hb hts inG_X5 hown hK hP 0 rfl rfl 0 (by decide +kernel) (hts _ fl_X5_22) (fun _ h9 => h9) rfl dX5_meetGlass_106 ?_
          obtain ⟨hPc, hDc, hFc⟩ := g5_sub3 (wc := [(a_h, (oc1 e_wa e_le e_st e_fo e_lc a_l a_g a_b a_s a_p a_w e_gb a_bb)), (a_l, (arW G 6 f_l))]) hP hD hS hA [1, 5] (by decide +kernel) rfl
          refine va_callq (va_runV (As := []) (rest := []) ⟨hx, hb, hml, hown, hts⟩ (h_lawN l G a_h a_l a_g a_b a_s a_p a_w a_bb H.size e_le e_st e_fo e_lc e_wa e_gb f_l (e_f)) (cwV 0 hts gV_X5_113 rfl rfl rfl hv_X1_lawInForce ⟨Nat.le_of_ble_eq_true rfl, Nat.le_of_ble_eq_true rfl⟩) (g5_preV hPc hK hDc hN hT hS hFc (ci := 1) (q0 := 0) rfl rfl) rfl rfl hl.1 rfl (lv_room (Nat.le_of_ble_eq_true rfl)) dX5_meetGlass_109 ⟨Nat.le_of_ble_eq_true rfl, Nat.le_of_ble_eq_true rfl⟩) hS (fun q _ h => hFc q h) hFc (fun r u t H locs ht hvm hw hB hz1 hk1 hS => ?_)
          obtain ⟨hP1, hD1⟩ := hB
          have hP1 := g5_ht ht hP1
          obtain ⟨rfl, rfl⟩ := hw
          have hJ9 := va_join (wr := [(a_k, (oc5 a_h a_j a_pt e_ln e_se e_lh e_br e_we (e_me ||| (1 <<< (z5 &&& 31))) e_ce e_wy e_ho 1)), (a_j, (oc2 a_as a_sk)), (a_as, (arI G 8 f_as)), (a_sk, (arJ G 50 f_sk)), (a_g, (oc6 6 5 a_gn e_g)), (a_gn, (arI G 30 f_g))]) hP hD [1, 5] [0, 2, 3, 4, 6, 7] rfl rfl (by decide +kernel) (by decide +kernel) hk1 hFc hP1 hD1
          clear hP hD hPc hDc hFc ht hvm hz1 hk1 hP1 hD1
          obtain ⟨hP, hD⟩ := hJ9
          refine g5_rs [(a_k, (oc5 a_h a_j a_pt e_ln e_se e_lh e_br e_we (e_me ||| (1 <<< (z5 &&& 31))) e_ce e_wy e_ho 1)), (a_j, (oc2 a_as a_sk)), (a_as, (arI G 8 f_as)), (a_sk, (arJ G 50 f_sk)), (a_g, (oc6 6 5 a_gn e_g)), (a_gn, (arI G 30 f_g)), (a_h, (oc1 e_wa e_le e_st e_fo e_lc a_l a_g a_b a_s a_p a_w e_gb a_bb)), (a_l, (arW G 6 f_l))] hP hD ?_
          clear hP hD
          intro hP hD
          refine g5_tv (v := .null) rfl ?_
          refine lv_astoreN (lv' := [(6, .null), (5, .int z12), (4, .int z5), (3, .int z5), (2, .ref a_g), (1, .int z5), (0, .ref a_k)]) hx hb dX5_meetGlass_112 hl (by decide +kernel) rfl ?_
          clear hl
          intro ls hl
          refine W.eq (g2 := F0 m 114 ls []) rfl ?_
          refine lv_aload_n hx hb dX5_meetGlass_114 rfl (lv_at hl 6 rfl) ?_
          refine lv_iload hx hb dX5_meetGlass_115 (lv_at hl 2 rfl) ?_
          refine lv_iconst (v := (-1)) hx hb dX5_meetGlass_117 (by decide +kernel) ?_
          obtain ⟨hPc, hDc, hFc⟩ := g5_sub3 (wc := [(a_k, (oc5 a_h a_j a_pt e_ln e_se e_lh e_br e_we (e_me ||| (1 <<< (z5 &&& 31))) e_ce e_wy e_ho 1)), (a_j, (oc2 a_as a_sk)), (a_as, (arI G 8 f_as))]) hP hD hS hA [0, 1, 2] (by decide +kernel) rfl
          refine va_callv (va_runV (As := [.int z5, .int (-1)]) (rest := []) ⟨hx, hb, hml, hown, hts⟩ (k_askX l G a_k a_j a_as a_h a_pt a_sk H.size e_ln e_se e_lh e_br e_we (e_me ||| (1 <<< (z5 &&& 31))) e_ce e_wy e_ho 1 z5 (-1) f_as h_e_br h_e_ce h_e_wy h_e_ho ⟨by decide, by decide⟩) (cwV 2 hts gV_X5_120 rfl rfl rfl hv_X5_ask ⟨Nat.le_of_ble_eq_true rfl, Nat.le_of_ble_eq_true rfl⟩) (g5_preV hPc hK hDc hN hT hS hFc (ci := 5) (q0 := 0) rfl rfl) rfl rfl hl.1 rfl (lv_room (Nat.le_of_ble_eq_true rfl)) dX5_meetGlass_118 ⟨Nat.le_of_ble_eq_true rfl, Nat.le_of_ble_eq_true rfl⟩) hS (fun q _ h => hFc q h) hFc (fun u t H locs ht hvm hw hB hz1 hk1 hS => ?_)
          obtain ⟨hP1, hD1⟩ := hB
          have hP1 := g5_ht ht hP1
          obtain ⟨z16, (i_15 : ∀ j : Nat, j < 8 → askQ z5 e_ce e_ho e_wy ((-1) : Int32) e_ln e_br j = (z16 j).toInt64), rfl⟩ := hw
          have hJ9 := va_join (wr := [(a_sk, (arJ G 50 f_sk)), (a_g, (oc6 6 5 a_gn e_g)), (a_gn, (arI G 30 f_g)), (a_h, (oc1 e_wa e_le e_st e_fo e_lc a_l a_g a_b a_s a_p a_w e_gb a_bb)), (a_l, (arW G 6 f_l))]) hP hD [0, 1, 2] [3, 4, 5, 6, 7] rfl rfl (by decide +kernel) (by decide +kernel) hk1 hFc hP1 hD1
          clear hP hD hPc hDc hFc ht hvm hz1 hk1 hP1 hD1
          obtain ⟨hP, hD⟩ := hJ9
          refine g5_rs [(a_sk, (arJ G 50 f_sk)), (a_g, (oc6 6 5 a_gn e_g)), (a_gn, (arI G 30 f_g)), (a_h, (oc1 e_wa e_le e_st e_fo e_lc a_l a_g a_b a_s a_p a_w e_gb a_bb)), (a_l, (arW G 6 f_l)), (a_k, (oc5 a_h a_j a_pt e_ln e_se e_lh e_br e_we (e_me ||| (1 <<< (z5 &&& 31))) e_ce e_wy e_ho 1)), (a_j, (oc2 a_as a_sk)), (a_as, (arI G 8 z16))] hP hD ?_
          clear hP hD
          intro hP hD
          refine lv_aload_n hx hb dX5_meetGlass_121 rfl (lv_at hl 4 rfl) ?_
          refine W.eq (g2 := F0 m 122 ls [.ref a_g]) rfl ?_
          refine lv_iload_n hx hb dX5_meetGlass_122 rfl (lv_at hl 3 rfl) ?_
          refine lv_iconst (v := 4) hx hb dX5_meetGlass_123 (by decide +kernel) ?_
          obtain ⟨hPc, hDc, hFc⟩ := g5_sub3 (wc := [(a_g, (oc6 6 5 a_gn e_g)), (a_gn, (arI G 30 f_g))]) hP hD hS hA [1, 2] (by decide +kernel) rfl
          refine va_calli (va_runV (As := [.int z5, .int 4]) (rest := []) ⟨hx, hb, hml, hown, hts⟩ (t_get_G l G a_g a_gn H.size e_g z5 4 f_g h_e_g) (cwV 2 hts gV_X5_107 rfl rfl rfl hv_X6_get ⟨Nat.le_of_ble_eq_true rfl, Nat.le_of_ble_eq_true rfl⟩) (g5_preV hPc hK hDc hN hT hS hFc (ci := 6) (q0 := 0) rfl rfl) rfl rfl hl.1 rfl (lv_room (Nat.le_of_ble_eq_true rfl)) dX5_meetGlass_124 ⟨Nat.le_of_ble_eq_true rfl, Nat.le_of_ble_eq_true rfl⟩) hS (fun q _ h => hFc q h) hFc (fun r u t H locs ht hvm hw hB hz1 hk1 hS => ?_)
          obtain ⟨hP1, hD1⟩ := hB
          have hP1 := g5_ht ht hP1
          obtain ⟨z18, (i_17 : z18 = tget f_g e_g.toInt 5 z5.toInt (4 : Int32).toInt), y19, rfl⟩ := hw
          have hJ9 := va_join (wr := [(a_sk, (arJ G 50 f_sk)), (a_h, (oc1 e_wa e_le e_st e_fo e_lc a_l a_g a_b a_s a_p a_w e_gb a_bb)), (a_l, (arW G 6 f_l)), (a_k, (oc5 a_h a_j a_pt e_ln e_se e_lh e_br e_we (e_me ||| (1 <<< (z5 &&& 31))) e_ce e_wy e_ho 1)), (a_j, (oc2 a_as a_sk)), (a_as, (arI G 8 z16))]) hP hD [1, 2] [0, 3, 4, 5, 6, 7] rfl rfl (by decide +kernel) (by decide +kernel) hk1 hFc hP1 hD1
          clear hP hD hPc hDc hFc ht hvm hz1 hk1 hP1 hD1
          obtain ⟨hP, hD⟩ := hJ9
          refine g5_rs [(a_sk, (arJ G 50 f_sk)), (a_h, (oc1 e_wa e_le e_st e_fo e_lc a_l a_g a_b a_s a_p a_w e_gb a_bb)), (a_l, (arW G 6 f_l)), (a_k, (oc5 a_h a_j a_pt e_ln e_se e_lh e_br e_we (e_me ||| (1 <<< (z5 &&& 31))) e_ce e_wy e_ho 1)), (a_j, (oc2 a_as a_sk)), (a_as, (arI G 8 z16)), (a_g, (oc6 6 5 a_gn e_g)), (a_gn, (arI G 30 f_g))] hP hD ?_
          clear hP hD
          intro hP hD
          refine g5_ti (v := z18) y19 ?_
          have hc4_20 := gl_col (k := 4) e_qg i_2 i_17 (by decide +kernel) (by omega)
          refine lv_aload_n hx hb dX5_meetGlass_127 rfl (lv_at hl 6 rfl) ?_
          refine va_get (D := G.1) (ci := 5) (v := .int e_ho) (C := RX5) (T := TX5) (N := 13) hx hb hts inG_X5 hown hK hP 3 rfl rfl 11 (by decide +kernel) (hts _ fl_X5_33) (fun _ h9 => h9) rfl dX5_meetGlass_128 ?_
          refine W.eq (g2 := F0 m 131 ls [.int e_ho, .int z18]) rfl ?_
          refine lv_ishr hx hb dX5_meetGlass_131 ?_
          refine lv_iconst (v := 1) hx hb dX5_meetGlass_132 (by decide +kernel) ?_
          refine lv_iand hx hb dX5_meetGlass_133 ?_
          refine lv_if_ne (tgt := 169) hx hb dX5_meetGlass_134 (by decide +kernel) (fun c_21 => ?_) (fun c_21 => ?_)
          ·
            have n_21 : gNe (((z18 >>> (e_ho &&& 31)) &&& 1).toInt) (0) := g5_ne (a := ((z18 >>> (e_ho &&& 31)) &&& 1).toInt) (b := 0) rfl (by decide +kernel) c_21
            exact W.vret hx hb hr (fun t ht hW => ⟨⟨[(a_k, (oc5 a_h a_j a_pt e_ln e_se e_lh e_br e_we (e_me ||| (1 <<< (z5 &&& 31))) e_ce e_wy e_ho 1)), (a_h, (oc1 e_wa e_le e_st e_fo e_lc a_l a_g a_b a_s a_p a_w e_gb a_bb)), (a_g, (oc6 6 5 a_gn e_g)), (a_gn, (arI G 30 f_g)), (a_j, (oc2 a_as a_sk)), (a_as, (arI G 8 z16)), (a_sk, (arJ G 50 f_sk)), (a_l, (arW G 6 f_l))], rfl, Or.inl (⟨e_br, (e_me ||| (1 <<< (z5 &&& 31))), z16, f_sk, h_e_br, by rw [met_c hGF (by omega) hc1_14 rfl rfl hc4_20 e_f4, tn_0 (Or.inl (by unfold isQ; unfold gNe at *; omega))]; exact ⟨rfl, rfl, rfl⟩, rfl⟩), by rw [ht]; exact hP.sub [3, 1, 6, 7, 4, 5, 0, 2] rfl, hD.sub [3, 1, 6, 7, 4, 5, 0, 2] (by decide +kernel) rfl⟩, hS.F ht⟩) hS.2.2 dX5_meetGlass_169
          ·
            have i_21 : ((z18 >>> (e_ho &&& 31)) &&& 1).toInt = 0 := g5_neN (a := ((z18 >>> (e_ho &&& 31)) &&& 1).toInt) (b := 0) rfl (by decide +kernel) c_21
            refine lv_aload_n hx hb dX5_meetGlass_137 rfl (lv_at hl 6 rfl) ?_
            refine va_get (D := G.1) (ci := 5) (v := .ref a_j) (C := RX5) (T := TX5) (N := 13) hx hb hts inG_X5 hown hK hP 3 rfl rfl 1 (by decide +kernel) (hts _ fl_X5_12) (fun _ h9 => h9) rfl dX5_meetGlass_138 ?_
            refine lv_aloadN hx hb dX5_meetGlass_141 (lv_at hl 0 rfl) ?_
            refine lv_iconst (v := 2) hx hb dX5_meetGlass_143 (by decide +kernel) ?_
            refine W.eq (g2 := F0 m 144 ls [.int 2, .null, .ref a_j]) rfl ?_
            obtain ⟨hPc, hDc, hFc⟩ := g5_sub3 (wc := [(a_j, (oc2 a_as a_sk)), (a_as, (arI G 8 z16)), (a_sk, (arJ G 50 f_sk))]) hP hD hS hA [4, 5, 0] (by decide +kernel) rfl
            refine va_calli (va_runV (As := [.null, .int 2]) (rest := []) ⟨hx, hb, hml, hown, hts⟩ (j_isHeldN l G a_j a_as a_sk H.size 2 z16 f_sk) (cwV 2 hts gV_X5_124 rfl rfl rfl hv_X2_isHeld ⟨Nat.le_of_ble_eq_true rfl, Nat.le_of_ble_eq_true rfl⟩) (g5_preV hPc hK hDc hN hT hS hFc (ci := 2) (q0 := 0) rfl rfl) rfl rfl hl.1 rfl (lv_room (Nat.le_of_ble_eq_true rfl)) dX5_meetGlass_144 ⟨Nat.le_of_ble_eq_true rfl, Nat.le_of_ble_eq_true rfl⟩) hS (fun q _ h => hFc q h) hFc (fun r u t H locs ht hvm hw hB hz1 hk1 hS => ?_)
            obtain ⟨hP1, hD1⟩ := hB
            have hP1 := g5_ht ht hP1
            obtain ⟨rfl, rfl⟩ := hw
            have hJ9 := va_join (wr := [(a_h, (oc1 e_wa e_le e_st e_fo e_lc a_l a_g a_b a_s a_p a_w e_gb a_bb)), (a_l, (arW G 6 f_l)), (a_k, (oc5 a_h a_j a_pt e_ln e_se e_lh e_br e_we (e_me ||| (1 <<< (z5 &&& 31))) e_ce e_wy e_ho 1)), (a_g, (oc6 6 5 a_gn e_g)), (a_gn, (arI G 30 f_g))]) hP hD [4, 5, 0] [1, 2, 3, 6, 7] rfl rfl (by decide +kernel) (by decide +kernel) hk1 hFc hP1 hD1
            clear hP hD hPc hDc hFc ht hvm hz1 hk1 hP1 hD1
            obtain ⟨hP, hD⟩ := hJ9
            refine g5_rs [(a_h, (oc1 e_wa e_le e_st e_fo e_lc a_l a_g a_b a_s a_p a_w e_gb a_bb)), (a_l, (arW G 6 f_l)), (a_k, (oc5 a_h a_j a_pt e_ln e_se e_lh e_br e_we (e_me ||| (1 <<< (z5 &&& 31))) e_ce e_wy e_ho 1)), (a_g, (oc6 6 5 a_gn e_g)), (a_gn, (arI G 30 f_g)), (a_j, (oc2 a_as a_sk)), (a_as, (arI G 8 z16)), (a_sk, (arJ G 50 f_sk))] hP hD ?_
            clear hP hD
            intro hP hD
            refine lv_if_ne (tgt := 169) hx hb dX5_meetGlass_147 (by decide +kernel) (fun c_22 => ?_) (fun c_22 => ?_)
            ·
              exact absurd c_22 (by decide +kernel)
            ·
              refine lv_iload hx hb dX5_meetGlass_150 (lv_at hl 1 rfl) ?_
              refine lv_iconst (v := 2) hx hb dX5_meetGlass_152 (by decide +kernel) ?_
              refine lv_icmp_lt (tgt := 170) hx hb dX5_meetGlass_153 (by decide +kernel) (fun c_23 => ?_) (fun c_23 => ?_)
              ·
                have i_23 : z12.toInt < 2 := g5_lt (a := z12.toInt) (b := 2) rfl (by decide +kernel) c_23
                have hNS : ¬ (isQ z18 e_ho ∨ toldW g_w 2 (askQ z5 e_ce e_ho e_wy (-1) e_ln e_br) ≠ none ∨ (2 ≤ z12.toInt ∧ e_wy.toInt ≠ z12.toInt % 4)) := ns_of (fun q9 => by unfold isQ at q9; unfold gNe at *; omega) (tW_n e_w) (fun q9 => by have q8 := wr_of (so := z12) (wy := e_wy) ⟨by omega, by omega⟩ ⟨by omega, by omega⟩; unfold gNe at *; omega)
                refine lv_aload_n hx hb dX5_meetGlass_170 rfl (lv_at hl 6 rfl) ?_
                refine va_get (D := G.1) (ci := 5) (v := .ref a_j) (C := RX5) (T := TX5) (N := 13) hx hb hts inG_X5 hown hK hP 2 rfl rfl 1 (by decide +kernel) (hts _ fl_X5_12) (fun _ h9 => h9) rfl dX5_meetGlass_171 ?_
                refine lv_aloadN hx hb dX5_meetGlass_174 (lv_at hl 0 rfl) ?_
                refine lv_iconst (v := 0) hx hb dX5_meetGlass_176 (by decide +kernel) ?_
                refine W.eq (g2 := F0 m 177 ls [.int 0, .null, .ref a_j]) rfl ?_
                obtain ⟨hPc, hDc, hFc⟩ := g5_sub3 (wc := [(a_j, (oc2 a_as a_sk)), (a_as, (arI G 8 z16)), (a_sk, (arJ G 50 f_sk))]) hP hD hS hA [5, 6, 7] (by decide +kernel) rfl
                refine va_calli (va_runV (As := [.null, .int 0]) (rest := []) ⟨hx, hb, hml, hown, hts⟩ (j_isHeldN l G a_j a_as a_sk H.size 0 z16 f_sk) (cwV 2 hts gV_X5_124 rfl rfl rfl hv_X2_isHeld ⟨Nat.le_of_ble_eq_true rfl, Nat.le_of_ble_eq_true rfl⟩) (g5_preV hPc hK hDc hN hT hS hFc (ci := 2) (q0 := 0) rfl rfl) rfl rfl hl.1 rfl (lv_room (Nat.le_of_ble_eq_true rfl)) dX5_meetGlass_177 ⟨Nat.le_of_ble_eq_true rfl, Nat.le_of_ble_eq_true rfl⟩) hS (fun q _ h => hFc q h) hFc (fun r u t H locs ht hvm hw hB hz1 hk1 hS => ?_)
                obtain ⟨hP1, hD1⟩ := hB
                have hP1 := g5_ht ht hP1
                obtain ⟨rfl, rfl⟩ := hw
                have hJ9 := va_join (wr := [(a_h, (oc1 e_wa e_le e_st e_fo e_lc a_l a_g a_b a_s a_p a_w e_gb a_bb)), (a_l, (arW G 6 f_l)), (a_k, (oc5 a_h a_j a_pt e_ln e_se e_lh e_br e_we (e_me ||| (1 <<< (z5 &&& 31))) e_ce e_wy e_ho 1)), (a_g, (oc6 6 5 a_gn e_g)), (a_gn, (arI G 30 f_g))]) hP hD [5, 6, 7] [0, 1, 2, 3, 4] rfl rfl (by decide +kernel) (by decide +kernel) hk1 hFc hP1 hD1
                clear hP hD hPc hDc hFc ht hvm hz1 hk1 hP1 hD1
                obtain ⟨hP, hD⟩ := hJ9
                refine g5_rs [(a_h, (oc1 e_wa e_le e_st e_fo e_lc a_l a_g a_b a_s a_p a_w e_gb a_bb)), (a_l, (arW G 6 f_l)), (a_k, (oc5 a_h a_j a_pt e_ln e_se e_lh e_br e_we (e_me ||| (1 <<< (z5 &&& 31))) e_ce e_wy e_ho 1)), (a_g, (oc6 6 5 a_gn e_g)), (a_gn, (arI G 30 f_g)), (a_j, (oc2 a_as a_sk)), (a_as, (arI G 8 z16)), (a_sk, (arJ G 50 f_sk))] hP hD ?_
                clear hP hD
                intro hP hD
                refine lv_if_eq (tgt := 195) hx hb dX5_meetGlass_180 (by decide +kernel) (fun c_24 => ?_) (fun c_24 => ?_)
                ·
                  refine lv_aload_n hx hb dX5_meetGlass_195 rfl (lv_at hl 4 rfl) ?_
                  refine lv_iload_n hx hb dX5_meetGlass_196 rfl (lv_at hl 3 rfl) ?_
                  refine lv_iconst (v := 2) hx hb dX5_meetGlass_197 (by decide +kernel) ?_
                  obtain ⟨hPc, hDc, hFc⟩ := g5_sub3 (wc := [(a_g, (oc6 6 5 a_gn e_g)), (a_gn, (arI G 30 f_g))]) hP hD hS hA [3, 4] (by decide +kernel) rfl
                  refine va_calli (va_runV (As := [.int z5, .int 2]) (rest := []) ⟨hx, hb, hml, hown, hts⟩ (t_get_G l G a_g a_gn H.size e_g z5 2 f_g h_e_g) (cwV 2 hts gV_X5_107 rfl rfl rfl hv_X6_get ⟨Nat.le_of_ble_eq_true rfl, Nat.le_of_ble_eq_true rfl⟩) (g5_preV hPc hK hDc hN hT hS hFc (ci := 6) (q0 := 0) rfl rfl) rfl rfl hl.1 rfl (lv_room (Nat.le_of_ble_eq_true rfl)) dX5_meetGlass_198 ⟨Nat.le_of_ble_eq_true rfl, Nat.le_of_ble_eq_true rfl⟩) hS (fun q _ h => hFc q h) hFc (fun r u t H locs ht hvm hw hB hz1 hk1 hS => ?_)
                  obtain ⟨hP1, hD1⟩ := hB
                  have hP1 := g5_ht ht hP1
                  obtain ⟨z26, (i_25 : z26 = tget f_g e_g.toInt 5 z5.toInt (2 : Int32).toInt), y27, rfl⟩ := hw
                  have hJ9 := va_join (wr := [(a_h, (oc1 e_wa e_le e_st e_fo e_lc a_l a_g a_b a_s a_p a_w e_gb a_bb)), (a_l, (arW G 6 f_l)), (a_k, (oc5 a_h a_j a_pt e_ln e_se e_lh e_br e_we (e_me ||| (1 <<< (z5 &&& 31))) e_ce e_wy e_ho 1)), (a_j, (oc2 a_as a_sk)), (a_as, (arI G 8 z16)), (a_sk, (arJ G 50 f_sk))]) hP hD [3, 4] [0, 1, 2, 5, 6, 7] rfl rfl (by decide +kernel) (by decide +kernel) hk1 hFc hP1 hD1
                  clear hP hD hPc hDc hFc ht hvm hz1 hk1 hP1 hD1
                  obtain ⟨hP, hD⟩ := hJ9
                  refine g5_rs [(a_h, (oc1 e_wa e_le e_st e_fo e_lc a_l a_g a_b a_s a_p a_w e_gb a_bb)), (a_l, (arW G 6 f_l)), (a_k, (oc5 a_h a_j a_pt e_ln e_se e_lh e_br e_we (e_me ||| (1 <<< (z5 &&& 31))) e_ce e_wy e_ho 1)), (a_j, (oc2 a_as a_sk)), (a_as, (arI G 8 z16)), (a_sk, (arJ G 50 f_sk)), (a_g, (oc6 6 5 a_gn e_g)), (a_gn, (arI G 30 f_g))] hP hD ?_
                  clear hP hD
                  intro hP hD
                  refine g5_ti (v := z26) y27 ?_
                  have hc2_29 := gl_col (k := 2) e_qg i_2 i_25 (by decide +kernel) (by omega)
                  have hg_29 : 0 ≤ z26.toInt ∧ z26.toInt ≤ 23 := by rw [i_25]; exact (e_gk z5.toInt (by omega) (by omega)).2.2.1
                  have hV_28 : z26 = tellQ (toldW g_w 0 (askQ z5 e_ce e_ho e_wy (-1) e_ln e_br)) (f_ro (80 + 5 * z5.toInt.toNat + 2)) 23 := hc2_29.symm.trans (tell_n (tW_n e_w))
                  refine W.eq (g2 := F0 m 201 ls [.int z26]) rfl ?_
                  refine lv_istore (lv' := [(7, .int z26), (6, .null), (5, .int z12), (4, .int z5), (3, .int z5), (2, .ref a_g), (1, .int z5), (0, .ref a_k)]) hx hb dX5_meetGlass_201 hl (by decide +kernel) rfl ?_
                  clear hl
                  intro ls hl
                  refine lv_iload hx hb dX5_meetGlass_203 (lv_at hl 0 rfl) ?_
                  refine lv_aload_n hx hb dX5_meetGlass_205 rfl (lv_at hl 7 rfl) ?_
                  refine va_get (D := G.1) (ci := 5) (v := .int e_ho) (C := RX5) (T := TX5) (N := 13) hx hb hts inG_X5 hown hK hP 2 rfl rfl 11 (by decide +kernel) (hts _ fl_X5_33) (fun _ h9 => h9) rfl dX5_meetGlass_206 ?_
                  refine lv_icmp_le (tgt := 213) hx hb dX5_meetGlass_209 (by decide +kernel) (fun c_30 => ?_) (fun c_30 => ?_)
                  ·
                    have i_30 : z26.toInt ≤ e_ho.toInt := g5_le (a := z26.toInt) (b := e_ho.toInt) rfl rfl c_30
                    refine lv_aload_n hx hb dX5_meetGlass_213 rfl (lv_at hl 7 rfl) ?_
                    refine va_get (D := G.1) (ci := 5) (v := .ref a_j) (C := RX5) (T := TX5) (N := 13) hx hb hts inG_X5 hown hK hP 2 rfl rfl 1 (by decide +kernel) (hts _ fl_X5_12) (fun _ h9 => h9) rfl dX5_meetGlass_214 ?_
                    refine lv_aloadN hx hb dX5_meetGlass_217 (lv_at hl 1 rfl) ?_
                    refine lv_iconst (v := 1) hx hb dX5_meetGlass_219 (by decide +kernel) ?_
                    refine W.eq (g2 := F0 m 220 ls [.int 1, .null, .ref a_j]) rfl ?_
                    obtain ⟨hPc, hDc, hFc⟩ := g5_sub3 (wc := [(a_j, (oc2 a_as a_sk)), (a_as, (arI G 8 z16)), (a_sk, (arJ G 50 f_sk))]) hP hD hS hA [3, 4, 5] (by decide +kernel) rfl
                    refine va_calli (va_runV (As := [.null, .int 1]) (rest := []) ⟨hx, hb, hml, hown, hts⟩ (j_isHeldN l G a_j a_as a_sk H.size 1 z16 f_sk) (cwV 2 hts gV_X5_124 rfl rfl rfl hv_X2_isHeld ⟨Nat.le_of_ble_eq_true rfl, Nat.le_of_ble_eq_true rfl⟩) (g5_preV hPc hK hDc hN hT hS hFc (ci := 2) (q0 := 0) rfl rfl) rfl rfl hl.1 rfl (lv_room (Nat.le_of_ble_eq_true rfl)) dX5_meetGlass_220 ⟨Nat.le_of_ble_eq_true rfl, Nat.le_of_ble_eq_true rfl⟩) hS (fun q _ h => hFc q h) hFc (fun r u t H locs ht hvm hw hB hz1 hk1 hS => ?_)
                    obtain ⟨hP1, hD1⟩ := hB
                    have hP1 := g5_ht ht hP1
                    obtain ⟨rfl, rfl⟩ := hw
                    have hJ9 := va_join (wr := [(a_h, (oc1 e_wa e_le e_st e_fo e_lc a_l a_g a_b a_s a_p a_w e_gb a_bb)), (a_l, (arW G 6 f_l)), (a_k, (oc5 a_h a_j a_pt e_ln e_se e_lh e_br e_we (e_me ||| (1 <<< (z5 &&& 31))) e_ce e_wy e_ho 1)), (a_g, (oc6 6 5 a_gn e_g)), (a_gn, (arI G 30 f_g))]) hP hD [3, 4, 5] [0, 1, 2, 6, 7] rfl rfl (by decide +kernel) (by decide +kernel) hk1 hFc hP1 hD1
                    clear hP hD hPc hDc hFc ht hvm hz1 hk1 hP1 hD1
                    obtain ⟨hP, hD⟩ := hJ9
                    refine g5_rs [(a_h, (oc1 e_wa e_le e_st e_fo e_lc a_l a_g a_b a_s a_p a_w e_gb a_bb)), (a_l, (arW G 6 f_l)), (a_k, (oc5 a_h a_j a_pt e_ln e_se e_lh e_br e_we (e_me ||| (1 <<< (z5 &&& 31))) e_ce e_wy e_ho 1)), (a_g, (oc6 6 5 a_gn e_g)), (a_gn, (arI G 30 f_g)), (a_j, (oc2 a_as a_sk)), (a_as, (arI G 8 z16)), (a_sk, (arJ G 50 f_sk))] hP hD ?_
                    clear hP hD
                    intro hP hD
                    refine lv_if_eq (tgt := 238) hx hb dX5_meetGlass_223 (by decide +kernel) (fun c_31 => ?_) (fun c_31 => ?_)
                    ·
                      refine lv_aload_n hx hb dX5_meetGlass_238 rfl (lv_at hl 5 rfl) ?_
                      refine lv_iload_n hx hb dX5_meetGlass_239 rfl (lv_at hl 4 rfl) ?_
                      refine lv_iconst (v := 3) hx hb dX5_meetGlass_240 (by decide +kernel) ?_
                      obtain ⟨hPc, hDc, hFc⟩ := g5_sub3 (wc := [(a_g, (oc6 6 5 a_gn e_g)), (a_gn, (arI G 30 f_g))]) hP hD hS hA [3, 4] (by decide +kernel) rfl
                      refine va_calli (va_runV (As := [.int z5, .int 3]) (rest := []) ⟨hx, hb, hml, hown, hts⟩ (t_get_G l G a_g a_gn H.size e_g z5 3 f_g h_e_g) (cwV 2 hts gV_X5_107 rfl rfl rfl hv_X6_get ⟨Nat.le_of_ble_eq_true rfl, Nat.le_of_ble_eq_true rfl⟩) (g5_preV hPc hK hDc hN hT hS hFc (ci := 6) (q0 := 0) rfl rfl) rfl rfl hl.1 rfl (lv_room (Nat.le_of_ble_eq_true rfl)) dX5_meetGlass_241 ⟨Nat.le_of_ble_eq_true rfl, Nat.le_of_ble_eq_true rfl⟩) hS (fun q _ h => hFc q h) hFc (fun r u t H locs ht hvm hw hB hz1 hk1 hS => ?_)
                      obtain ⟨hP1, hD1⟩ := hB
                      have hP1 := g5_ht ht hP1
                      obtain ⟨z33, (i_32 : z33 = tget f_g e_g.toInt 5 z5.toInt (3 : Int32).toInt), y34, rfl⟩ := hw
                      have hJ9 := va_join (wr := [(a_h, (oc1 e_wa e_le e_st e_fo e_lc a_l a_g a_b a_s a_p a_w e_gb a_bb)), (a_l, (arW G 6 f_l)), (a_k, (oc5 a_h a_j a_pt e_ln e_se e_lh e_br e_we (e_me ||| (1 <<< (z5 &&& 31))) e_ce e_wy e_ho 1)), (a_j, (oc2 a_as a_sk)), (a_as, (arI G 8 z16)), (a_sk, (arJ G 50 f_sk))]) hP hD [3, 4] [0, 1, 2, 5, 6, 7] rfl rfl (by decide +kernel) (by decide +kernel) hk1 hFc hP1 hD1
                      clear hP hD hPc hDc hFc ht hvm hz1 hk1 hP1 hD1
                      obtain ⟨hP, hD⟩ := hJ9
                      refine g5_rs [(a_h, (oc1 e_wa e_le e_st e_fo e_lc a_l a_g a_b a_s a_p a_w e_gb a_bb)), (a_l, (arW G 6 f_l)), (a_k, (oc5 a_h a_j a_pt e_ln e_se e_lh e_br e_we (e_me ||| (1 <<< (z5 &&& 31))) e_ce e_wy e_ho 1)), (a_j, (oc2 a_as a_sk)), (a_as, (arI G 8 z16)), (a_sk, (arJ G 50 f_sk)), (a_g, (oc6 6 5 a_gn e_g)), (a_gn, (arI G 30 f_g))] hP hD ?_
                      clear hP hD
                      intro hP hD
                      refine g5_ti (v := z33) y34 ?_
                      have hc3_36 := gl_col (k := 3) e_qg i_2 i_32 (by decide +kernel) (by omega)
                      have hg_36 : 0 ≤ z33.toInt ∧ z33.toInt ≤ 10 := by rw [i_32]; exact (e_gk z5.toInt (by omega) (by omega)).2.2.2
                      have hV_35 : z33 = tellQ (toldW g_w 1 (askQ z5 e_ce e_ho e_wy (-1) e_ln e_br)) (f_ro (80 + 5 * z5.toInt.toNat + 3)) 10 := hc3_36.symm.trans (tell_n (tW_n e_w))
                      refine W.eq (g2 := F0 m 244 ls [.int z33]) rfl ?_
                      refine lv_istore (lv' := [(8, .int z33), (7, .int z26), (6, .null), (5, .int z12), (4, .int z5), (3, .int z5), (2, .ref a_g), (1, .int z5), (0, .ref a_k)]) hx hb dX5_meetGlass_244 hl (by decide +kernel) rfl ?_
                      clear hl
                      intro ls hl
                      refine lv_aload_n hx hb dX5_meetGlass_246 rfl (lv_at hl 8 rfl) ?_
                      refine lv_aload_n hx hb dX5_meetGlass_247 rfl (lv_at hl 8 rfl) ?_
                      refine va_get (D := G.1) (ci := 5) (v := .int e_br) (C := RX5) (T := TX5) (N := 13) hx hb hts inG_X5 hown hK hP 2 rfl rfl 6 (by decide +kernel) (hts _ fl_X5_46) (fun _ h9 => h9) rfl dX5_meetGlass_248 ?_
                      refine lv_bipush (v := 10) hx hb dX5_meetGlass_251 (by decide +kernel) ?_
                      refine W.eq (g2 := F0 m 253 ls [.int 10, .int e_br, .ref a_k]) rfl ?_
                      refine lv_iload hx hb dX5_meetGlass_253 (lv_at hl 0 rfl) ?_
                      refine lv_isub hx hb dX5_meetGlass_255 ?_
                      have t_37 : (10 - z33).toInt = 10 - z33.toInt := g5_isub (a := 10) (b := z33.toInt) (by decide +kernel) (by rfl) (by omega) (by omega)
                      refine lv_imul hx hb dX5_meetGlass_256 ?_
                      refine lv_bipush (v := 10) hx hb dX5_meetGlass_257 (by decide +kernel) ?_
                      refine lv_idiv hx hb dX5_meetGlass_259 (by decide +kernel) ?_
                      have hb_38 : 0 ≤ ((e_br * (10 - z33)) / 10).toInt ∧ ((e_br * (10 - z33)) / 10).toInt ≤ 1000000 := g_dust (by omega) (by omega)
                      refine W.eq (g2 := F0 m 260 ls [.int ((e_br * (10 - z33)) / 10), .ref a_k]) rfl ?_
                      refine va_put (D := G.1) (ci := 5) (v := .int ((e_br * (10 - z33)) / 10)) (ty := .int) (C := RX5) (T := TX5) (N := 13) hx hb hts inG_X5 tyX5 tyX5_ok nmX5 hown hK hP hD hS 2 rfl rfl 6 (by decide +kernel) (hts _ fl_X5_46) (fun _ h9 => h9) rfl (by decide +kernel) rfl rfl (Nat.le_of_ble_eq_true rfl) dX5_meetGlass_260 ?_
                      clear hP hD hS
                      intro H locs hP hD hS
                      refine g5_rs [(a_h, (oc1 e_wa e_le e_st e_fo e_lc a_l a_g a_b a_s a_p a_w e_gb a_bb)), (a_l, (arW G 6 f_l)), (a_k, (oc5 a_h a_j a_pt e_ln e_se e_lh ((e_br * (10 - z33)) / 10) e_we (e_me ||| (1 <<< (z5 &&& 31))) e_ce e_wy e_ho 1)), (a_j, (oc2 a_as a_sk)), (a_as, (arI G 8 z16)), (a_sk, (arJ G 50 f_sk)), (a_g, (oc6 6 5 a_gn e_g)), (a_gn, (arI G 30 f_g))] hP hD ?_
                      clear hP hD
                      intro hP hD
                      refine lv_aload_n hx hb dX5_meetGlass_263 rfl (lv_at hl 8 rfl) ?_
                      refine va_get (D := G.1) (ci := 5) (v := .int ((e_br * (10 - z33)) / 10)) (C := RX5) (T := TX5) (N := 13) hx hb hts inG_X5 hown hK hP 2 rfl rfl 6 (by decide +kernel) (hts _ fl_X5_46) (fun _ h9 => h9) rfl dX5_meetGlass_264 ?_
                      refine lv_aload_n hx hb dX5_meetGlass_267 rfl (lv_at hl 8 rfl) ?_
                      refine va_get (D := G.1) (ci := 5) (v := .ref a_h) (C := RX5) (T := TX5) (N := 13) hx hb hts inG_X5 hown hK hP 2 rfl rfl 0 (by decide +kernel) (hts _ fl_X5_22) (fun _ h9 => h9) rfl dX5_meetGlass_268 ?_
                      refine W.eq (g2 := F0 m 271 ls [.ref a_h, .int ((e_br * (10 - z33)) / 10)]) rfl ?_
                      refine va_get (D := G.1) (ci := 1) (v := .int e_le) (C := RX1) (T := TX1) (N := 13) hx hb hts inG_X1 hown hK hP 0 rfl rfl 1 (by decide +kernel) (hts _ fl_X5_138) (fun _ h9 => h9) rfl dX5_meetGlass_271 ?_
                      refine lv_icmp_ge (tgt := 278) hx hb dX5_meetGlass_274 (by decide +kernel) (fun c_39 => ?_) (fun c_39 => ?_)
                      ·
                        have i_39 : ((e_br * (10 - z33)) / 10).toInt ≥ e_le.toInt := g5_ge (a := ((e_br * (10 - z33)) / 10).toInt) (b := e_le.toInt) rfl rfl c_39
                        refine lv_aload_n hx hb dX5_meetGlass_278 rfl (lv_at hl 8 rfl) ?_
                        refine lv_dup hx hb dX5_meetGlass_279 rfl ?_
                        refine va_get (D := G.1) (ci := 5) (v := .int e_ho) (C := RX5) (T := TX5) (N := 13) hx hb hts inG_X5 hown hK hP 2 rfl rfl 11 (by decide +kernel) (hts _ fl_X5_33) (fun _ h9 => h9) rfl dX5_meetGlass_280 ?_
                        refine lv_iload hx hb dX5_meetGlass_283 (lv_at hl 1 rfl) ?_
                        refine W.eq (g2 := F0 m 285 ls [.int z26, .int e_ho, .ref a_k]) rfl ?_
                        refine lv_isub hx hb dX5_meetGlass_285 ?_
                        have t_40 : (e_ho - z26).toInt = e_ho.toInt - z26.toInt := g5_isub (a := e_ho.toInt) (b := z26.toInt) (by rfl) (by rfl) (by omega) (by omega)
                        refine va_put (D := G.1) (ci := 5) (v := .int (e_ho - z26)) (ty := .int) (C := RX5) (T := TX5) (N := 13) hx hb hts inG_X5 tyX5 tyX5_ok nmX5 hown hK hP hD hS 2 rfl rfl 11 (by decide +kernel) (hts _ fl_X5_33) (fun _ h9 => h9) rfl (by decide +kernel) rfl rfl (Nat.le_of_ble_eq_true rfl) dX5_meetGlass_286 ?_
                        clear hP hD hS
                        intro H locs hP hD hS
                        refine g5_rs [(a_h, (oc1 e_wa e_le e_st e_fo e_lc a_l a_g a_b a_s a_p a_w e_gb a_bb)), (a_l, (arW G 6 f_l)), (a_k, (oc5 a_h a_j a_pt e_ln e_se e_lh ((e_br * (10 - z33)) / 10) e_we (e_me ||| (1 <<< (z5 &&& 31))) e_ce e_wy (e_ho - z26) 1)), (a_j, (oc2 a_as a_sk)), (a_as, (arI G 8 z16)), (a_sk, (arJ G 50 f_sk)), (a_g, (oc6 6 5 a_gn e_g)), (a_gn, (arI G 30 f_g))] hP hD ?_
                        clear hP hD
                        intro hP hD
                        refine lv_aload_n hx hb dX5_meetGlass_289 rfl (lv_at hl 8 rfl) ?_
                        refine lv_iload hx hb dX5_meetGlass_290 (lv_at hl 3 rfl) ?_
                        refine lv_if_ne (tgt := 304) hx hb dX5_meetGlass_292 (by decide +kernel) (fun c_41 => ?_) (fun c_41 => ?_)
                        ·
                          have n_41 : gNe (z12.toInt) (0) := g5_ne (a := z12.toInt) (b := 0) rfl (by decide +kernel) c_41
                          have i_41 : z12.toInt ≥ 1 := by have z := g5_ne (a := z12.toInt) (b := 0) (by rfl) (by decide +kernel) c_41; omega
                          refine lv_iload hx hb dX5_meetGlass_304 (lv_at hl 3 rfl) ?_
                          refine lv_iconst (v := 1) hx hb dX5_meetGlass_306 (by decide +kernel) ?_
                          refine lv_icmp_ne (tgt := 319) hx hb dX5_meetGlass_307 (by decide +kernel) (fun c_42 => ?_) (fun c_42 => ?_)
                          ·
                            have i_42 : z12.toInt ≠ 1 := g5_ne (a := z12.toInt) (b := 1) rfl (by decide +kernel) c_42
                            omega
                          ·
                            have i_42 : z12.toInt = 1 := g5_neN (a := z12.toInt) (b := 1) rfl (by decide +kernel) c_42
                            refine lv_iconst (v := 3) hx hb dX5_meetGlass_310 (by decide +kernel) ?_
                            refine lv_aload_n hx hb dX5_meetGlass_311 rfl (lv_at hl 8 rfl) ?_
                            refine va_get (D := G.1) (ci := 5) (v := .int e_wy) (C := RX5) (T := TX5) (N := 13) hx hb hts inG_X5 hown hK hP 2 rfl rfl 10 (by decide +kernel) (hts _ fl_X5_30) (fun _ h9 => h9) rfl dX5_meetGlass_312 ?_
                            refine lv_isub hx hb dX5_meetGlass_315 ?_
                            have t_43 : (3 - e_wy).toInt = 3 - e_wy.toInt := g5_isub (a := 3) (b := e_wy.toInt) (by decide +kernel) (by rfl) (by omega) (by omega)
                            refine W.eq (g2 := F0 m 316 ls [.int (3 - e_wy), .ref a_k]) rfl ?_
                            refine lv_goto (tgt := 325) hx hb dX5_meetGlass_316 (by decide +kernel) ?_
                            refine va_put (D := G.1) (ci := 5) (v := .int (3 - e_wy)) (ty := .int) (C := RX5) (T := TX5) (N := 13) hx hb hts inG_X5 tyX5 tyX5_ok nmX5 hown hK hP hD hS 2 rfl rfl 10 (by decide +kernel) (hts _ fl_X5_30) (fun _ h9 => h9) rfl (by decide +kernel) rfl rfl (Nat.le_of_ble_eq_true rfl) dX5_meetGlass_325 ?_
                            clear hP hD hS
                            intro H locs hP hD hS
                            refine g5_rs [(a_h, (oc1 e_wa e_le e_st e_fo e_lc a_l a_g a_b a_s a_p a_w e_gb a_bb)), (a_l, (arW G 6 f_l)), (a_k, (oc5 a_h a_j a_pt e_ln e_se e_lh ((e_br * (10 - z33)) / 10) e_we (e_me ||| (1 <<< (z5 &&& 31))) e_ce (3 - e_wy) (e_ho - z26) 1)), (a_j, (oc2 a_as a_sk)), (a_as, (arI G 8 z16)), (a_sk, (arJ G 50 f_sk)), (a_g, (oc6 6 5 a_gn e_g)), (a_gn, (arI G 30 f_g))] hP hD ?_
                            clear hP hD
                            intro hP hD
                            refine lv_aload_n hx hb dX5_meetGlass_328 rfl (lv_at hl 8 rfl) ?_
                            refine lv_dup hx hb dX5_meetGlass_329 rfl ?_
                            refine va_get (D := G.1) (ci := 5) (v := .int e_we) (C := RX5) (T := TX5) (N := 13) hx hb hts inG_X5 hown hK hP 2 rfl rfl 7 (by decide +kernel) (hts _ fl_X5_49) (fun _ h9 => h9) rfl dX5_meetGlass_330 ?_
                            refine W.eq (g2 := F0 m 333 ls [.int e_we, .ref a_k]) rfl ?_
                            refine lv_iconst (v := 1) hx hb dX5_meetGlass_333 (by decide +kernel) ?_
                            refine lv_iload hx hb dX5_meetGlass_334 (lv_at hl 4 rfl) ?_
                            refine lv_ishl hx hb dX5_meetGlass_336 ?_
                            refine lv_ior hx hb dX5_meetGlass_337 ?_
                            refine va_put (D := G.1) (ci := 5) (v := .int (e_we ||| (1 <<< (z5 &&& 31)))) (ty := .int) (C := RX5) (T := TX5) (N := 13) hx hb hts inG_X5 tyX5 tyX5_ok nmX5 hown hK hP hD hS 2 rfl rfl 7 (by decide +kernel) (hts _ fl_X5_49) (fun _ h9 => h9) rfl (by decide +kernel) rfl rfl (Nat.le_of_ble_eq_true rfl) dX5_meetGlass_338 ?_
                            clear hP hD hS
                            intro H locs hP hD hS
                            refine g5_rs [(a_h, (oc1 e_wa e_le e_st e_fo e_lc a_l a_g a_b a_s a_p a_w e_gb a_bb)), (a_l, (arW G 6 f_l)), (a_k, (oc5 a_h a_j a_pt e_ln e_se e_lh ((e_br * (10 - z33)) / 10) (e_we ||| (1 <<< (z5 &&& 31))) (e_me ||| (1 <<< (z5 &&& 31))) e_ce (3 - e_wy) (e_ho - z26) 1)), (a_j, (oc2 a_as a_sk)), (a_as, (arI G 8 z16)), (a_sk, (arJ G 50 f_sk)), (a_g, (oc6 6 5 a_gn e_g)), (a_gn, (arI G 30 f_g))] hP hD ?_
                            clear hP hD
                            intro hP hD
                            refine W.eq (g2 := F0 m 341 ls []) rfl ?_
                            refine lv_aload_n hx hb dX5_meetGlass_341 rfl (lv_at hl 8 rfl) ?_
                            refine lv_iconst (v := 0) hx hb dX5_meetGlass_342 (by decide +kernel) ?_
                            refine va_put (D := G.1) (ci := 5) (v := .int 0) (ty := .boolean) (C := RX5) (T := TX5) (N := 13) hx hb hts inG_X5 tyX5 tyX5_ok nmX5 hown hK hP hD hS 2 rfl rfl 12 (by decide +kernel) (hts _ fl_X5_56) (fun _ h9 => h9) rfl (by decide +kernel) rfl rfl (Nat.le_of_ble_eq_true rfl) dX5_meetGlass_343 ?_
                            clear hP hD hS
                            intro H locs hP hD hS
                            refine g5_rs [(a_h, (oc1 e_wa e_le e_st e_fo e_lc a_l a_g a_b a_s a_p a_w e_gb a_bb)), (a_l, (arW G 6 f_l)), (a_k, (oc5 a_h a_j a_pt e_ln e_se e_lh ((e_br * (10 - z33)) / 10) (e_we ||| (1 <<< (z5 &&& 31))) (e_me ||| (1 <<< (z5 &&& 31))) e_ce (3 - e_wy) (e_ho - z26) 0)), (a_j, (oc2 a_as a_sk)), (a_as, (arI G 8 z16)), (a_sk, (arJ G 50 f_sk)), (a_g, (oc6 6 5 a_gn e_g)), (a_gn, (arI G 30 f_g))] hP hD ?_
                            clear hP hD
                            intro hP hD
                            exact W.vret hx hb hr (fun t ht hW => ⟨⟨[(a_k, (oc5 a_h a_j a_pt e_ln e_se e_lh ((e_br * (10 - z33)) / 10) (e_we ||| (1 <<< (z5 &&& 31))) (e_me ||| (1 <<< (z5 &&& 31))) e_ce (3 - e_wy) (e_ho - z26) 0)), (a_h, (oc1 e_wa e_le e_st e_fo e_lc a_l a_g a_b a_s a_p a_w e_gb a_bb)), (a_g, (oc6 6 5 a_gn e_g)), (a_gn, (arI G 30 f_g)), (a_j, (oc2 a_as a_sk)), (a_as, (arI G 8 z16)), (a_sk, (arJ G 50 f_sk)), (a_l, (arW G 6 f_l))], rfl, Or.inr (⟨((e_br * (10 - z33)) / 10), (e_we ||| (1 <<< (z5 &&& 31))), (e_me ||| (1 <<< (z5 &&& 31))), (3 - e_wy), (e_ho - z26), z16, f_sk, ⟨by omega, by omega⟩, ⟨by omega, by omega⟩, ⟨by omega, by omega⟩, by rw [met_c hGF (by omega) hc1_14 rfl rfl hc4_20 e_f4, tn_3 hNS hV_28 (by omega) hV_35 rfl (by omega), nw_1 (so := z12) (by omega)], rfl⟩), by rw [ht]; exact hP.sub [2, 0, 6, 7, 3, 4, 5, 1] rfl, hD.sub [2, 0, 6, 7, 3, 4, 5, 1] (by decide +kernel) rfl⟩, hS.F ht⟩) hS.2.2 dX5_meetGlass_346
                        ·
                          have i_41 : z12.toInt = 0 := g5_neN (a := z12.toInt) (b := 0) rfl (by decide +kernel) c_41
                          refine lv_aload_n hx hb dX5_meetGlass_295 rfl (lv_at hl 8 rfl) ?_
                          refine va_get (D := G.1) (ci := 5) (v := .int e_wy) (C := RX5) (T := TX5) (N := 13) hx hb hts inG_X5 hown hK hP 2 rfl rfl 10 (by decide +kernel) (hts _ fl_X5_30) (fun _ h9 => h9) rfl dX5_meetGlass_296 ?_
                          refine lv_iconst (v := 1) hx hb dX5_meetGlass_299 (by decide +kernel) ?_
                          refine lv_ixor hx hb dX5_meetGlass_300 ?_
                          have hx_44 := (g_xor (w := e_wy) (by omega) (by omega)).1
                          refine W.eq (g2 := F0 m 301 ls [.int (e_wy ^^^ 1), .ref a_k]) rfl ?_
                          refine lv_goto (tgt := 325) hx hb dX5_meetGlass_301 (by decide +kernel) ?_
                          refine va_put (D := G.1) (ci := 5) (v := .int (e_wy ^^^ 1)) (ty := .int) (C := RX5) (T := TX5) (N := 13) hx hb hts inG_X5 tyX5 tyX5_ok nmX5 hown hK hP hD hS 2 rfl rfl 10 (by decide +kernel) (hts _ fl_X5_30) (fun _ h9 => h9) rfl (by decide +kernel) rfl rfl (Nat.le_of_ble_eq_true rfl) dX5_meetGlass_325 ?_
                          clear hP hD hS
                          intro H locs hP hD hS
                          refine g5_rs [(a_h, (oc1 e_wa e_le e_st e_fo e_lc a_l a_g a_b a_s a_p a_w e_gb a_bb)), (a_l, (arW G 6 f_l)), (a_k, (oc5 a_h a_j a_pt e_ln e_se e_lh ((e_br * (10 - z33)) / 10) e_we (e_me ||| (1 <<< (z5 &&& 31))) e_ce (e_wy ^^^ 1) (e_ho - z26) 1)), (a_j, (oc2 a_as a_sk)), (a_as, (arI G 8 z16)), (a_sk, (arJ G 50 f_sk)), (a_g, (oc6 6 5 a_gn e_g)), (a_gn, (arI G 30 f_g))] hP hD ?_
                          clear hP hD
                          intro hP hD
                          refine lv_aload_n hx hb dX5_meetGlass_328 rfl (lv_at hl 8 rfl) ?_
                          refine lv_dup hx hb dX5_meetGlass_329 rfl ?_
                          refine va_get (D := G.1) (ci := 5) (v := .int e_we) (C := RX5) (T := TX5) (N := 13) hx hb hts inG_X5 hown hK hP 2 rfl rfl 7 (by decide +kernel) (hts _ fl_X5_49) (fun _ h9 => h9) rfl dX5_meetGlass_330 ?_
                          refine W.eq (g2 := F0 m 333 ls [.int e_we, .ref a_k]) rfl ?_
                          refine lv_iconst (v := 1) hx hb dX5_meetGlass_333 (by decide +kernel) ?_
                          refine lv_iload hx hb dX5_meetGlass_334 (lv_at hl 4 rfl) ?_
                          refine lv_ishl hx hb dX5_meetGlass_336 ?_
                          refine lv_ior hx hb dX5_meetGlass_337 ?_
                          refine va_put (D := G.1) (ci := 5) (v := .int (e_we ||| (1 <<< (z5 &&& 31)))) (ty := .int) (C := RX5) (T := TX5) (N := 13) hx hb hts inG_X5 tyX5 tyX5_ok nmX5 hown hK hP hD hS 2 rfl rfl 7 (by decide +kernel) (hts _ fl_X5_49) (fun _ h9 => h9) rfl (by decide +kernel) rfl rfl (Nat.le_of_ble_eq_true rfl) dX5_meetGlass_338 ?_
                          clear hP hD hS
                          intro H locs hP hD hS
                          refine g5_rs [(a_h, (oc1 e_wa e_le e_st e_fo e_lc a_l a_g a_b a_s a_p a_w e_gb a_bb)), (a_l, (arW G 6 f_l)), (a_k, (oc5 a_h a_j a_pt e_ln e_se e_lh ((e_br * (10 - z33)) / 10) (e_we ||| (1 <<< (z5 &&& 31))) (e_me ||| (1 <<< (z5 &&& 31))) e_ce (e_wy ^^^ 1) (e_ho - z26) 1)), (a_j, (oc2 a_as a_sk)), (a_as, (arI G 8 z16)), (a_sk, (arJ G 50 f_sk)), (a_g, (oc6 6 5 a_gn e_g)), (a_gn, (arI G 30 f_g))] hP hD ?_
                          clear hP hD
                          intro hP hD
                          refine W.eq (g2 := F0 m 341 ls []) rfl ?_
                          refine lv_aload_n hx hb dX5_meetGlass_341 rfl (lv_at hl 8 rfl) ?_
                          refine lv_iconst (v := 0) hx hb dX5_meetGlass_342 (by decide +kernel) ?_
                          refine va_put (D := G.1) (ci := 5) (v := .int 0) (ty := .boolean) (C := RX5) (T := TX5) (N := 13) hx hb hts inG_X5 tyX5 tyX5_ok nmX5 hown hK hP hD hS 2 rfl rfl 12 (by decide +kernel) (hts _ fl_X5_56) (fun _ h9 => h9) rfl (by decide +kernel) rfl rfl (Nat.le_of_ble_eq_true rfl) dX5_meetGlass_343 ?_
                          clear hP hD hS
                          intro H locs hP hD hS
                          refine g5_rs [(a_h, (oc1 e_wa e_le e_st e_fo e_lc a_l a_g a_b a_s a_p a_w e_gb a_bb)), (a_l, (arW G 6 f_l)), (a_k, (oc5 a_h a_j a_pt e_ln e_se e_lh ((e_br * (10 - z33)) / 10) (e_we ||| (1 <<< (z5 &&& 31))) (e_me ||| (1 <<< (z5 &&& 31))) e_ce (e_wy ^^^ 1) (e_ho - z26) 0)), (a_j, (oc2 a_as a_sk)), (a_as, (arI G 8 z16)), (a_sk, (arJ G 50 f_sk)), (a_g, (oc6 6 5 a_gn e_g)), (a_gn, (arI G 30 f_g))] hP hD ?_
                          clear hP hD
                          intro hP hD
                          exact W.vret hx hb hr (fun t ht hW => ⟨⟨[(a_k, (oc5 a_h a_j a_pt e_ln e_se e_lh ((e_br * (10 - z33)) / 10) (e_we ||| (1 <<< (z5 &&& 31))) (e_me ||| (1 <<< (z5 &&& 31))) e_ce (e_wy ^^^ 1) (e_ho - z26) 0)), (a_h, (oc1 e_wa e_le e_st e_fo e_lc a_l a_g a_b a_s a_p a_w e_gb a_bb)), (a_g, (oc6 6 5 a_gn e_g)), (a_gn, (arI G 30 f_g)), (a_j, (oc2 a_as a_sk)), (a_as, (arI G 8 z16)), (a_sk, (arJ G 50 f_sk)), (a_l, (arW G 6 f_l))], rfl, Or.inr (⟨((e_br * (10 - z33)) / 10), (e_we ||| (1 <<< (z5 &&& 31))), (e_me ||| (1 <<< (z5 &&& 31))), (e_wy ^^^ 1), (e_ho - z26), z16, f_sk, ⟨by omega, by omega⟩, ⟨by omega, by omega⟩, ⟨by omega, by omega⟩, by rw [met_c hGF (by omega) hc1_14 rfl rfl hc4_20 e_f4, tn_3 hNS hV_28 (by omega) hV_35 rfl (by omega), nw_0 (so := z12) (by omega)], rfl⟩), by rw [ht]; exact hP.sub [2, 0, 6, 7, 3, 4, 5, 1] rfl, hD.sub [2, 0, 6, 7, 3, 4, 5, 1] (by decide +kernel) rfl⟩, hS.F ht⟩) hS.2.2 dX5_meetGlass_346
                      ·
                        have i_39 : ((e_br * (10 - z33)) / 10).toInt < e_le.toInt := g5_geN (a := ((e_br * (10 - z33)) / 10).toInt) (b := e_le.toInt) rfl rfl c_39
                        exact W.vret hx hb hr (fun t ht hW => ⟨⟨[(a_k, (oc5 a_h a_j a_pt e_ln e_se e_lh ((e_br * (10 - z33)) / 10) e_we (e_me ||| (1 <<< (z5 &&& 31))) e_ce e_wy e_ho 1)), (a_h, (oc1 e_wa e_le e_st e_fo e_lc a_l a_g a_b a_s a_p a_w e_gb a_bb)), (a_g, (oc6 6 5 a_gn e_g)), (a_gn, (arI G 30 f_g)), (a_j, (oc2 a_as a_sk)), (a_as, (arI G 8 z16)), (a_sk, (arJ G 50 f_sk)), (a_l, (arW G 6 f_l))], rfl, Or.inl (⟨((e_br * (10 - z33)) / 10), (e_me ||| (1 <<< (z5 &&& 31))), z16, f_sk, ⟨by omega, by omega⟩, by rw [met_c hGF (by omega) hc1_14 rfl rfl hc4_20 e_f4, tn_2 hNS hV_28 (by omega) hV_35 rfl (by omega)]; exact ⟨rfl, rfl, rfl⟩, rfl⟩), by rw [ht]; exact hP.sub [2, 0, 6, 7, 3, 4, 5, 1] rfl, hD.sub [2, 0, 6, 7, 3, 4, 5, 1] (by decide +kernel) rfl⟩, hS.F ht⟩) hS.2.2 dX5_meetGlass_277
                    ·
                      exact absurd c_31 (by decide +kernel)
                  ·
                    have i_30 : z26.toInt > e_ho.toInt := g5_leN (a := z26.toInt) (b := e_ho.toInt) rfl rfl c_30
                    exact W.vret hx hb hr (fun t ht hW => ⟨⟨[(a_k, (oc5 a_h a_j a_pt e_ln e_se e_lh e_br e_we (e_me ||| (1 <<< (z5 &&& 31))) e_ce e_wy e_ho 1)), (a_h, (oc1 e_wa e_le e_st e_fo e_lc a_l a_g a_b a_s a_p a_w e_gb a_bb)), (a_g, (oc6 6 5 a_gn e_g)), (a_gn, (arI G 30 f_g)), (a_j, (oc2 a_as a_sk)), (a_as, (arI G 8 z16)), (a_sk, (arJ G 50 f_sk)), (a_l, (arW G 6 f_l))], rfl, Or.inl (⟨e_br, (e_me ||| (1 <<< (z5 &&& 31))), z16, f_sk, h_e_br, by rw [met_c hGF (by omega) hc1_14 rfl rfl hc4_20 e_f4, tn_1 hNS hV_28 (by omega)]; exact ⟨rfl, rfl, rfl⟩, rfl⟩), by rw [ht]; exact hP.sub [2, 0, 6, 7, 3, 4, 5, 1] rfl, hD.sub [2, 0, 6, 7, 3, 4, 5, 1] (by decide +kernel) rfl⟩, hS.F ht⟩) hS.2.2 dX5_meetGlass_212
                ·
                  exact absurd c_24 (by decide +kernel)
              ·
                have i_23 : z12.toInt ≥ 2 := g5_ltN (a := z12.toInt) (b := 2) rfl (by decide +kernel) c_23
                refine lv_iload hx hb dX5_meetGlass_156 (lv_at hl 1 rfl) ?_
                refine lv_iconst (v := 2) hx hb dX5_meetGlass_158 (by decide +kernel) ?_
                refine lv_isub hx hb dX5_meetGlass_159 ?_
                have t_45 : (z12 - 2).toInt = z12.toInt - 2 := g5_isub (a := z12.toInt) (b := 2) (by rfl) (by decide +kernel) (by omega) (by omega)
                refine lv_aload_n hx hb dX5_meetGlass_160 rfl (lv_at hl 6 rfl) ?_
                refine W.eq (g2 := F0 m 161 ls [.ref a_k, .int (z12 - 2)]) rfl ?_
                refine va_get (D := G.1) (ci := 5) (v := .int e_wy) (C := RX5) (T := TX5) (N := 13) hx hb hts inG_X5 hown hK hP 2 rfl rfl 10 (by decide +kernel) (hts _ fl_X5_30) (fun _ h9 => h9) rfl dX5_meetGlass_161 ?_
                refine lv_iconst (v := 2) hx hb dX5_meetGlass_164 (by decide +kernel) ?_
                refine lv_ixor hx hb dX5_meetGlass_165 ?_
                have hx_46 := (g_xor (w := e_wy) (by omega) (by omega)).2
                refine lv_icmp_eq (tgt := 170) hx hb dX5_meetGlass_166 (by decide +kernel) (fun c_47 => ?_) (fun c_47 => ?_)
                ·
                  have i_47 : (z12.toInt - 2) = (e_wy ^^^ 2).toInt := by have z := g5_eq (a := (z12 - 2).toInt) (b := (e_wy ^^^ 2).toInt) (by rfl) (by rfl) c_47; omega
                  have hNS : ¬ (isQ z18 e_ho ∨ toldW g_w 2 (askQ z5 e_ce e_ho e_wy (-1) e_ln e_br) ≠ none ∨ (2 ≤ z12.toInt ∧ e_wy.toInt ≠ z12.toInt % 4)) := ns_of (fun q9 => by unfold isQ at q9; unfold gNe at *; omega) (tW_n e_w) (fun q9 => by have q8 := wr_of (so := z12) (wy := e_wy) ⟨by omega, by omega⟩ ⟨by omega, by omega⟩; unfold gNe at *; omega)
                  refine lv_aload_n hx hb dX5_meetGlass_170 rfl (lv_at hl 6 rfl) ?_
                  refine va_get (D := G.1) (ci := 5) (v := .ref a_j) (C := RX5) (T := TX5) (N := 13) hx hb hts inG_X5 hown hK hP 2 rfl rfl 1 (by decide +kernel) (hts _ fl_X5_12) (fun _ h9 => h9) rfl dX5_meetGlass_171 ?_
                  refine lv_aloadN hx hb dX5_meetGlass_174 (lv_at hl 0 rfl) ?_
                  refine lv_iconst (v := 0) hx hb dX5_meetGlass_176 (by decide +kernel) ?_
                  refine W.eq (g2 := F0 m 177 ls [.int 0, .null, .ref a_j]) rfl ?_
                  obtain ⟨hPc, hDc, hFc⟩ := g5_sub3 (wc := [(a_j, (oc2 a_as a_sk)), (a_as, (arI G 8 z16)), (a_sk, (arJ G 50 f_sk))]) hP hD hS hA [5, 6, 7] (by decide +kernel) rfl
                  refine va_calli (va_runV (As := [.null, .int 0]) (rest := []) ⟨hx, hb, hml, hown, hts⟩ (j_isHeldN l G a_j a_as a_sk H.size 0 z16 f_sk) (cwV 2 hts gV_X5_124 rfl rfl rfl hv_X2_isHeld ⟨Nat.le_of_ble_eq_true rfl, Nat.le_of_ble_eq_true rfl⟩) (g5_preV hPc hK hDc hN hT hS hFc (ci := 2) (q0 := 0) rfl rfl) rfl rfl hl.1 rfl (lv_room (Nat.le_of_ble_eq_true rfl)) dX5_meetGlass_177 ⟨Nat.le_of_ble_eq_true rfl, Nat.le_of_ble_eq_true rfl⟩) hS (fun q _ h => hFc q h) hFc (fun r u t H locs ht hvm hw hB hz1 hk1 hS => ?_)
                  obtain ⟨hP1, hD1⟩ := hB
                  have hP1 := g5_ht ht hP1
                  obtain ⟨rfl, rfl⟩ := hw
                  have hJ9 := va_join (wr := [(a_h, (oc1 e_wa e_le e_st e_fo e_lc a_l a_g a_b a_s a_p a_w e_gb a_bb)), (a_l, (arW G 6 f_l)), (a_k, (oc5 a_h a_j a_pt e_ln e_se e_lh e_br e_we (e_me ||| (1 <<< (z5 &&& 31))) e_ce e_wy e_ho 1)), (a_g, (oc6 6 5 a_gn e_g)), (a_gn, (arI G 30 f_g))]) hP hD [5, 6, 7] [0, 1, 2, 3, 4] rfl rfl (by decide +kernel) (by decide +kernel) hk1 hFc hP1 hD1
                  clear hP hD hPc hDc hFc ht hvm hz1 hk1 hP1 hD1
                  obtain ⟨hP, hD⟩ := hJ9
                  refine g5_rs [(a_h, (oc1 e_wa e_le e_st e_fo e_lc a_l a_g a_b a_s a_p a_w e_gb a_bb)), (a_l, (arW G 6 f_l)), (a_k, (oc5 a_h a_j a_pt e_ln e_se e_lh e_br e_we (e_me ||| (1 <<< (z5 &&& 31))) e_ce e_wy e_ho 1)), (a_g, (oc6 6 5 a_gn e_g)), (a_gn, (arI G 30 f_g)), (a_j, (oc2 a_as a_sk)), (a_as, (arI G 8 z16)), (a_sk, (arJ G 50 f_sk))] hP hD ?_
                  clear hP hD
                  intro hP hD
                  refine lv_if_eq (tgt := 195) hx hb dX5_meetGlass_180 (by decide +kernel) (fun c_48 => ?_) (fun c_48 => ?_)
                  ·
                    refine lv_aload_n hx hb dX5_meetGlass_195 rfl (lv_at hl 4 rfl) ?_
                    refine lv_iload_n hx hb dX5_meetGlass_196 rfl (lv_at hl 3 rfl) ?_
                    refine lv_iconst (v := 2) hx hb dX5_meetGlass_197 (by decide +kernel) ?_
                    obtain ⟨hPc, hDc, hFc⟩ := g5_sub3 (wc := [(a_g, (oc6 6 5 a_gn e_g)), (a_gn, (arI G 30 f_g))]) hP hD hS hA [3, 4] (by decide +kernel) rfl
                    refine va_calli (va_runV (As := [.int z5, .int 2]) (rest := []) ⟨hx, hb, hml, hown, hts⟩ (t_get_G l G a_g a_gn H.size e_g z5 2 f_g h_e_g) (cwV 2 hts gV_X5_107 rfl rfl rfl hv_X6_get ⟨Nat.le_of_ble_eq_true rfl, Nat.le_of_ble_eq_true rfl⟩) (g5_preV hPc hK hDc hN hT hS hFc (ci := 6) (q0 := 0) rfl rfl) rfl rfl hl.1 rfl (lv_room (Nat.le_of_ble_eq_true rfl)) dX5_meetGlass_198 ⟨Nat.le_of_ble_eq_true rfl, Nat.le_of_ble_eq_true rfl⟩) hS (fun q _ h => hFc q h) hFc (fun r u t H locs ht hvm hw hB hz1 hk1 hS => ?_)
                    obtain ⟨hP1, hD1⟩ := hB
                    have hP1 := g5_ht ht hP1
                    obtain ⟨z50, (i_49 : z50 = tget f_g e_g.toInt 5 z5.toInt (2 : Int32).toInt), y51, rfl⟩ := hw
                    have hJ9 := va_join (wr := [(a_h, (oc1 e_wa e_le e_st e_fo e_lc a_l a_g a_b a_s a_p a_w e_gb a_bb)), (a_l, (arW G 6 f_l)), (a_k, (oc5 a_h a_j a_pt e_ln e_se e_lh e_br e_we (e_me ||| (1 <<< (z5 &&& 31))) e_ce e_wy e_ho 1)), (a_j, (oc2 a_as a_sk)), (a_as, (arI G 8 z16)), (a_sk, (arJ G 50 f_sk))]) hP hD [3, 4] [0, 1, 2, 5, 6, 7] rfl rfl (by decide +kernel) (by decide +kernel) hk1 hFc hP1 hD1
                    clear hP hD hPc hDc hFc ht hvm hz1 hk1 hP1 hD1
                    obtain ⟨hP, hD⟩ := hJ9
                    refine g5_rs [(a_h, (oc1 e_wa e_le e_st e_fo e_lc a_l a_g a_b a_s a_p a_w e_gb a_bb)), (a_l, (arW G 6 f_l)), (a_k, (oc5 a_h a_j a_pt e_ln e_se e_lh e_br e_we (e_me ||| (1 <<< (z5 &&& 31))) e_ce e_wy e_ho 1)), (a_j, (oc2 a_as a_sk)), (a_as, (arI G 8 z16)), (a_sk, (arJ G 50 f_sk)), (a_g, (oc6 6 5 a_gn e_g)), (a_gn, (arI G 30 f_g))] hP hD ?_
                    clear hP hD
                    intro hP hD
                    refine g5_ti (v := z50) y51 ?_
                    have hc2_53 := gl_col (k := 2) e_qg i_2 i_49 (by decide +kernel) (by omega)
                    have hg_53 : 0 ≤ z50.toInt ∧ z50.toInt ≤ 23 := by rw [i_49]; exact (e_gk z5.toInt (by omega) (by omega)).2.2.1
                    have hV_52 : z50 = tellQ (toldW g_w 0 (askQ z5 e_ce e_ho e_wy (-1) e_ln e_br)) (f_ro (80 + 5 * z5.toInt.toNat + 2)) 23 := hc2_53.symm.trans (tell_n (tW_n e_w))
                    refine W.eq (g2 := F0 m 201 ls [.int z50]) rfl ?_
                    refine lv_istore (lv' := [(7, .int z50), (6, .null), (5, .int z12), (4, .int z5), (3, .int z5), (2, .ref a_g), (1, .int z5), (0, .ref a_k)]) hx hb dX5_meetGlass_201 hl (by decide +kernel) rfl ?_
                    clear hl
                    intro ls hl
                    refine lv_iload hx hb dX5_meetGlass_203 (lv_at hl 0 rfl) ?_
                    refine lv_aload_n hx hb dX5_meetGlass_205 rfl (lv_at hl 7 rfl) ?_
                    refine va_get (D := G.1) (ci := 5) (v := .int e_ho) (C := RX5) (T := TX5) (N := 13) hx hb hts inG_X5 hown hK hP 2 rfl rfl 11 (by decide +kernel) (hts _ fl_X5_33) (fun _ h9 => h9) rfl dX5_meetGlass_206 ?_
                    refine lv_icmp_le (tgt := 213) hx hb dX5_meetGlass_209 (by decide +kernel) (fun c_54 => ?_) (fun c_54 => ?_)
                    ·
                      have i_54 : z50.toInt ≤ e_ho.toInt := g5_le (a := z50.toInt) (b := e_ho.toInt) rfl rfl c_54
                      refine lv_aload_n hx hb dX5_meetGlass_213 rfl (lv_at hl 7 rfl) ?_
                      refine va_get (D := G.1) (ci := 5) (v := .ref a_j) (C := RX5) (T := TX5) (N := 13) hx hb hts inG_X5 hown hK hP 2 rfl rfl 1 (by decide +kernel) (hts _ fl_X5_12) (fun _ h9 => h9) rfl dX5_meetGlass_214 ?_
                      refine lv_aloadN hx hb dX5_meetGlass_217 (lv_at hl 1 rfl) ?_
                      refine lv_iconst (v := 1) hx hb dX5_meetGlass_219 (by decide +kernel) ?_
                      refine W.eq (g2 := F0 m 220 ls [.int 1, .null, .ref a_j]) rfl ?_
                      obtain ⟨hPc, hDc, hFc⟩ := g5_sub3 (wc := [(a_j, (oc2 a_as a_sk)), (a_as, (arI G 8 z16)), (a_sk, (arJ G 50 f_sk))]) hP hD hS hA [3, 4, 5] (by decide +kernel) rfl
                      refine va_calli (va_runV (As := [.null, .int 1]) (rest := []) ⟨hx, hb, hml, hown, hts⟩ (j_isHeldN l G a_j a_as a_sk H.size 1 z16 f_sk) (cwV 2 hts gV_X5_124 rfl rfl rfl hv_X2_isHeld ⟨Nat.le_of_ble_eq_true rfl, Nat.le_of_ble_eq_true rfl⟩) (g5_preV hPc hK hDc hN hT hS hFc (ci := 2) (q0 := 0) rfl rfl) rfl rfl hl.1 rfl (lv_room (Nat.le_of_ble_eq_true rfl)) dX5_meetGlass_220 ⟨Nat.le_of_ble_eq_true rfl, Nat.le_of_ble_eq_true rfl⟩) hS (fun q _ h => hFc q h) hFc (fun r u t H locs ht hvm hw hB hz1 hk1 hS => ?_)
                      obtain ⟨hP1, hD1⟩ := hB
                      have hP1 := g5_ht ht hP1
                      obtain ⟨rfl, rfl⟩ := hw
                      have hJ9 := va_join (wr := [(a_h, (oc1 e_wa e_le e_st e_fo e_lc a_l a_g a_b a_s a_p a_w e_gb a_bb)), (a_l, (arW G 6 f_l)), (a_k, (oc5 a_h a_j a_pt e_ln e_se e_lh e_br e_we (e_me ||| (1 <<< (z5 &&& 31))) e_ce e_wy e_ho 1)), (a_g, (oc6 6 5 a_gn e_g)), (a_gn, (arI G 30 f_g))]) hP hD [3, 4, 5] [0, 1, 2, 6, 7] rfl rfl (by decide +kernel) (by decide +kernel) hk1 hFc hP1 hD1
                      clear hP hD hPc hDc hFc ht hvm hz1 hk1 hP1 hD1
                      obtain ⟨hP, hD⟩ := hJ9
                      refine g5_rs [(a_h, (oc1 e_wa e_le e_st e_fo e_lc a_l a_g a_b a_s a_p a_w e_gb a_bb)), (a_l, (arW G 6 f_l)), (a_k, (oc5 a_h a_j a_pt e_ln e_se e_lh e_br e_we (e_me ||| (1 <<< (z5 &&& 31))) e_ce e_wy e_ho 1)), (a_g, (oc6 6 5 a_gn e_g)), (a_gn, (arI G 30 f_g)), (a_j, (oc2 a_as a_sk)), (a_as, (arI G 8 z16)), (a_sk, (arJ G 50 f_sk))] hP hD ?_
                      clear hP hD
                      intro hP hD
                      refine lv_if_eq (tgt := 238) hx hb dX5_meetGlass_223 (by decide +kernel) (fun c_55 => ?_) (fun c_55 => ?_)
                      ·
                        refine lv_aload_n hx hb dX5_meetGlass_238 rfl (lv_at hl 5 rfl) ?_
                        refine lv_iload_n hx hb dX5_meetGlass_239 rfl (lv_at hl 4 rfl) ?_
                        refine lv_iconst (v := 3) hx hb dX5_meetGlass_240 (by decide +kernel) ?_
                        obtain ⟨hPc, hDc, hFc⟩ := g5_sub3 (wc := [(a_g, (oc6 6 5 a_gn e_g)), (a_gn, (arI G 30 f_g))]) hP hD hS hA [3, 4] (by decide +kernel) rfl
                        refine va_calli (va_runV (As := [.int z5, .int 3]) (rest := []) ⟨hx, hb, hml, hown, hts⟩ (t_get_G l G a_g a_gn H.size e_g z5 3 f_g h_e_g) (cwV 2 hts gV_X5_107 rfl rfl rfl hv_X6_get ⟨Nat.le_of_ble_eq_true rfl, Nat.le_of_ble_eq_true rfl⟩) (g5_preV hPc hK hDc hN hT hS hFc (ci := 6) (q0 := 0) rfl rfl) rfl rfl hl.1 rfl (lv_room (Nat.le_of_ble_eq_true rfl)) dX5_meetGlass_241 ⟨Nat.le_of_ble_eq_true rfl, Nat.le_of_ble_eq_true rfl⟩) hS (fun q _ h => hFc q h) hFc (fun r u t H locs ht hvm hw hB hz1 hk1 hS => ?_)
                        obtain ⟨hP1, hD1⟩ := hB
                        have hP1 := g5_ht ht hP1
                        obtain ⟨z57, (i_56 : z57 = tget f_g e_g.toInt 5 z5.toInt (3 : Int32).toInt), y58, rfl⟩ := hw
                        have hJ9 := va_join (wr := [(a_h, (oc1 e_wa e_le e_st e_fo e_lc a_l a_g a_b a_s a_p a_w e_gb a_bb)), (a_l, (arW G 6 f_l)), (a_k, (oc5 a_h a_j a_pt e_ln e_se e_lh e_br e_we (e_me ||| (1 <<< (z5 &&& 31))) e_ce e_wy e_ho 1)), (a_j, (oc2 a_as a_sk)), (a_as, (arI G 8 z16)), (a_sk, (arJ G 50 f_sk))]) hP hD [3, 4] [0, 1, 2, 5, 6, 7] rfl rfl (by decide +kernel) (by decide +kernel) hk1 hFc hP1 hD1
                        clear hP hD hPc hDc hFc ht hvm hz1 hk1 hP1 hD1
                        obtain ⟨hP, hD⟩ := hJ9
                        refine g5_rs [(a_h, (oc1 e_wa e_le e_st e_fo e_lc a_l a_g a_b a_s a_p a_w e_gb a_bb)), (a_l, (arW G 6 f_l)), (a_k, (oc5 a_h a_j a_pt e_ln e_se e_lh e_br e_we (e_me ||| (1 <<< (z5 &&& 31))) e_ce e_wy e_ho 1)), (a_j, (oc2 a_as a_sk)), (a_as, (arI G 8 z16)), (a_sk, (arJ G 50 f_sk)), (a_g, (oc6 6 5 a_gn e_g)), (a_gn, (arI G 30 f_g))] hP hD ?_
                        clear hP hD
                        intro hP hD
                        refine g5_ti (v := z57) y58 ?_
                        have hc3_60 := gl_col (k := 3) e_qg i_2 i_56 (by decide +kernel) (by omega)
                        have hg_60 : 0 ≤ z57.toInt ∧ z57.toInt ≤ 10 := by rw [i_56]; exact (e_gk z5.toInt (by omega) (by omega)).2.2.2
                        have hV_59 : z57 = tellQ (toldW g_w 1 (askQ z5 e_ce e_ho e_wy (-1) e_ln e_br)) (f_ro (80 + 5 * z5.toInt.toNat + 3)) 10 := hc3_60.symm.trans (tell_n (tW_n e_w))
                        refine W.eq (g2 := F0 m 244 ls [.int z57]) rfl ?_
                        refine lv_istore (lv' := [(8, .int z57), (7, .int z50), (6, .null), (5, .int z12), (4, .int z5), (3, .int z5), (2, .ref a_g), (1, .int z5), (0, .ref a_k)]) hx hb dX5_meetGlass_244 hl (by decide +kernel) rfl ?_
                        clear hl
                        intro ls hl
                        refine lv_aload_n hx hb dX5_meetGlass_246 rfl (lv_at hl 8 rfl) ?_
                        refine lv_aload_n hx hb dX5_meetGlass_247 rfl (lv_at hl 8 rfl) ?_
                        refine va_get (D := G.1) (ci := 5) (v := .int e_br) (C := RX5) (T := TX5) (N := 13) hx hb hts inG_X5 hown hK hP 2 rfl rfl 6 (by decide +kernel) (hts _ fl_X5_46) (fun _ h9 => h9) rfl dX5_meetGlass_248 ?_
                        refine lv_bipush (v := 10) hx hb dX5_meetGlass_251 (by decide +kernel) ?_
                        refine W.eq (g2 := F0 m 253 ls [.int 10, .int e_br, .ref a_k]) rfl ?_
                        refine lv_iload hx hb dX5_meetGlass_253 (lv_at hl 0 rfl) ?_
                        refine lv_isub hx hb dX5_meetGlass_255 ?_
                        have t_61 : (10 - z57).toInt = 10 - z57.toInt := g5_isub (a := 10) (b := z57.toInt) (by decide +kernel) (by rfl) (by omega) (by omega)
                        refine lv_imul hx hb dX5_meetGlass_256 ?_
                        refine lv_bipush (v := 10) hx hb dX5_meetGlass_257 (by decide +kernel) ?_
                        refine lv_idiv hx hb dX5_meetGlass_259 (by decide +kernel) ?_
                        have hb_62 : 0 ≤ ((e_br * (10 - z57)) / 10).toInt ∧ ((e_br * (10 - z57)) / 10).toInt ≤ 1000000 := g_dust (by omega) (by omega)
                        refine W.eq (g2 := F0 m 260 ls [.int ((e_br * (10 - z57)) / 10), .ref a_k]) rfl ?_
                        refine va_put (D := G.1) (ci := 5) (v := .int ((e_br * (10 - z57)) / 10)) (ty := .int) (C := RX5) (T := TX5) (N := 13) hx hb hts inG_X5 tyX5 tyX5_ok nmX5 hown hK hP hD hS 2 rfl rfl 6 (by decide +kernel) (hts _ fl_X5_46) (fun _ h9 => h9) rfl (by decide +kernel) rfl rfl (Nat.le_of_ble_eq_true rfl) dX5_meetGlass_260 ?_
                        clear hP hD hS
                        intro H locs hP hD hS
                        refine g5_rs [(a_h, (oc1 e_wa e_le e_st e_fo e_lc a_l a_g a_b a_s a_p a_w e_gb a_bb)), (a_l, (arW G 6 f_l)), (a_k, (oc5 a_h a_j a_pt e_ln e_se e_lh ((e_br * (10 - z57)) / 10) e_we (e_me ||| (1 <<< (z5 &&& 31))) e_ce e_wy e_ho 1)), (a_j, (oc2 a_as a_sk)), (a_as, (arI G 8 z16)), (a_sk, (arJ G 50 f_sk)), (a_g, (oc6 6 5 a_gn e_g)), (a_gn, (arI G 30 f_g))] hP hD ?_
                        clear hP hD
                        intro hP hD
                        refine lv_aload_n hx hb dX5_meetGlass_263 rfl (lv_at hl 8 rfl) ?_
                        refine va_get (D := G.1) (ci := 5) (v := .int ((e_br * (10 - z57)) / 10)) (C := RX5) (T := TX5) (N := 13) hx hb hts inG_X5 hown hK hP 2 rfl rfl 6 (by decide +kernel) (hts _ fl_X5_46) (fun _ h9 => h9) rfl dX5_meetGlass_264 ?_
                        refine lv_aload_n hx hb dX5_meetGlass_267 rfl (lv_at hl 8 rfl) ?_
                        refine va_get (D := G.1) (ci := 5) (v := .ref a_h) (C := RX5) (T := TX5) (N := 13) hx hb hts inG_X5 hown hK hP 2 rfl rfl 0 (by decide +kernel) (hts _ fl_X5_22) (fun _ h9 => h9) rfl dX5_meetGlass_268 ?_
                        refine W.eq (g2 := F0 m 271 ls [.ref a_h, .int ((e_br * (10 - z57)) / 10)]) rfl ?_
                        refine va_get (D := G.1) (ci := 1) (v := .int e_le) (C := RX1) (T := TX1) (N := 13) hx hb hts inG_X1 hown hK hP 0 rfl rfl 1 (by decide +kernel) (hts _ fl_X5_138) (fun _ h9 => h9) rfl dX5_meetGlass_271 ?_
                        refine lv_icmp_ge (tgt := 278) hx hb dX5_meetGlass_274 (by decide +kernel) (fun c_63 => ?_) (fun c_63 => ?_)
                        ·
                          have i_63 : ((e_br * (10 - z57)) / 10).toInt ≥ e_le.toInt := g5_ge (a := ((e_br * (10 - z57)) / 10).toInt) (b := e_le.toInt) rfl rfl c_63
                          refine lv_aload_n hx hb dX5_meetGlass_278 rfl (lv_at hl 8 rfl) ?_
                          refine lv_dup hx hb dX5_meetGlass_279 rfl ?_
                          refine va_get (D := G.1) (ci := 5) (v := .int e_ho) (C := RX5) (T := TX5) (N := 13) hx hb hts inG_X5 hown hK hP 2 rfl rfl 11 (by decide +kernel) (hts _ fl_X5_33) (fun _ h9 => h9) rfl dX5_meetGlass_280 ?_
                          refine lv_iload hx hb dX5_meetGlass_283 (lv_at hl 1 rfl) ?_
                          refine W.eq (g2 := F0 m 285 ls [.int z50, .int e_ho, .ref a_k]) rfl ?_
                          refine lv_isub hx hb dX5_meetGlass_285 ?_
                          have t_64 : (e_ho - z50).toInt = e_ho.toInt - z50.toInt := g5_isub (a := e_ho.toInt) (b := z50.toInt) (by rfl) (by rfl) (by omega) (by omega)
                          refine va_put (D := G.1) (ci := 5) (v := .int (e_ho - z50)) (ty := .int) (C := RX5) (T := TX5) (N := 13) hx hb hts inG_X5 tyX5 tyX5_ok nmX5 hown hK hP hD hS 2 rfl rfl 11 (by decide +kernel) (hts _ fl_X5_33) (fun _ h9 => h9) rfl (by decide +kernel) rfl rfl (Nat.le_of_ble_eq_true rfl) dX5_meetGlass_286 ?_
                          clear hP hD hS
                          intro H locs hP hD hS
                          refine g5_rs [(a_h, (oc1 e_wa e_le e_st e_fo e_lc a_l a_g a_b a_s a_p a_w e_gb a_bb)), (a_l, (arW G 6 f_l)), (a_k, (oc5 a_h a_j a_pt e_ln e_se e_lh ((e_br * (10 - z57)) / 10) e_we (e_me ||| (1 <<< (z5 &&& 31))) e_ce e_wy (e_ho - z50) 1)), (a_j, (oc2 a_as a_sk)), (a_as, (arI G 8 z16)), (a_sk, (arJ G 50 f_sk)), (a_g, (oc6 6 5 a_gn e_g)), (a_gn, (arI G 30 f_g))] hP hD ?_
                          clear hP hD
                          intro hP hD
                          refine lv_aload_n hx hb dX5_meetGlass_289 rfl (lv_at hl 8 rfl) ?_
                          refine lv_iload hx hb dX5_meetGlass_290 (lv_at hl 3 rfl) ?_
                          refine lv_if_ne (tgt := 304) hx hb dX5_meetGlass_292 (by decide +kernel) (fun c_65 => ?_) (fun c_65 => ?_)
                          ·
                            have n_65 : gNe (z12.toInt) (0) := g5_ne (a := z12.toInt) (b := 0) rfl (by decide +kernel) c_65
                            refine lv_iload hx hb dX5_meetGlass_304 (lv_at hl 3 rfl) ?_
                            refine lv_iconst (v := 1) hx hb dX5_meetGlass_306 (by decide +kernel) ?_
                            refine lv_icmp_ne (tgt := 319) hx hb dX5_meetGlass_307 (by decide +kernel) (fun c_66 => ?_) (fun c_66 => ?_)
                            ·
                              have n_66 : gNe (z12.toInt) (1) := g5_ne (a := z12.toInt) (b := 1) rfl (by decide +kernel) c_66
                              refine lv_aload_n hx hb dX5_meetGlass_319 rfl (lv_at hl 8 rfl) ?_
                              refine va_get (D := G.1) (ci := 5) (v := .int e_wy) (C := RX5) (T := TX5) (N := 13) hx hb hts inG_X5 hown hK hP 2 rfl rfl 10 (by decide +kernel) (hts _ fl_X5_30) (fun _ h9 => h9) rfl dX5_meetGlass_320 ?_
                              refine lv_iconst (v := 2) hx hb dX5_meetGlass_323 (by decide +kernel) ?_
                              refine lv_ixor hx hb dX5_meetGlass_324 ?_
                              have hx_67 := (g_xor (w := e_wy) (by omega) (by omega)).2
                              refine W.eq (g2 := F0 m 325 ls [.int (e_wy ^^^ 2), .ref a_k]) rfl ?_
                              refine va_put (D := G.1) (ci := 5) (v := .int (e_wy ^^^ 2)) (ty := .int) (C := RX5) (T := TX5) (N := 13) hx hb hts inG_X5 tyX5 tyX5_ok nmX5 hown hK hP hD hS 2 rfl rfl 10 (by decide +kernel) (hts _ fl_X5_30) (fun _ h9 => h9) rfl (by decide +kernel) rfl rfl (Nat.le_of_ble_eq_true rfl) dX5_meetGlass_325 ?_
                              clear hP hD hS
                              intro H locs hP hD hS
                              refine g5_rs [(a_h, (oc1 e_wa e_le e_st e_fo e_lc a_l a_g a_b a_s a_p a_w e_gb a_bb)), (a_l, (arW G 6 f_l)), (a_k, (oc5 a_h a_j a_pt e_ln e_se e_lh ((e_br * (10 - z57)) / 10) e_we (e_me ||| (1 <<< (z5 &&& 31))) e_ce (e_wy ^^^ 2) (e_ho - z50) 1)), (a_j, (oc2 a_as a_sk)), (a_as, (arI G 8 z16)), (a_sk, (arJ G 50 f_sk)), (a_g, (oc6 6 5 a_gn e_g)), (a_gn, (arI G 30 f_g))] hP hD ?_
                              clear hP hD
                              intro hP hD
                              refine lv_aload_n hx hb dX5_meetGlass_328 rfl (lv_at hl 8 rfl) ?_
                              refine lv_dup hx hb dX5_meetGlass_329 rfl ?_
                              refine va_get (D := G.1) (ci := 5) (v := .int e_we) (C := RX5) (T := TX5) (N := 13) hx hb hts inG_X5 hown hK hP 2 rfl rfl 7 (by decide +kernel) (hts _ fl_X5_49) (fun _ h9 => h9) rfl dX5_meetGlass_330 ?_
                              refine lv_iconst (v := 1) hx hb dX5_meetGlass_333 (by decide +kernel) ?_
                              refine W.eq (g2 := F0 m 334 ls [.int 1, .int e_we, .ref a_k]) rfl ?_
                              refine lv_iload hx hb dX5_meetGlass_334 (lv_at hl 4 rfl) ?_
                              refine lv_ishl hx hb dX5_meetGlass_336 ?_
                              refine lv_ior hx hb dX5_meetGlass_337 ?_
                              refine va_put (D := G.1) (ci := 5) (v := .int (e_we ||| (1 <<< (z5 &&& 31)))) (ty := .int) (C := RX5) (T := TX5) (N := 13) hx hb hts inG_X5 tyX5 tyX5_ok nmX5 hown hK hP hD hS 2 rfl rfl 7 (by decide +kernel) (hts _ fl_X5_49) (fun _ h9 => h9) rfl (by decide +kernel) rfl rfl (Nat.le_of_ble_eq_true rfl) dX5_meetGlass_338 ?_
                              clear hP hD hS
                              intro H locs hP hD hS
                              refine g5_rs [(a_h, (oc1 e_wa e_le e_st e_fo e_lc a_l a_g a_b a_s a_p a_w e_gb a_bb)), (a_l, (arW G 6 f_l)), (a_k, (oc5 a_h a_j a_pt e_ln e_se e_lh ((e_br * (10 - z57)) / 10) (e_we ||| (1 <<< (z5 &&& 31))) (e_me ||| (1 <<< (z5 &&& 31))) e_ce (e_wy ^^^ 2) (e_ho - z50) 1)), (a_j, (oc2 a_as a_sk)), (a_as, (arI G 8 z16)), (a_sk, (arJ G 50 f_sk)), (a_g, (oc6 6 5 a_gn e_g)), (a_gn, (arI G 30 f_g))] hP hD ?_
                              clear hP hD
                              intro hP hD
                              refine lv_aload_n hx hb dX5_meetGlass_341 rfl (lv_at hl 8 rfl) ?_
                              refine W.eq (g2 := F0 m 342 ls [.ref a_k]) rfl ?_
                              refine lv_iconst (v := 0) hx hb dX5_meetGlass_342 (by decide +kernel) ?_
                              refine va_put (D := G.1) (ci := 5) (v := .int 0) (ty := .boolean) (C := RX5) (T := TX5) (N := 13) hx hb hts inG_X5 tyX5 tyX5_ok nmX5 hown hK hP hD hS 2 rfl rfl 12 (by decide +kernel) (hts _ fl_X5_56) (fun _ h9 => h9) rfl (by decide +kernel) rfl rfl (Nat.le_of_ble_eq_true rfl) dX5_meetGlass_343 ?_
                              clear hP hD hS
                              intro H locs hP hD hS
                              refine g5_rs [(a_h, (oc1 e_wa e_le e_st e_fo e_lc a_l a_g a_b a_s a_p a_w e_gb a_bb)), (a_l, (arW G 6 f_l)), (a_k, (oc5 a_h a_j a_pt e_ln e_se e_lh ((e_br * (10 - z57)) / 10) (e_we ||| (1 <<< (z5 &&& 31))) (e_me ||| (1 <<< (z5 &&& 31))) e_ce (e_wy ^^^ 2) (e_ho - z50) 0)), (a_j, (oc2 a_as a_sk)), (a_as, (arI G 8 z16)), (a_sk, (arJ G 50 f_sk)), (a_g, (oc6 6 5 a_gn e_g)), (a_gn, (arI G 30 f_g))] hP hD ?_
                              clear hP hD
                              intro hP hD
                              exact W.vret hx hb hr (fun t ht hW => ⟨⟨[(a_k, (oc5 a_h a_j a_pt e_ln e_se e_lh ((e_br * (10 - z57)) / 10) (e_we ||| (1 <<< (z5 &&& 31))) (e_me ||| (1 <<< (z5 &&& 31))) e_ce (e_wy ^^^ 2) (e_ho - z50) 0)), (a_h, (oc1 e_wa e_le e_st e_fo e_lc a_l a_g a_b a_s a_p a_w e_gb a_bb)), (a_g, (oc6 6 5 a_gn e_g)), (a_gn, (arI G 30 f_g)), (a_j, (oc2 a_as a_sk)), (a_as, (arI G 8 z16)), (a_sk, (arJ G 50 f_sk)), (a_l, (arW G 6 f_l))], rfl, Or.inr (⟨((e_br * (10 - z57)) / 10), (e_we ||| (1 <<< (z5 &&& 31))), (e_me ||| (1 <<< (z5 &&& 31))), (e_wy ^^^ 2), (e_ho - z50), z16, f_sk, ⟨by omega, by omega⟩, ⟨by omega, by omega⟩, ⟨by omega, by omega⟩, by rw [met_c hGF (by omega) hc1_14 rfl rfl hc4_20 e_f4, tn_3 hNS hV_52 (by omega) hV_59 rfl (by omega), nw_2 (so := z12) (by first | omega | (unfold gNe at *; omega)) (by first | omega | (unfold gNe at *; omega))], rfl⟩), by rw [ht]; exact hP.sub [2, 0, 6, 7, 3, 4, 5, 1] rfl, hD.sub [2, 0, 6, 7, 3, 4, 5, 1] (by decide +kernel) rfl⟩, hS.F ht⟩) hS.2.2 dX5_meetGlass_346
                            ·
                              have i_66 : z12.toInt = 1 := g5_neN (a := z12.toInt) (b := 1) rfl (by decide +kernel) c_66
                              omega
                          ·
                            have i_65 : z12.toInt = 0 := g5_neN (a := z12.toInt) (b := 0) rfl (by decide +kernel) c_65
                            omega
                        ·
                          have i_63 : ((e_br * (10 - z57)) / 10).toInt < e_le.toInt := g5_geN (a := ((e_br * (10 - z57)) / 10).toInt) (b := e_le.toInt) rfl rfl c_63
                          exact W.vret hx hb hr (fun t ht hW => ⟨⟨[(a_k, (oc5 a_h a_j a_pt e_ln e_se e_lh ((e_br * (10 - z57)) / 10) e_we (e_me ||| (1 <<< (z5 &&& 31))) e_ce e_wy e_ho 1)), (a_h, (oc1 e_wa e_le e_st e_fo e_lc a_l a_g a_b a_s a_p a_w e_gb a_bb)), (a_g, (oc6 6 5 a_gn e_g)), (a_gn, (arI G 30 f_g)), (a_j, (oc2 a_as a_sk)), (a_as, (arI G 8 z16)), (a_sk, (arJ G 50 f_sk)), (a_l, (arW G 6 f_l))], rfl, Or.inl (⟨((e_br * (10 - z57)) / 10), (e_me ||| (1 <<< (z5 &&& 31))), z16, f_sk, ⟨by omega, by omega⟩, by rw [met_c hGF (by omega) hc1_14 rfl rfl hc4_20 e_f4, tn_2 hNS hV_52 (by omega) hV_59 rfl (by omega)]; exact ⟨rfl, rfl, rfl⟩, rfl⟩), by rw [ht]; exact hP.sub [2, 0, 6, 7, 3, 4, 5, 1] rfl, hD.sub [2, 0, 6, 7, 3, 4, 5, 1] (by decide +kernel) rfl⟩, hS.F ht⟩) hS.2.2 dX5_meetGlass_277
                      ·
                        exact absurd c_55 (by decide +kernel)
                    ·
                      have i_54 : z50.toInt > e_ho.toInt := g5_leN (a := z50.toInt) (b := e_ho.toInt) rfl rfl c_54
                      exact W.vret hx hb hr (fun t ht hW => ⟨⟨[(a_k, (oc5 a_h a_j a_pt e_ln e_se e_lh e_br e_we (e_me ||| (1 <<< (z5 &&& 31))) e_ce e_wy e_ho 1)), (a_h, (oc1 e_wa e_le e_st e_fo e_lc a_l a_g a_b a_s a_p a_w e_gb a_bb)), (a_g, (oc6 6 5 a_gn e_g)), (a_gn, (arI G 30 f_g)), (a_j, (oc2 a_as a_sk)), (a_as, (arI G 8 z16)), (a_sk, (arJ G 50 f_sk)), (a_l, (arW G 6 f_l))], rfl, Or.inl (⟨e_br, (e_me ||| (1 <<< (z5 &&& 31))), z16, f_sk, h_e_br, by rw [met_c hGF (by omega) hc1_14 rfl rfl hc4_20 e_f4, tn_1 hNS hV_52 (by omega)]; exact ⟨rfl, rfl, rfl⟩, rfl⟩), by rw [ht]; exact hP.sub [2, 0, 6, 7, 3, 4, 5, 1] rfl, hD.sub [2, 0, 6, 7, 3, 4, 5, 1] (by decide +kernel) rfl⟩, hS.F ht⟩) hS.2.2 dX5_meetGlass_212
                  ·
                    exact absurd c_48 (by decide +kernel)
                ·
                  have n_47 : gNe ((z12.toInt - 2)) ((e_wy ^^^ 2).toInt) := by have z := g5_eqN (a := (z12 - 2).toInt) (b := (e_wy ^^^ 2).toInt) (by rfl) (by rfl) c_47; unfold gNe; omega
                  exact W.vret hx hb hr (fun t ht hW => ⟨⟨[(a_k, (oc5 a_h a_j a_pt e_ln e_se e_lh e_br e_we (e_me ||| (1 <<< (z5 &&& 31))) e_ce e_wy e_ho 1)), (a_h, (oc1 e_wa e_le e_st e_fo e_lc a_l a_g a_b a_s a_p a_w e_gb a_bb)), (a_g, (oc6 6 5 a_gn e_g)), (a_gn, (arI G 30 f_g)), (a_j, (oc2 a_as a_sk)), (a_as, (arI G 8 z16)), (a_sk, (arJ G 50 f_sk)), (a_l, (arW G 6 f_l))], rfl, Or.inl (⟨e_br, (e_me ||| (1 <<< (z5 &&& 31))), z16, f_sk, h_e_br, by rw [met_c hGF (by omega) hc1_14 rfl rfl hc4_20 e_f4, tn_0 (Or.inr (Or.inr ⟨by omega, fun q9 => by have q8 := wr_of (so := z12) (wy := e_wy) ⟨by omega, by omega⟩ ⟨by omega, by omega⟩; unfold gNe at *; omega⟩))]; exact ⟨rfl, rfl, rfl⟩, rfl⟩), by rw [ht]; exact hP.sub [2, 0, 3, 4, 5, 6, 7, 1] rfl, hD.sub [2, 0, 3, 4, 5, 6, 7, 1] (by decide +kernel) rfl⟩, hS.F ht⟩) hS.2.2 dX5_meetGlass_169
        ·
          have i_10 : z5.toInt = (-1) := g5_neN (a := z5.toInt) (b := (-1)) rfl (by decide +kernel) c_10
          omega
      ·
        have i_9 : z5.toInt = (-1) := g5_neN (a := z5.toInt) (b := (-1)) rfl (by decide +kernel) c_9
        omega
    ·
      have i_8 : z5.toInt = (-1) := g5_neN (a := z5.toInt) (b := (-1)) rfl (by decide +kernel) c_8
      omega
set_option maxHeartbeats 4000000 in
set_option maxRecDepth 100000 in
theorem k_meetGlassXL (l : Launch) (G : g5_G) (a_k a_h a_g a_gn a_j a_as a_sk a_l a_lo a_sr a_cd a_hd a_pt a_b a_s a_p a_w a_bb : Nat) (sz : Nat) (e_ln : Int32) (e_se : Int32) (e_lh : Int32) (e_br : Int32) (e_we : Int32) (e_me : Int32) (e_ce : Int32) (e_wy : Int32) (e_ho : Int32) (e_ov : Int32) (e_le : Int32) (e_st : Int32) (e_fo : Int32) (e_lc : Int32) (e_g : Int32) (e_cl : Int32) (e_wa : Int64) (e_gb : Int64) (f_g : Nat → Int32) (f_as : Nat → Int32) (f_sk : Nat → Int64) (f_l : Nat → Option Nat) (f_sr : Nat → Int32) (f_cd : Nat → Int32) (f_hd : Nat → Int32) (f_ro : Nat → Int32) (g_w : Option (List CLT)) (g_L : List CLT) (n_sr : Nat) (n_cd : Nat) (n_hd : Nat) (h_e_br : 0 ≤ e_br.toInt ∧ e_br.toInt ≤ 1000000) (h_e_ce : 0 ≤ e_ce.toInt ∧ e_ce.toInt ≤ 63) (h_e_wy : 0 ≤ e_wy.toInt ∧ e_wy.toInt ≤ 3) (h_e_ho : 0 ≤ e_ho.toInt ∧ e_ho.toInt ≤ 23) (h_e_ov : 0 ≤ e_ov.toInt ∧ e_ov.toInt ≤ 1) (h_e_g : 0 ≤ e_g.toInt ∧ e_g.toInt ≤ 6) (h_e_cl : 0 ≤ e_cl.toInt ∧ e_cl.toInt ≤ 12) (e_f : 0 ≤ e_fo.toInt ∧ e_fo.toInt < e_lc.toInt ∧ e_lc.toInt ≤ 6) (e_a : f_l e_fo.toNatClampNeg = some a_lo) (e_hn : n_cd ≤ 400) (e_hs : ∀ j : Nat, j < n_sr → 0 ≤ (f_sr j).toInt ∧ (f_sr j).toInt ≤ (n_cd : Int)) (e_hk : ∀ j : Nat, j < n_cd → (f_cd j >>> (12 &&& 31)).toInt = 1 → (f_cd j &&& 4095).toInt < 8) (e_c : (e_cl.toInt : Int) ≤ (n_hd : Int) ∧ (e_cl.toInt + 1 : Int) ≤ (n_sr : Int)) (e_w : g_w = some g_L) (e_lw : LWC f_hd f_sr f_cd g_L e_cl.toInt.toNat) (e_lv : lvC f_cd n_cd ≤ 50) (e_gk : gOK f_g e_g.toInt) (e_qg : QG e_g f_g e_gb f_ro) (e_on : onB e_gb e_ce.toInt = true) (e_f4 : f_ro 4 = e_le) : Met l yX5_meetGlass (wsG yX5_meetGlass cX5_meetGlass 9 none) ({ frames := 3, cells := 0, slots := 0, locals := 78 }) (va_Pc [.ref a_k] (g5_P G [(a_k, (oc5 a_h a_j a_pt e_ln e_se e_lh e_br e_we e_me e_ce e_wy e_ho e_ov)), (a_h, (oc1 e_wa e_le e_st e_fo e_lc a_l a_g a_b a_s a_p a_w e_gb a_bb)), (a_g, (oc6 6 5 a_gn e_g)), (a_gn, (arI G 30 f_g)), (a_j, (oc2 a_as a_sk)), (a_as, (arI G 8 f_as)), (a_sk, (arJ G 50 f_sk)), (a_l, (arW G 6 f_l)), (a_lo, (oc3 e_cl a_hd a_sr a_cd)), (a_sr, (arI G n_sr f_sr)), (a_cd, (arI G n_cd f_cd)), (a_hd, (arI G n_hd f_hd))] sz)) (va_Qv (fun (u : va_W) => (∃ (o_b : Int32) (o_m : Int32) (o_a : Nat → Int32) (o_k : Nat → Int64), (0 ≤ o_b.toInt ∧ o_b.toInt ≤ 1000000) ∧ ((meetF f_ro g_w 0 e_ce e_wy e_ho e_br e_we e_ln).1 = false ∧ (meetF f_ro g_w 0 e_ce e_wy e_ho e_br e_we e_ln).2.2.2.1 = o_b ∧ (meetF f_ro g_w 0 e_ce e_wy e_ho e_br e_we e_ln).2.2.2.2 = e_we) ∧ (u = [(a_k, (oc5 a_h a_j a_pt e_ln e_se e_lh o_b e_we o_m e_ce e_wy e_ho 1)), (a_h, (oc1 e_wa e_le e_st e_fo e_lc a_l a_g a_b a_s a_p a_w e_gb a_bb)), (a_g, (oc6 6 5 a_gn e_g)), (a_gn, (arI G 30 f_g)), (a_j, (oc2 a_as a_sk)), (a_as, (arI G 8 o_a)), (a_sk, (arJ G 50 o_k)), (a_l, (arW G 6 f_l)), (a_lo, (oc3 e_cl a_hd a_sr a_cd)), (a_sr, (arI G n_sr f_sr)), (a_cd, (arI G n_cd f_cd)), (a_hd, (arI G n_hd f_hd))])) ∨ (∃ (o_b : Int32) (o_w : Int32) (o_m : Int32) (o_y : Int32) (o_h : Int32) (o_a : Nat → Int32) (o_k : Nat → Int64), (0 ≤ o_b.toInt ∧ o_b.toInt ≤ 1000000) ∧ (0 ≤ o_y.toInt ∧ o_y.toInt ≤ 3) ∧ (0 ≤ o_h.toInt ∧ o_h.toInt ≤ 23) ∧ (meetF f_ro g_w 0 e_ce e_wy e_ho e_br e_we e_ln = (true, o_y, o_h, o_b, o_w)) ∧ (u = [(a_k, (oc5 a_h a_j a_pt e_ln e_se e_lh o_b o_w o_m e_ce o_y o_h 0)), (a_h, (oc1 e_wa e_le e_st e_fo e_lc a_l a_g a_b a_s a_p a_w e_gb a_bb)), (a_g, (oc6 6 5 a_gn e_g)), (a_gn, (arI G 30 f_g)), (a_j, (oc2 a_as a_sk)), (a_as, (arI G 8 o_a)), (a_sk, (arJ G 50 o_k)), (a_l, (arW G 6 f_l)), (a_lo, (oc3 e_cl a_hd a_sr a_cd)), (a_sr, (arI G n_sr f_sr)), (a_cd, (arI G n_cd f_cd)), (a_hd, (arI G n_hd f_hd))]))) (g5_B G (va_A [(a_k, (oc5 a_h a_j a_pt e_ln e_se e_lh e_br e_we e_me e_ce e_wy e_ho e_ov)), (a_h, (oc1 e_wa e_le e_st e_fo e_lc a_l a_g a_b a_s a_p a_w e_gb a_bb)), (a_g, (oc6 6 5 a_gn e_g)), (a_gn, (arI G 30 f_g)), (a_j, (oc2 a_as a_sk)), (a_as, (arI G 8 f_as)), (a_sk, (arJ G 50 f_sk)), (a_l, (arW G 6 f_l)), (a_lo, (oc3 e_cl a_hd a_sr a_cd)), (a_sr, (arI G n_sr f_sr)), (a_cd, (arI G n_cd f_cd)), (a_hd, (arI G n_hd f_hd))] sz)) (va_A [(a_k, (oc5 a_h a_j a_pt e_ln e_se e_lh e_br e_we e_me e_ce e_wy e_ho e_ov)), (a_h, (oc1 e_wa e_le e_st e_fo e_lc a_l a_g a_b a_s a_p a_w e_gb a_bb)), (a_g, (oc6 6 5 a_gn e_g)), (a_gn, (arI G 30 f_g)), (a_j, (oc2 a_as a_sk)), (a_as, (arI G 8 f_as)), (a_sk, (arJ G 50 f_sk)), (a_l, (arW G 6 f_l)), (a_lo, (oc3 e_cl a_hd a_sr a_cd)), (a_sr, (arI G n_sr f_sr)), (a_cd, (arI G n_cd f_cd)), (a_hd, (arI G n_hd f_hd))] sz)) 0 0 (va_A [(a_k, (oc5 a_h a_j a_pt e_ln e_se e_lh e_br e_we e_me e_ce e_wy e_ho e_ov)), (a_h, (oc1 e_wa e_le e_st e_fo e_lc a_l a_g a_b a_s a_p a_w e_gb a_bb)), (a_g, (oc6 6 5 a_gn e_g)), (a_gn, (arI G 30 f_g)), (a_j, (oc2 a_as a_sk)), (a_as, (arI G 8 f_as)), (a_sk, (arJ G 50 f_sk)), (a_l, (arW G 6 f_l)), (a_lo, (oc3 e_cl a_hd a_sr a_cd)), (a_sr, (arI G n_sr f_sr)), (a_cd, (arI G n_cd f_cd)), (a_hd, (arI G n_hd f_hd))] sz) := by
  refine Met.ofW (cc := cX5_meetGlass) (maxL := 9) (ret := none) (by decide +kernel) rfl ?_
  intro p e s m args below meth c s₁ B hml hv
  obtain ⟨rfl, hsz, hP, hK, hD0, hN, hT⟩ := hv
  have hx := B.exec
  have hb := B.bytes
  have hr := B.returns
  have hts : ∀ w ∈ tblG, w.before _ s = true := fun w h => atoms_spec (ws := (wsG yX5_meetGlass cX5_meetGlass 9 none)) B.pre w (List.mem_cons_of_mem _ h)
  have hown : s.vm.findClass RX5 = some m.cls := findClass_of_methodNamed B.named
  have hlocks := B.notSynchronized
  subst hsz
  have hD := hD0.self (sz := s.heap.size)
  generalize hAe : va_A [(a_k, (oc5 a_h a_j a_pt e_ln e_se e_lh e_br e_we e_me e_ce e_wy e_ho e_ov)), (a_h, (oc1 e_wa e_le e_st e_fo e_lc a_l a_g a_b a_s a_p a_w e_gb a_bb)), (a_g, (oc6 6 5 a_gn e_g)), (a_gn, (arI G 30 f_g)), (a_j, (oc2 a_as a_sk)), (a_as, (arI G 8 f_as)), (a_sk, (arJ G 50 f_sk)), (a_l, (arW G 6 f_l)), (a_lo, (oc3 e_cl a_hd a_sr a_cd)), (a_sr, (arI G n_sr f_sr)), (a_cd, (arI G n_cd f_cd)), (a_hd, (arI G n_hd f_hd))] s.heap.size = A at hD hT ⊢
  have hA : ∀ q : Nat, s.heap.size ≤ q → A q := fun q h => by rw [← hAe]; exact Or.inr h
  have hS : va_S A s.heap s.heap [] := va_S.rf
  replace hP : va_P G.1 vwCl [(a_k, (oc5 a_h a_j a_pt e_ln e_se e_lh e_br e_we e_me e_ce e_wy e_ho e_ov)), (a_h, (oc1 e_wa e_le e_st e_fo e_lc a_l a_g a_b a_s a_p a_w e_gb a_bb)), (a_g, (oc6 6 5 a_gn e_g)), (a_gn, (arI G 30 f_g)), (a_j, (oc2 a_as a_sk)), (a_as, (arI G 8 f_as)), (a_sk, (arJ G 50 f_sk)), (a_l, (arW G 6 f_l)), (a_lo, (oc3 e_cl a_hd a_sr a_cd)), (a_sr, (arI G n_sr f_sr)), (a_cd, (arI G n_cd f_cd)), (a_hd, (arI G n_hd f_hd))] s.heap := hP
  have hl := lv_entry ([.ref a_k]) (n := 9) (Nat.le_of_ble_eq_true rfl)
  rw [lg_entry_eq]
  generalize (lg_sl ([.ref a_k]) ++ List.replicate (9 - (lg_sl ([.ref a_k])).length) Slot.unset).toArray = ls at hl ⊢
  replace hl : lv_has ls 9 [(0, .ref a_k)] := hl
  refine lv_aload_n hx hb dX5_meetGlass_0 rfl (lv_at hl 0 rfl) ?_
  refine lv_iconst (v := 1) hx hb dX5_meetGlass_1 (by decide +kernel) ?_
  refine va_put (D := G.1) (ci := 5) (v := .int 1) (ty := .boolean) (C := RX5) (T := TX5) (N := 13) hx hb hts inG_X5 tyX5 tyX5_ok nmX5 hown hK hP hD hS 0 rfl rfl 12 (by decide +kernel) (hts _ fl_X5_56) (fun _ h9 => h9) rfl (by decide +kernel) rfl rfl (Nat.le_of_ble_eq_true rfl) dX5_meetGlass_2 ?_
  clear hP hD hS
  intro H locs hP hD hS
  refine g5_rs [(a_k, (oc5 a_h a_j a_pt e_ln e_se e_lh e_br e_we e_me e_ce e_wy e_ho 1)), (a_h, (oc1 e_wa e_le e_st e_fo e_lc a_l a_g a_b a_s a_p a_w e_gb a_bb)), (a_g, (oc6 6 5 a_gn e_g)), (a_gn, (arI G 30 f_g)), (a_j, (oc2 a_as a_sk)), (a_as, (arI G 8 f_as)), (a_sk, (arJ G 50 f_sk)), (a_l, (arW G 6 f_l)), (a_lo, (oc3 e_cl a_hd a_sr a_cd)), (a_sr, (arI G n_sr f_sr)), (a_cd, (arI G n_cd f_cd)), (a_hd, (arI G n_hd f_hd))] hP hD ?_
  clear hP hD
  intro hP hD
  refine lv_aload_n hx hb dX5_meetGlass_5 rfl (lv_at hl 0 rfl) ?_
  refine W.eq (g2 := F0 m 6 ls [.ref a_k]) rfl ?_
  refine va_get (D := G.1) (ci := 5) (v := .ref a_h) (C := RX5) (T := TX5) (N := 13) hx hb hts inG_X5 hown hK hP 0 rfl rfl 0 (by decide +kernel) (hts _ fl_X5_22) (fun _ h9 => h9) rfl dX5_meetGlass_6 ?_
  refine va_get (D := G.1) (ci := 1) (v := .ref a_g) (C := RX1) (T := TX1) (N := 13) hx hb hts inG_X1 hown hK hP 1 rfl rfl 6 (by decide +kernel) (hts _ fl_X5_128) (fun _ h9 => h9) rfl dX5_meetGlass_9 ?_
  refine lv_iconst (v := 0) hx hb dX5_meetGlass_12 (by decide +kernel) ?_
  refine lv_aload_n hx hb dX5_meetGlass_13 rfl (lv_at hl 0 rfl) ?_
  refine va_get (D := G.1) (ci := 5) (v := .int e_ce) (C := RX5) (T := TX5) (N := 13) hx hb hts inG_X5 hown hK hP 0 rfl rfl 9 (by decide +kernel) (hts _ fl_X5_26) (fun _ h9 => h9) rfl dX5_meetGlass_14 ?_
  refine W.eq (g2 := F0 m 17 ls [.int e_ce, .int 0, .ref a_g]) rfl ?_
  obtain ⟨hPc, hDc, hFc⟩ := g5_sub3 (wc := [(a_g, (oc6 6 5 a_gn e_g)), (a_gn, (arI G 30 f_g))]) hP hD hS hA [2, 3] (by decide +kernel) rfl
  refine va_calli (va_runV (As := [.int 0, .int e_ce]) (rest := []) ⟨hx, hb, hml, hown, hts⟩ (t_findX_G l G a_g a_gn H.size e_g 0 e_ce f_g h_e_g) (cwV 2 hts gV_X5_131 rfl rfl rfl hv_X6_find ⟨Nat.le_of_ble_eq_true rfl, Nat.le_of_ble_eq_true rfl⟩) (g5_preV hPc hK hDc hN hT hS hFc (ci := 6) (q0 := 0) rfl rfl) rfl rfl hl.1 rfl (lv_room (Nat.le_of_ble_eq_true rfl)) dX5_meetGlass_17 ⟨Nat.le_of_ble_eq_true rfl, Nat.le_of_ble_eq_true rfl⟩) hS (fun q _ h => hFc q h) hFc (fun r u t H locs ht hvm hw hB hz1 hk1 hS => ?_)
  obtain ⟨hP1, hD1⟩ := hB
  have hP1 := g5_ht ht hP1
  rcases hw with ⟨(i_1 : ∀ r : Int, 0 ≤ r → r < e_g.toInt → tget f_g e_g.toInt 5 r (0 : Int32).toInt ≠ e_ce), rfl, rfl⟩ | ⟨z5, (i_2 : 0 ≤ z5.toInt ∧ z5.toInt < e_g.toInt), (i_3 : tget f_g e_g.toInt 5 z5.toInt (0 : Int32).toInt = e_ce), (i_4 : ∀ r : Int, 0 ≤ r → r < z5.toInt → tget f_g e_g.toInt 5 r (0 : Int32).toInt ≠ e_ce), y6, rfl⟩
  ·
    have hJ9 := va_join (wr := [(a_k, (oc5 a_h a_j a_pt e_ln e_se e_lh e_br e_we e_me e_ce e_wy e_ho 1)), (a_h, (oc1 e_wa e_le e_st e_fo e_lc a_l a_g a_b a_s a_p a_w e_gb a_bb)), (a_j, (oc2 a_as a_sk)), (a_as, (arI G 8 f_as)), (a_sk, (arJ G 50 f_sk)), (a_l, (arW G 6 f_l)), (a_lo, (oc3 e_cl a_hd a_sr a_cd)), (a_sr, (arI G n_sr f_sr)), (a_cd, (arI G n_cd f_cd)), (a_hd, (arI G n_hd f_hd))]) hP hD [2, 3] [0, 1, 4, 5, 6, 7, 8, 9, 10, 11] rfl rfl (by decide +kernel) (by decide +kernel) hk1 hFc hP1 hD1
    clear hP hD hPc hDc hFc ht hvm hz1 hk1 hP1 hD1
    obtain ⟨hP, hD⟩ := hJ9
    refine g5_rs [(a_k, (oc5 a_h a_j a_pt e_ln e_se e_lh e_br e_we e_me e_ce e_wy e_ho 1)), (a_h, (oc1 e_wa e_le e_st e_fo e_lc a_l a_g a_b a_s a_p a_w e_gb a_bb)), (a_j, (oc2 a_as a_sk)), (a_as, (arI G 8 f_as)), (a_sk, (arJ G 50 f_sk)), (a_l, (arW G 6 f_l)), (a_lo, (oc3 e_cl a_hd a_sr a_cd)), (a_sr, (arI G n_sr f_sr)), (a_cd, (arI G n_cd f_cd)), (a_hd, (arI G n_hd f_hd)), (a_g, (oc6 6 5 a_gn e_g)), (a_gn, (arI G 30 f_g))] hP hD ?_
    clear hP hD
    intro hP hD
    refine lv_istore_n (lv' := [(1, .int (-1)), (0, .ref a_k)]) hx hb dX5_meetGlass_20 rfl hl (by decide +kernel) rfl ?_
    clear hl
    intro ls hl
    refine lv_iload_n hx hb dX5_meetGlass_21 rfl (lv_at hl 0 rfl) ?_
    refine lv_iconst (v := (-1)) hx hb dX5_meetGlass_22 (by decide +kernel) ?_
    refine lv_icmp_ne (tgt := 36) hx hb dX5_meetGlass_23 (by decide +kernel) (fun c_7 => ?_) (fun c_7 => ?_)
    ·
      exact absurd c_7 (by decide +kernel)
    ·
      exact absurd (gl_abs e_qg (by omega) e_on i_1) (fun h9 => h9)
  ·
    have hJ9 := va_join (wr := [(a_k, (oc5 a_h a_j a_pt e_ln e_se e_lh e_br e_we e_me e_ce e_wy e_ho 1)), (a_h, (oc1 e_wa e_le e_st e_fo e_lc a_l a_g a_b a_s a_p a_w e_gb a_bb)), (a_j, (oc2 a_as a_sk)), (a_as, (arI G 8 f_as)), (a_sk, (arJ G 50 f_sk)), (a_l, (arW G 6 f_l)), (a_lo, (oc3 e_cl a_hd a_sr a_cd)), (a_sr, (arI G n_sr f_sr)), (a_cd, (arI G n_cd f_cd)), (a_hd, (arI G n_hd f_hd))]) hP hD [2, 3] [0, 1, 4, 5, 6, 7, 8, 9, 10, 11] rfl rfl (by decide +kernel) (by decide +kernel) hk1 hFc hP1 hD1
    clear hP hD hPc hDc hFc ht hvm hz1 hk1 hP1 hD1
    obtain ⟨hP, hD⟩ := hJ9
    refine g5_rs [(a_k, (oc5 a_h a_j a_pt e_ln e_se e_lh e_br e_we e_me e_ce e_wy e_ho 1)), (a_h, (oc1 e_wa e_le e_st e_fo e_lc a_l a_g a_b a_s a_p a_w e_gb a_bb)), (a_j, (oc2 a_as a_sk)), (a_as, (arI G 8 f_as)), (a_sk, (arJ G 50 f_sk)), (a_l, (arW G 6 f_l)), (a_lo, (oc3 e_cl a_hd a_sr a_cd)), (a_sr, (arI G n_sr f_sr)), (a_cd, (arI G n_cd f_cd)), (a_hd, (arI G n_hd f_hd)), (a_g, (oc6 6 5 a_gn e_g)), (a_gn, (arI G 30 f_g))] hP hD ?_
    clear hP hD
    intro hP hD
    refine g5_ti (v := z5) y6 ?_
    refine lv_istore_n (lv' := [(1, .int z5), (0, .ref a_k)]) hx hb dX5_meetGlass_20 rfl hl (by decide +kernel) rfl ?_
    clear hl
    intro ls hl
    refine lv_iload_n hx hb dX5_meetGlass_21 rfl (lv_at hl 0 rfl) ?_
    refine lv_iconst (v := (-1)) hx hb dX5_meetGlass_22 (by decide +kernel) ?_
    refine lv_icmp_ne (tgt := 36) hx hb dX5_meetGlass_23 (by decide +kernel) (fun c_8 => ?_) (fun c_8 => ?_)
    ·
      have n_8 : gNe (z5.toInt) ((-1)) := g5_ne (a := z5.toInt) (b := (-1)) rfl (by decide +kernel) c_8
      have hGF := find_g e_qg i_2 i_3 i_4
      refine lv_aload_n hx hb dX5_meetGlass_36 rfl (lv_at hl 1 rfl) ?_
      refine va_get (D := G.1) (ci := 5) (v := .ref a_h) (C := RX5) (T := TX5) (N := 13) hx hb hts inG_X5 hown hK hP 0 rfl rfl 0 (by decide +kernel) (hts _ fl_X5_22) (fun _ h9 => h9) rfl dX5_meetGlass_37 ?_
      refine va_get (D := G.1) (ci := 1) (v := .ref a_g) (C := RX1) (T := TX1) (N := 13) hx hb hts inG_X1 hown hK hP 1 rfl rfl 6 (by decide +kernel) (hts _ fl_X5_128) (fun _ h9 => h9) rfl dX5_meetGlass_40 ?_
      refine lv_astore_n (lv' := [(2, .ref a_g), (1, .int z5), (0, .ref a_k)]) hx hb dX5_meetGlass_43 rfl hl (by decide +kernel) rfl ?_
      clear hl
      intro ls hl
      refine W.eq (g2 := F0 m 44 ls []) rfl ?_
      refine lv_iload_n hx hb dX5_meetGlass_44 rfl (lv_at hl 1 rfl) ?_
      refine lv_iconst (v := (-1)) hx hb dX5_meetGlass_45 (by decide +kernel) ?_
      refine lv_icmp_ne (tgt := 67) hx hb dX5_meetGlass_46 (by decide +kernel) (fun c_9 => ?_) (fun c_9 => ?_)
      ·
        have n_9 : gNe (z5.toInt) ((-1)) := g5_ne (a := z5.toInt) (b := (-1)) rfl (by decide +kernel) c_9
        refine lv_iload_n hx hb dX5_meetGlass_67 rfl (lv_at hl 1 rfl) ?_
        refine lv_istore_n (lv' := [(3, .int z5), (2, .ref a_g), (1, .int z5), (0, .ref a_k)]) hx hb dX5_meetGlass_68 rfl hl (by decide +kernel) rfl ?_
        clear hl
        intro ls hl
        refine lv_iload_n hx hb dX5_meetGlass_69 rfl (lv_at hl 2 rfl) ?_
        refine lv_iconst (v := (-1)) hx hb dX5_meetGlass_70 (by decide +kernel) ?_
        refine W.eq (g2 := F0 m 71 ls [.int (-1), .int z5]) rfl ?_
        refine lv_icmp_ne (tgt := 81) hx hb dX5_meetGlass_71 (by decide +kernel) (fun c_10 => ?_) (fun c_10 => ?_)
        ·
          have n_10 : gNe (z5.toInt) ((-1)) := g5_ne (a := z5.toInt) (b := (-1)) rfl (by decide +kernel) c_10
          refine lv_iload_n hx hb dX5_meetGlass_81 rfl (lv_at hl 2 rfl) ?_
          refine lv_istore (lv' := [(4, .int z5), (3, .int z5), (2, .ref a_g), (1, .int z5), (0, .ref a_k)]) hx hb dX5_meetGlass_82 hl (by decide +kernel) rfl ?_
          clear hl
          intro ls hl
          refine lv_aload_n hx hb dX5_meetGlass_84 rfl (lv_at hl 2 rfl) ?_
          refine lv_iload_n hx hb dX5_meetGlass_85 rfl (lv_at hl 1 rfl) ?_
          refine W.eq (g2 := F0 m 86 ls [.int z5, .ref a_g]) rfl ?_
          refine lv_iconst (v := 1) hx hb dX5_meetGlass_86 (by decide +kernel) ?_
          obtain ⟨hPc, hDc, hFc⟩ := g5_sub3 (wc := [(a_g, (oc6 6 5 a_gn e_g)), (a_gn, (arI G 30 f_g))]) hP hD hS hA [10, 11] (by decide +kernel) rfl
          refine va_calli (va_runV (As := [.int z5, .int 1]) (rest := []) ⟨hx, hb, hml, hown, hts⟩ (t_get_G l G a_g a_gn H.size e_g z5 1 f_g h_e_g) (cwV 2 hts gV_X5_107 rfl rfl rfl hv_X6_get ⟨Nat.le_of_ble_eq_true rfl, Nat.le_of_ble_eq_true rfl⟩) (g5_preV hPc hK hDc hN hT hS hFc (ci := 6) (q0 := 0) rfl rfl) rfl rfl hl.1 rfl (lv_room (Nat.le_of_ble_eq_true rfl)) dX5_meetGlass_87 ⟨Nat.le_of_ble_eq_true rfl, Nat.le_of_ble_eq_true rfl⟩) hS (fun q _ h => hFc q h) hFc (fun r u t H locs ht hvm hw hB hz1 hk1 hS => ?_)
          obtain ⟨hP1, hD1⟩ := hB
          have hP1 := g5_ht ht hP1
          obtain ⟨z12, (i_11 : z12 = tget f_g e_g.toInt 5 z5.toInt (1 : Int32).toInt), y13, rfl⟩ := hw
          have hJ9 := va_join (wr := [(a_k, (oc5 a_h a_j a_pt e_ln e_se e_lh e_br e_we e_me e_ce e_wy e_ho 1)), (a_h, (oc1 e_wa e_le e_st e_fo e_lc a_l a_g a_b a_s a_p a_w e_gb a_bb)), (a_j, (oc2 a_as a_sk)), (a_as, (arI G 8 f_as)), (a_sk, (arJ G 50 f_sk)), (a_l, (arW G 6 f_l)), (a_lo, (oc3 e_cl a_hd a_sr a_cd)), (a_sr, (arI G n_sr f_sr)), (a_cd, (arI G n_cd f_cd)), (a_hd, (arI G n_hd f_hd))]) hP hD [10, 11] [0, 1, 2, 3, 4, 5, 6, 7, 8, 9] rfl rfl (by decide +kernel) (by decide +kernel) hk1 hFc hP1 hD1
          clear hP hD hPc hDc hFc ht hvm hz1 hk1 hP1 hD1
          obtain ⟨hP, hD⟩ := hJ9
          refine g5_rs [(a_k, (oc5 a_h a_j a_pt e_ln e_se e_lh e_br e_we e_me e_ce e_wy e_ho 1)), (a_h, (oc1 e_wa e_le e_st e_fo e_lc a_l a_g a_b a_s a_p a_w e_gb a_bb)), (a_j, (oc2 a_as a_sk)), (a_as, (arI G 8 f_as)), (a_sk, (arJ G 50 f_sk)), (a_l, (arW G 6 f_l)), (a_lo, (oc3 e_cl a_hd a_sr a_cd)), (a_sr, (arI G n_sr f_sr)), (a_cd, (arI G n_cd f_cd)), (a_hd, (arI G n_hd f_hd)), (a_g, (oc6 6 5 a_gn e_g)), (a_gn, (arI G 30 f_g))] hP hD ?_
          clear hP hD
          intro hP hD
          refine g5_ti (v := z12) y13 ?_
          have hc1_14 := gl_col (k := 1) e_qg i_2 i_11 (by decide +kernel) (by omega)
          have hg_14 : 0 ≤ z12.toInt ∧ z12.toInt ≤ 5 := by rw [i_11]; exact (e_gk z5.toInt (by omega) (by omega)).2.1
          refine lv_istore (lv' := [(5, .int z12), (4, .int z5), (3, .int z5), (2, .ref a_g), (1, .int z5), (0, .ref a_k)]) hx hb dX5_meetGlass_90 hl (by decide +kernel) rfl ?_
          clear hl
          intro ls hl
          refine lv_aload_n hx hb dX5_meetGlass_92 rfl (lv_at hl 5 rfl) ?_
          refine lv_dup hx hb dX5_meetGlass_93 rfl ?_
          refine W.eq (g2 := F0 m 94 ls [.ref a_k, .ref a_k]) rfl ?_
          refine va_get (D := G.1) (ci := 5) (v := .int e_me) (C := RX5) (T := TX5) (N := 13) hx hb hts inG_X5 hown hK hP 0 rfl rfl 8 (by decide +kernel) (hts _ fl_X5_95) (fun _ h9 => h9) rfl dX5_meetGlass_94 ?_
          refine lv_iconst (v := 1) hx hb dX5_meetGlass_97 (by decide +kernel) ?_
          refine lv_iload hx hb dX5_meetGlass_98 (lv_at hl 1 rfl) ?_
          refine lv_ishl hx hb dX5_meetGlass_100 ?_
          refine lv_ior hx hb dX5_meetGlass_101 ?_
          refine W.eq (g2 := F0 m 102 ls [.int (e_me ||| (1 <<< (z5 &&& 31))), .ref a_k]) rfl ?_
          refine va_put (D := G.1) (ci := 5) (v := .int (e_me ||| (1 <<< (z5 &&& 31)))) (ty := .int) (C := RX5) (T := TX5) (N := 13) hx hb hts inG_X5 tyX5 tyX5_ok nmX5 hown hK hP hD hS 0 rfl rfl 8 (by decide +kernel) (hts _ fl_X5_95) (fun _ h9 => h9) rfl (by decide +kernel) rfl rfl (Nat.le_of_ble_eq_true rfl) dX5_meetGlass_102 ?_
          clear hP hD hS
          intro H locs hP hD hS
          refine g5_rs [(a_k, (oc5 a_h a_j a_pt e_ln e_se e_lh e_br e_we (e_me ||| (1 <<< (z5 &&& 31))) e_ce e_wy e_ho 1)), (a_h, (oc1 e_wa e_le e_st e_fo e_lc a_l a_g a_b a_s a_p a_w e_gb a_bb)), (a_j, (oc2 a_as a_sk)), (a_as, (arI G 8 f_as)), (a_sk, (arJ G 50 f_sk)), (a_l, (arW G 6 f_l)), (a_lo, (oc3 e_cl a_hd a_sr a_cd)), (a_sr, (arI G n_sr f_sr)), (a_cd, (arI G n_cd f_cd)), (a_hd, (arI G n_hd f_hd)), (a_g, (oc6 6 5 a_gn e_g)), (a_gn, (arI G 30 f_g))] hP hD ?_
          clear hP hD
          intro hP hD
          refine lv_aload_n hx hb dX5_meetGlass_105 rfl (lv_at hl 5 rfl) ?_
          refine va_get (D := G.1) (ci := 5) (v := .ref a_h) (C := RX5) (T := TX5) (N := 13) hx hb hts inG_X5 hown hK hP 0 rfl rfl 0 (by decide +kernel) (hts _ fl_X5_22) (fun _ h9 => h9) rfl dX5_meetGlass_106 ?_
          obtain ⟨hPc, hDc, hFc⟩ := g5_sub3 (wc := [(a_h, (oc1 e_wa e_le e_st e_fo e_lc a_l a_g a_b a_s a_p a_w e_gb a_bb)), (a_l, (arW G 6 f_l))]) hP hD hS hA [1, 5] (by decide +kernel) rfl
          refine va_callq (va_runV (As := []) (rest := []) ⟨hx, hb, hml, hown, hts⟩ (h_lawL l G a_h a_l a_g a_b a_s a_p a_w a_bb a_lo H.size e_le e_st e_fo e_lc e_wa e_gb f_l (e_f) (e_a)) (cwV 0 hts gV_X5_113 rfl rfl rfl hv_X1_lawInForce ⟨Nat.le_of_ble_eq_true rfl, Nat.le_of_ble_eq_true rfl⟩) (g5_preV hPc hK hDc hN hT hS hFc (ci := 1) (q0 := 0) rfl rfl) rfl rfl hl.1 rfl (lv_room (Nat.le_of_ble_eq_true rfl)) dX5_meetGlass_109 ⟨Nat.le_of_ble_eq_true rfl, Nat.le_of_ble_eq_true rfl⟩) hS (fun q _ h => hFc q h) hFc (fun r u t H locs ht hvm hw hB hz1 hk1 hS => ?_)
          obtain ⟨hP1, hD1⟩ := hB
          have hP1 := g5_ht ht hP1
          obtain ⟨rfl, rfl⟩ := hw
          have hJ9 := va_join (wr := [(a_k, (oc5 a_h a_j a_pt e_ln e_se e_lh e_br e_we (e_me ||| (1 <<< (z5 &&& 31))) e_ce e_wy e_ho 1)), (a_j, (oc2 a_as a_sk)), (a_as, (arI G 8 f_as)), (a_sk, (arJ G 50 f_sk)), (a_lo, (oc3 e_cl a_hd a_sr a_cd)), (a_sr, (arI G n_sr f_sr)), (a_cd, (arI G n_cd f_cd)), (a_hd, (arI G n_hd f_hd)), (a_g, (oc6 6 5 a_gn e_g)), (a_gn, (arI G 30 f_g))]) hP hD [1, 5] [0, 2, 3, 4, 6, 7, 8, 9, 10, 11] rfl rfl (by decide +kernel) (by decide +kernel) hk1 hFc hP1 hD1
          clear hP hD hPc hDc hFc ht hvm hz1 hk1 hP1 hD1
          obtain ⟨hP, hD⟩ := hJ9
          refine g5_rs [(a_k, (oc5 a_h a_j a_pt e_ln e_se e_lh e_br e_we (e_me ||| (1 <<< (z5 &&& 31))) e_ce e_wy e_ho 1)), (a_j, (oc2 a_as a_sk)), (a_as, (arI G 8 f_as)), (a_sk, (arJ G 50 f_sk)), (a_lo, (oc3 e_cl a_hd a_sr a_cd)), (a_sr, (arI G n_sr f_sr)), (a_cd, (arI G n_cd f_cd)), (a_hd, (arI G n_hd f_hd)), (a_g, (oc6 6 5 a_gn e_g)), (a_gn, (arI G 30 f_g)), (a_h, (oc1 e_wa e_le e_st e_fo e_lc a_l a_g a_b a_s a_p a_w e_gb a_bb)), (a_l, (arW G 6 f_l))] hP hD ?_
          clear hP hD
          intro hP hD
          refine g5_tv (v := .ref a_lo) rfl ?_
          refine lv_astore (lv' := [(6, .ref a_lo), (5, .int z12), (4, .int z5), (3, .int z5), (2, .ref a_g), (1, .int z5), (0, .ref a_k)]) hx hb dX5_meetGlass_112 hl (by decide +kernel) rfl ?_
          clear hl
          intro ls hl
          refine W.eq (g2 := F0 m 114 ls []) rfl ?_
          refine lv_aload_n hx hb dX5_meetGlass_114 rfl (lv_at hl 6 rfl) ?_
          refine lv_iload hx hb dX5_meetGlass_115 (lv_at hl 2 rfl) ?_
          refine lv_iconst (v := (-1)) hx hb dX5_meetGlass_117 (by decide +kernel) ?_
          obtain ⟨hPc, hDc, hFc⟩ := g5_sub3 (wc := [(a_k, (oc5 a_h a_j a_pt e_ln e_se e_lh e_br e_we (e_me ||| (1 <<< (z5 &&& 31))) e_ce e_wy e_ho 1)), (a_j, (oc2 a_as a_sk)), (a_as, (arI G 8 f_as))]) hP hD hS hA [0, 1, 2] (by decide +kernel) rfl
          refine va_callv (va_runV (As := [.int z5, .int (-1)]) (rest := []) ⟨hx, hb, hml, hown, hts⟩ (k_askX l G a_k a_j a_as a_h a_pt a_sk H.size e_ln e_se e_lh e_br e_we (e_me ||| (1 <<< (z5 &&& 31))) e_ce e_wy e_ho 1 z5 (-1) f_as h_e_br h_e_ce h_e_wy h_e_ho ⟨by decide, by decide⟩) (cwV 2 hts gV_X5_120 rfl rfl rfl hv_X5_ask ⟨Nat.le_of_ble_eq_true rfl, Nat.le_of_ble_eq_true rfl⟩) (g5_preV hPc hK hDc hN hT hS hFc (ci := 5) (q0 := 0) rfl rfl) rfl rfl hl.1 rfl (lv_room (Nat.le_of_ble_eq_true rfl)) dX5_meetGlass_118 ⟨Nat.le_of_ble_eq_true rfl, Nat.le_of_ble_eq_true rfl⟩) hS (fun q _ h => hFc q h) hFc (fun u t H locs ht hvm hw hB hz1 hk1 hS => ?_)
          obtain ⟨hP1, hD1⟩ := hB
          have hP1 := g5_ht ht hP1
          obtain ⟨z16, (i_15 : ∀ j : Nat, j < 8 → askQ z5 e_ce e_ho e_wy ((-1) : Int32) e_ln e_br j = (z16 j).toInt64), rfl⟩ := hw
          have hJ9 := va_join (wr := [(a_sk, (arJ G 50 f_sk)), (a_lo, (oc3 e_cl a_hd a_sr a_cd)), (a_sr, (arI G n_sr f_sr)), (a_cd, (arI G n_cd f_cd)), (a_hd, (arI G n_hd f_hd)), (a_g, (oc6 6 5 a_gn e_g)), (a_gn, (arI G 30 f_g)), (a_h, (oc1 e_wa e_le e_st e_fo e_lc a_l a_g a_b a_s a_p a_w e_gb a_bb)), (a_l, (arW G 6 f_l))]) hP hD [0, 1, 2] [3, 4, 5, 6, 7, 8, 9, 10, 11] rfl rfl (by decide +kernel) (by decide +kernel) hk1 hFc hP1 hD1
          clear hP hD hPc hDc hFc ht hvm hz1 hk1 hP1 hD1
          obtain ⟨hP, hD⟩ := hJ9
          refine g5_rs [(a_sk, (arJ G 50 f_sk)), (a_lo, (oc3 e_cl a_hd a_sr a_cd)), (a_sr, (arI G n_sr f_sr)), (a_cd, (arI G n_cd f_cd)), (a_hd, (arI G n_hd f_hd)), (a_g, (oc6 6 5 a_gn e_g)), (a_gn, (arI G 30 f_g)), (a_h, (oc1 e_wa e_le e_st e_fo e_lc a_l a_g a_b a_s a_p a_w e_gb a_bb)), (a_l, (arW G 6 f_l)), (a_k, (oc5 a_h a_j a_pt e_ln e_se e_lh e_br e_we (e_me ||| (1 <<< (z5 &&& 31))) e_ce e_wy e_ho 1)), (a_j, (oc2 a_as a_sk)), (a_as, (arI G 8 z16))] hP hD ?_
          clear hP hD
          intro hP hD
          refine lv_aload_n hx hb dX5_meetGlass_121 rfl (lv_at hl 4 rfl) ?_
          refine W.eq (g2 := F0 m 122 ls [.ref a_g]) rfl ?_
          refine lv_iload_n hx hb dX5_meetGlass_122 rfl (lv_at hl 3 rfl) ?_
          refine lv_iconst (v := 4) hx hb dX5_meetGlass_123 (by decide +kernel) ?_
          obtain ⟨hPc, hDc, hFc⟩ := g5_sub3 (wc := [(a_g, (oc6 6 5 a_gn e_g)), (a_gn, (arI G 30 f_g))]) hP hD hS hA [5, 6] (by decide +kernel) rfl
          refine va_calli (va_runV (As := [.int z5, .int 4]) (rest := []) ⟨hx, hb, hml, hown, hts⟩ (t_get_G l G a_g a_gn H.size e_g z5 4 f_g h_e_g) (cwV 2 hts gV_X5_107 rfl rfl rfl hv_X6_get ⟨Nat.le_of_ble_eq_true rfl, Nat.le_of_ble_eq_true rfl⟩) (g5_preV hPc hK hDc hN hT hS hFc (ci := 6) (q0 := 0) rfl rfl) rfl rfl hl.1 rfl (lv_room (Nat.le_of_ble_eq_true rfl)) dX5_meetGlass_124 ⟨Nat.le_of_ble_eq_true rfl, Nat.le_of_ble_eq_true rfl⟩) hS (fun q _ h => hFc q h) hFc (fun r u t H locs ht hvm hw hB hz1 hk1 hS => ?_)
          obtain ⟨hP1, hD1⟩ := hB
          have hP1 := g5_ht ht hP1
          obtain ⟨z18, (i_17 : z18 = tget f_g e_g.toInt 5 z5.toInt (4 : Int32).toInt), y19, rfl⟩ := hw
          have hJ9 := va_join (wr := [(a_sk, (arJ G 50 f_sk)), (a_lo, (oc3 e_cl a_hd a_sr a_cd)), (a_sr, (arI G n_sr f_sr)), (a_cd, (arI G n_cd f_cd)), (a_hd, (arI G n_hd f_hd)), (a_h, (oc1 e_wa e_le e_st e_fo e_lc a_l a_g a_b a_s a_p a_w e_gb a_bb)), (a_l, (arW G 6 f_l)), (a_k, (oc5 a_h a_j a_pt e_ln e_se e_lh e_br e_we (e_me ||| (1 <<< (z5 &&& 31))) e_ce e_wy e_ho 1)), (a_j, (oc2 a_as a_sk)), (a_as, (arI G 8 z16))]) hP hD [5, 6] [0, 1, 2, 3, 4, 7, 8, 9, 10, 11] rfl rfl (by decide +kernel) (by decide +kernel) hk1 hFc hP1 hD1
          clear hP hD hPc hDc hFc ht hvm hz1 hk1 hP1 hD1
          obtain ⟨hP, hD⟩ := hJ9
          refine g5_rs [(a_sk, (arJ G 50 f_sk)), (a_lo, (oc3 e_cl a_hd a_sr a_cd)), (a_sr, (arI G n_sr f_sr)), (a_cd, (arI G n_cd f_cd)), (a_hd, (arI G n_hd f_hd)), (a_h, (oc1 e_wa e_le e_st e_fo e_lc a_l a_g a_b a_s a_p a_w e_gb a_bb)), (a_l, (arW G 6 f_l)), (a_k, (oc5 a_h a_j a_pt e_ln e_se e_lh e_br e_we (e_me ||| (1 <<< (z5 &&& 31))) e_ce e_wy e_ho 1)), (a_j, (oc2 a_as a_sk)), (a_as, (arI G 8 z16)), (a_g, (oc6 6 5 a_gn e_g)), (a_gn, (arI G 30 f_g))] hP hD ?_
          clear hP hD
          intro hP hD
          refine g5_ti (v := z18) y19 ?_
          have hc4_20 := gl_col (k := 4) e_qg i_2 i_17 (by decide +kernel) (by omega)
          refine lv_aload_n hx hb dX5_meetGlass_127 rfl (lv_at hl 6 rfl) ?_
          refine va_get (D := G.1) (ci := 5) (v := .int e_ho) (C := RX5) (T := TX5) (N := 13) hx hb hts inG_X5 hown hK hP 7 rfl rfl 11 (by decide +kernel) (hts _ fl_X5_33) (fun _ h9 => h9) rfl dX5_meetGlass_128 ?_
          refine W.eq (g2 := F0 m 131 ls [.int e_ho, .int z18]) rfl ?_
          refine lv_ishr hx hb dX5_meetGlass_131 ?_
          refine lv_iconst (v := 1) hx hb dX5_meetGlass_132 (by decide +kernel) ?_
          refine lv_iand hx hb dX5_meetGlass_133 ?_
          refine lv_if_ne (tgt := 169) hx hb dX5_meetGlass_134 (by decide +kernel) (fun c_21 => ?_) (fun c_21 => ?_)
          ·
            have n_21 : gNe (((z18 >>> (e_ho &&& 31)) &&& 1).toInt) (0) := g5_ne (a := ((z18 >>> (e_ho &&& 31)) &&& 1).toInt) (b := 0) rfl (by decide +kernel) c_21
            exact W.vret hx hb hr (fun t ht hW => ⟨⟨[(a_k, (oc5 a_h a_j a_pt e_ln e_se e_lh e_br e_we (e_me ||| (1 <<< (z5 &&& 31))) e_ce e_wy e_ho 1)), (a_h, (oc1 e_wa e_le e_st e_fo e_lc a_l a_g a_b a_s a_p a_w e_gb a_bb)), (a_g, (oc6 6 5 a_gn e_g)), (a_gn, (arI G 30 f_g)), (a_j, (oc2 a_as a_sk)), (a_as, (arI G 8 z16)), (a_sk, (arJ G 50 f_sk)), (a_l, (arW G 6 f_l)), (a_lo, (oc3 e_cl a_hd a_sr a_cd)), (a_sr, (arI G n_sr f_sr)), (a_cd, (arI G n_cd f_cd)), (a_hd, (arI G n_hd f_hd))], rfl, Or.inl (⟨e_br, (e_me ||| (1 <<< (z5 &&& 31))), z16, f_sk, h_e_br, by rw [met_c hGF (by omega) hc1_14 rfl rfl hc4_20 e_f4, tn_0 (Or.inl (by unfold isQ; unfold gNe at *; omega))]; exact ⟨rfl, rfl, rfl⟩, rfl⟩), by rw [ht]; exact hP.sub [7, 5, 10, 11, 8, 9, 0, 6, 1, 2, 3, 4] rfl, hD.sub [7, 5, 10, 11, 8, 9, 0, 6, 1, 2, 3, 4] (by decide +kernel) rfl⟩, hS.F ht⟩) hS.2.2 dX5_meetGlass_169
          ·
            have i_21 : ((z18 >>> (e_ho &&& 31)) &&& 1).toInt = 0 := g5_neN (a := ((z18 >>> (e_ho &&& 31)) &&& 1).toInt) (b := 0) rfl (by decide +kernel) c_21
            refine lv_aload_n hx hb dX5_meetGlass_137 rfl (lv_at hl 6 rfl) ?_
            refine va_get (D := G.1) (ci := 5) (v := .ref a_j) (C := RX5) (T := TX5) (N := 13) hx hb hts inG_X5 hown hK hP 7 rfl rfl 1 (by decide +kernel) (hts _ fl_X5_12) (fun _ h9 => h9) rfl dX5_meetGlass_138 ?_
            refine lv_aload hx hb dX5_meetGlass_141 (lv_at hl 0 rfl) ?_
            refine lv_iconst (v := 2) hx hb dX5_meetGlass_143 (by decide +kernel) ?_
            refine W.eq (g2 := F0 m 144 ls [.int 2, .ref a_lo, .ref a_j]) rfl ?_
            obtain ⟨hPc, hDc, hFc⟩ := g5_sub3 (wc := [(a_j, (oc2 a_as a_sk)), (a_as, (arI G 8 z16)), (a_sk, (arJ G 50 f_sk)), (a_lo, (oc3 e_cl a_hd a_sr a_cd)), (a_sr, (arI G n_sr f_sr)), (a_cd, (arI G n_cd f_cd)), (a_hd, (arI G n_hd f_hd))]) hP hD hS hA [8, 9, 0, 1, 2, 3, 4] (by decide +kernel) rfl
            refine va_calli (va_runV (As := [.ref a_lo, .int 2]) (rest := []) ⟨hx, hb, hml, hown, hts⟩ (j_isHeldX l G a_j a_as a_sk a_lo a_sr a_cd a_hd H.size 2 e_cl z16 f_sk f_sr f_cd f_hd (askQ z5 e_ce e_ho e_wy (-1) e_ln e_br) g_L n_sr n_cd n_hd h_e_cl (e_hn) (e_hs) (e_hk) (e_c) (i_15) (e_lw) (e_lv)) (cwV 2 hts gV_X5_124 rfl rfl rfl hv_X2_isHeld ⟨Nat.le_of_ble_eq_true rfl, Nat.le_of_ble_eq_true rfl⟩) (g5_preV hPc hK hDc hN hT hS hFc (ci := 2) (q0 := 0) rfl rfl) rfl rfl hl.1 rfl (lv_room (Nat.le_of_ble_eq_true rfl)) dX5_meetGlass_144 ⟨Nat.le_of_ble_eq_true rfl, Nat.le_of_ble_eq_true rfl⟩) hS (fun q _ h => hFc q h) hFc (fun r u t H locs ht hvm hw hB hz1 hk1 hS => ?_)
            obtain ⟨hP1, hD1⟩ := hB
            have hP1 := g5_ht ht hP1
            rcases hw with ⟨z23, (i_22 : ∃ v : Int64, toldX g_L (2 : Int32).toInt (askQ z5 e_ce e_ho e_wy (-1) e_ln e_br) = some v ∧ ((2 : Int32).toInt < 2 → z23 0 = v)), rfl, rfl⟩ | ⟨z25, (i_24 : toldX g_L (2 : Int32).toInt (askQ z5 e_ce e_ho e_wy (-1) e_ln e_br) = none), rfl, rfl⟩
            ·
              have hJ9 := va_join (wr := [(a_h, (oc1 e_wa e_le e_st e_fo e_lc a_l a_g a_b a_s a_p a_w e_gb a_bb)), (a_l, (arW G 6 f_l)), (a_k, (oc5 a_h a_j a_pt e_ln e_se e_lh e_br e_we (e_me ||| (1 <<< (z5 &&& 31))) e_ce e_wy e_ho 1)), (a_g, (oc6 6 5 a_gn e_g)), (a_gn, (arI G 30 f_g))]) hP hD [8, 9, 0, 1, 2, 3, 4] [5, 6, 7, 10, 11] rfl rfl (by decide +kernel) (by decide +kernel) hk1 hFc hP1 hD1
              clear hP hD hPc hDc hFc ht hvm hz1 hk1 hP1 hD1
              obtain ⟨hP, hD⟩ := hJ9
              refine g5_rs [(a_h, (oc1 e_wa e_le e_st e_fo e_lc a_l a_g a_b a_s a_p a_w e_gb a_bb)), (a_l, (arW G 6 f_l)), (a_k, (oc5 a_h a_j a_pt e_ln e_se e_lh e_br e_we (e_me ||| (1 <<< (z5 &&& 31))) e_ce e_wy e_ho 1)), (a_g, (oc6 6 5 a_gn e_g)), (a_gn, (arI G 30 f_g)), (a_j, (oc2 a_as a_sk)), (a_as, (arI G 8 z16)), (a_sk, (arJ G 50 z23)), (a_lo, (oc3 e_cl a_hd a_sr a_cd)), (a_sr, (arI G n_sr f_sr)), (a_cd, (arI G n_cd f_cd)), (a_hd, (arI G n_hd f_hd))] hP hD ?_
              clear hP hD
              intro hP hD
              obtain ⟨v2_26, ht_26, hv_26⟩ := i_22
              skip
              refine lv_if_ne (tgt := 169) hx hb dX5_meetGlass_147 (by decide +kernel) (fun c_27 => ?_) (fun c_27 => ?_)
              ·
                exact W.vret hx hb hr (fun t ht hW => ⟨⟨[(a_k, (oc5 a_h a_j a_pt e_ln e_se e_lh e_br e_we (e_me ||| (1 <<< (z5 &&& 31))) e_ce e_wy e_ho 1)), (a_h, (oc1 e_wa e_le e_st e_fo e_lc a_l a_g a_b a_s a_p a_w e_gb a_bb)), (a_g, (oc6 6 5 a_gn e_g)), (a_gn, (arI G 30 f_g)), (a_j, (oc2 a_as a_sk)), (a_as, (arI G 8 z16)), (a_sk, (arJ G 50 z23)), (a_l, (arW G 6 f_l)), (a_lo, (oc3 e_cl a_hd a_sr a_cd)), (a_sr, (arI G n_sr f_sr)), (a_cd, (arI G n_cd f_cd)), (a_hd, (arI G n_hd f_hd))], rfl, Or.inl (⟨e_br, (e_me ||| (1 <<< (z5 &&& 31))), z16, z23, h_e_br, by rw [met_c hGF (by omega) hc1_14 rfl rfl hc4_20 e_f4, tn_0 (Or.inr (Or.inl (by rw [tW_of e_w (by decide +kernel) ht_26]; exact fun q9 => by cases q9)))]; exact ⟨rfl, rfl, rfl⟩, rfl⟩), by rw [ht]; exact hP.sub [2, 0, 3, 4, 5, 6, 7, 1, 8, 9, 10, 11] rfl, hD.sub [2, 0, 3, 4, 5, 6, 7, 1, 8, 9, 10, 11] (by decide +kernel) rfl⟩, hS.F ht⟩) hS.2.2 dX5_meetGlass_169
              ·
                exact absurd c_27 (by decide +kernel)
            ·
              have hJ9 := va_join (wr := [(a_h, (oc1 e_wa e_le e_st e_fo e_lc a_l a_g a_b a_s a_p a_w e_gb a_bb)), (a_l, (arW G 6 f_l)), (a_k, (oc5 a_h a_j a_pt e_ln e_se e_lh e_br e_we (e_me ||| (1 <<< (z5 &&& 31))) e_ce e_wy e_ho 1)), (a_g, (oc6 6 5 a_gn e_g)), (a_gn, (arI G 30 f_g))]) hP hD [8, 9, 0, 1, 2, 3, 4] [5, 6, 7, 10, 11] rfl rfl (by decide +kernel) (by decide +kernel) hk1 hFc hP1 hD1
              clear hP hD hPc hDc hFc ht hvm hz1 hk1 hP1 hD1
              obtain ⟨hP, hD⟩ := hJ9
              refine g5_rs [(a_h, (oc1 e_wa e_le e_st e_fo e_lc a_l a_g a_b a_s a_p a_w e_gb a_bb)), (a_l, (arW G 6 f_l)), (a_k, (oc5 a_h a_j a_pt e_ln e_se e_lh e_br e_we (e_me ||| (1 <<< (z5 &&& 31))) e_ce e_wy e_ho 1)), (a_g, (oc6 6 5 a_gn e_g)), (a_gn, (arI G 30 f_g)), (a_j, (oc2 a_as a_sk)), (a_as, (arI G 8 z16)), (a_sk, (arJ G 50 z25)), (a_lo, (oc3 e_cl a_hd a_sr a_cd)), (a_sr, (arI G n_sr f_sr)), (a_cd, (arI G n_cd f_cd)), (a_hd, (arI G n_hd f_hd))] hP hD ?_
              clear hP hD
              intro hP hD
              refine lv_if_ne (tgt := 169) hx hb dX5_meetGlass_147 (by decide +kernel) (fun c_28 => ?_) (fun c_28 => ?_)
              ·
                exact absurd c_28 (by decide +kernel)
              ·
                refine lv_iload hx hb dX5_meetGlass_150 (lv_at hl 1 rfl) ?_
                refine lv_iconst (v := 2) hx hb dX5_meetGlass_152 (by decide +kernel) ?_
                refine lv_icmp_lt (tgt := 170) hx hb dX5_meetGlass_153 (by decide +kernel) (fun c_29 => ?_) (fun c_29 => ?_)
                ·
                  have i_29 : z12.toInt < 2 := g5_lt (a := z12.toInt) (b := 2) rfl (by decide +kernel) c_29
                  have hNS : ¬ (isQ z18 e_ho ∨ toldW g_w 2 (askQ z5 e_ce e_ho e_wy (-1) e_ln e_br) ≠ none ∨ (2 ≤ z12.toInt ∧ e_wy.toInt ≠ z12.toInt % 4)) := ns_of (fun q9 => by unfold isQ at q9; unfold gNe at *; omega) (tW_of e_w (by decide +kernel) i_24) (fun q9 => by have q8 := wr_of (so := z12) (wy := e_wy) ⟨by omega, by omega⟩ ⟨by omega, by omega⟩; unfold gNe at *; omega)
                  refine lv_aload_n hx hb dX5_meetGlass_170 rfl (lv_at hl 6 rfl) ?_
                  refine va_get (D := G.1) (ci := 5) (v := .ref a_j) (C := RX5) (T := TX5) (N := 13) hx hb hts inG_X5 hown hK hP 2 rfl rfl 1 (by decide +kernel) (hts _ fl_X5_12) (fun _ h9 => h9) rfl dX5_meetGlass_171 ?_
                  refine lv_aload hx hb dX5_meetGlass_174 (lv_at hl 0 rfl) ?_
                  refine lv_iconst (v := 0) hx hb dX5_meetGlass_176 (by decide +kernel) ?_
                  refine W.eq (g2 := F0 m 177 ls [.int 0, .ref a_lo, .ref a_j]) rfl ?_
                  obtain ⟨hPc, hDc, hFc⟩ := g5_sub3 (wc := [(a_j, (oc2 a_as a_sk)), (a_as, (arI G 8 z16)), (a_sk, (arJ G 50 z25)), (a_lo, (oc3 e_cl a_hd a_sr a_cd)), (a_sr, (arI G n_sr f_sr)), (a_cd, (arI G n_cd f_cd)), (a_hd, (arI G n_hd f_hd))]) hP hD hS hA [5, 6, 7, 8, 9, 10, 11] (by decide +kernel) rfl
                  refine va_calli (va_runV (As := [.ref a_lo, .int 0]) (rest := []) ⟨hx, hb, hml, hown, hts⟩ (j_isHeldX l G a_j a_as a_sk a_lo a_sr a_cd a_hd H.size 0 e_cl z16 z25 f_sr f_cd f_hd (askQ z5 e_ce e_ho e_wy (-1) e_ln e_br) g_L n_sr n_cd n_hd h_e_cl (e_hn) (e_hs) (e_hk) (e_c) (i_15) (e_lw) (e_lv)) (cwV 2 hts gV_X5_124 rfl rfl rfl hv_X2_isHeld ⟨Nat.le_of_ble_eq_true rfl, Nat.le_of_ble_eq_true rfl⟩) (g5_preV hPc hK hDc hN hT hS hFc (ci := 2) (q0 := 0) rfl rfl) rfl rfl hl.1 rfl (lv_room (Nat.le_of_ble_eq_true rfl)) dX5_meetGlass_177 ⟨Nat.le_of_ble_eq_true rfl, Nat.le_of_ble_eq_true rfl⟩) hS (fun q _ h => hFc q h) hFc (fun r u t H locs ht hvm hw hB hz1 hk1 hS => ?_)
                  obtain ⟨hP1, hD1⟩ := hB
                  have hP1 := g5_ht ht hP1
                  rcases hw with ⟨z31, (i_30 : ∃ v : Int64, toldX g_L (0 : Int32).toInt (askQ z5 e_ce e_ho e_wy (-1) e_ln e_br) = some v ∧ ((0 : Int32).toInt < 2 → z31 0 = v)), rfl, rfl⟩ | ⟨z33, (i_32 : toldX g_L (0 : Int32).toInt (askQ z5 e_ce e_ho e_wy (-1) e_ln e_br) = none), rfl, rfl⟩
                  ·
                    have hJ9 := va_join (wr := [(a_h, (oc1 e_wa e_le e_st e_fo e_lc a_l a_g a_b a_s a_p a_w e_gb a_bb)), (a_l, (arW G 6 f_l)), (a_k, (oc5 a_h a_j a_pt e_ln e_se e_lh e_br e_we (e_me ||| (1 <<< (z5 &&& 31))) e_ce e_wy e_ho 1)), (a_g, (oc6 6 5 a_gn e_g)), (a_gn, (arI G 30 f_g))]) hP hD [5, 6, 7, 8, 9, 10, 11] [0, 1, 2, 3, 4] rfl rfl (by decide +kernel) (by decide +kernel) hk1 hFc hP1 hD1
                    clear hP hD hPc hDc hFc ht hvm hz1 hk1 hP1 hD1
                    obtain ⟨hP, hD⟩ := hJ9
                    refine g5_rs [(a_h, (oc1 e_wa e_le e_st e_fo e_lc a_l a_g a_b a_s a_p a_w e_gb a_bb)), (a_l, (arW G 6 f_l)), (a_k, (oc5 a_h a_j a_pt e_ln e_se e_lh e_br e_we (e_me ||| (1 <<< (z5 &&& 31))) e_ce e_wy e_ho 1)), (a_g, (oc6 6 5 a_gn e_g)), (a_gn, (arI G 30 f_g)), (a_j, (oc2 a_as a_sk)), (a_as, (arI G 8 z16)), (a_sk, (arJ G 50 z31)), (a_lo, (oc3 e_cl a_hd a_sr a_cd)), (a_sr, (arI G n_sr f_sr)), (a_cd, (arI G n_cd f_cd)), (a_hd, (arI G n_hd f_hd))] hP hD ?_
                    clear hP hD
                    intro hP hD
                    obtain ⟨v0_34, ht_34, hv_34⟩ := i_30
                    have hw_34 := hv_34 (by decide +kernel)
                    refine lv_if_eq (tgt := 195) hx hb dX5_meetGlass_180 (by decide +kernel) (fun c_35 => ?_) (fun c_35 => ?_)
                    ·
                      exact absurd c_35 (by decide +kernel)
                    ·
                      refine lv_aload_n hx hb dX5_meetGlass_183 rfl (lv_at hl 6 rfl) ?_
                      refine va_get (D := G.1) (ci := 5) (v := .ref a_j) (C := RX5) (T := TX5) (N := 13) hx hb hts inG_X5 hown hK hP 2 rfl rfl 1 (by decide +kernel) (hts _ fl_X5_12) (fun _ h9 => h9) rfl dX5_meetGlass_184 ?_
                      refine lv_bipush (v := 23) hx hb dX5_meetGlass_187 (by decide +kernel) ?_
                      obtain ⟨hPc, hDc, hFc⟩ := g5_sub3 (wc := [(a_j, (oc2 a_as a_sk)), (a_sk, (arJ G 50 z31))]) hP hD hS hA [5, 7] (by decide +kernel) rfl
                      refine va_calli (va_runV (As := [.int 23]) (rest := []) ⟨hx, hb, hml, hown, hts⟩ (j_toldX l G a_j a_sk a_as H.size 23 z31 ⟨by decide, by decide⟩) (cwV 1 hts gV_X5_134 rfl rfl rfl hv_X2_toldUpTo ⟨Nat.le_of_ble_eq_true rfl, Nat.le_of_ble_eq_true rfl⟩) (g5_preV hPc hK hDc hN hT hS hFc (ci := 2) (q0 := 0) rfl rfl) rfl rfl hl.1 rfl (lv_room (Nat.le_of_ble_eq_true rfl)) dX5_meetGlass_189 ⟨Nat.le_of_ble_eq_true rfl, Nat.le_of_ble_eq_true rfl⟩) hS (fun q _ h => hFc q h) hFc (fun r u t H locs ht hvm hw hB hz1 hk1 hS => ?_)
                      obtain ⟨hP1, hD1⟩ := hB
                      have hP1 := g5_ht ht hP1
                      obtain ⟨z38, (i_36 : 0 ≤ z38.toInt ∧ z38.toInt ≤ (23 : Int32).toInt), (i_37 : z38 = clampQ (z31 0) (23 : Int32)), y39, rfl⟩ := hw
                      have hJ9 := va_join (wr := [(a_h, (oc1 e_wa e_le e_st e_fo e_lc a_l a_g a_b a_s a_p a_w e_gb a_bb)), (a_l, (arW G 6 f_l)), (a_k, (oc5 a_h a_j a_pt e_ln e_se e_lh e_br e_we (e_me ||| (1 <<< (z5 &&& 31))) e_ce e_wy e_ho 1)), (a_g, (oc6 6 5 a_gn e_g)), (a_gn, (arI G 30 f_g)), (a_as, (arI G 8 z16)), (a_lo, (oc3 e_cl a_hd a_sr a_cd)), (a_sr, (arI G n_sr f_sr)), (a_cd, (arI G n_cd f_cd)), (a_hd, (arI G n_hd f_hd))]) hP hD [5, 7] [0, 1, 2, 3, 4, 6, 8, 9, 10, 11] rfl rfl (by decide +kernel) (by decide +kernel) hk1 hFc hP1 hD1
                      clear hP hD hPc hDc hFc ht hvm hz1 hk1 hP1 hD1
                      obtain ⟨hP, hD⟩ := hJ9
                      refine g5_rs [(a_h, (oc1 e_wa e_le e_st e_fo e_lc a_l a_g a_b a_s a_p a_w e_gb a_bb)), (a_l, (arW G 6 f_l)), (a_k, (oc5 a_h a_j a_pt e_ln e_se e_lh e_br e_we (e_me ||| (1 <<< (z5 &&& 31))) e_ce e_wy e_ho 1)), (a_g, (oc6 6 5 a_gn e_g)), (a_gn, (arI G 30 f_g)), (a_as, (arI G 8 z16)), (a_lo, (oc3 e_cl a_hd a_sr a_cd)), (a_sr, (arI G n_sr f_sr)), (a_cd, (arI G n_cd f_cd)), (a_hd, (arI G n_hd f_hd)), (a_j, (oc2 a_as a_sk)), (a_sk, (arJ G 50 z31))] hP hD ?_
                      clear hP hD
                      intro hP hD
                      refine g5_ti (v := z38) y39 ?_
                      refine W.eq (g2 := F0 m 192 ls [.int z38]) rfl ?_
                      refine lv_goto (tgt := 201) hx hb dX5_meetGlass_192 (by decide +kernel) ?_
                      have hV_40 : z38 = tellQ (toldW g_w 0 (askQ z5 e_ce e_ho e_wy (-1) e_ln e_br)) (f_ro (80 + 5 * z5.toInt.toNat + 2)) 23 := tell_s (tW_of e_w (by decide +kernel) ht_34) (by rw [i_37, hw_34])
                      have hr_40 : 0 ≤ z38.toInt ∧ z38.toInt ≤ 23 := ⟨by omega, by have zk : (23 : Int32).toInt = 23 := (by decide +kernel); omega⟩
                      refine lv_istore (lv' := [(7, .int z38), (6, .ref a_lo), (5, .int z12), (4, .int z5), (3, .int z5), (2, .ref a_g), (1, .int z5), (0, .ref a_k)]) hx hb dX5_meetGlass_201 hl (by decide +kernel) rfl ?_
                      clear hl
                      intro ls hl
                      refine lv_iload hx hb dX5_meetGlass_203 (lv_at hl 0 rfl) ?_
                      refine lv_aload_n hx hb dX5_meetGlass_205 rfl (lv_at hl 7 rfl) ?_
                      refine va_get (D := G.1) (ci := 5) (v := .int e_ho) (C := RX5) (T := TX5) (N := 13) hx hb hts inG_X5 hown hK hP 2 rfl rfl 11 (by decide +kernel) (hts _ fl_X5_33) (fun _ h9 => h9) rfl dX5_meetGlass_206 ?_
                      refine W.eq (g2 := F0 m 209 ls [.int e_ho, .int z38]) rfl ?_
                      refine lv_icmp_le (tgt := 213) hx hb dX5_meetGlass_209 (by decide +kernel) (fun c_41 => ?_) (fun c_41 => ?_)
                      ·
                        have i_41 : z38.toInt ≤ e_ho.toInt := g5_le (a := z38.toInt) (b := e_ho.toInt) rfl rfl c_41
                        refine lv_aload_n hx hb dX5_meetGlass_213 rfl (lv_at hl 7 rfl) ?_
                        refine va_get (D := G.1) (ci := 5) (v := .ref a_j) (C := RX5) (T := TX5) (N := 13) hx hb hts inG_X5 hown hK hP 2 rfl rfl 1 (by decide +kernel) (hts _ fl_X5_12) (fun _ h9 => h9) rfl dX5_meetGlass_214 ?_
                        refine lv_aload hx hb dX5_meetGlass_217 (lv_at hl 1 rfl) ?_
                        refine lv_iconst (v := 1) hx hb dX5_meetGlass_219 (by decide +kernel) ?_
                        refine W.eq (g2 := F0 m 220 ls [.int 1, .ref a_lo, .ref a_j]) rfl ?_
                        obtain ⟨hPc, hDc, hFc⟩ := g5_sub3 (wc := [(a_j, (oc2 a_as a_sk)), (a_as, (arI G 8 z16)), (a_sk, (arJ G 50 z31)), (a_lo, (oc3 e_cl a_hd a_sr a_cd)), (a_sr, (arI G n_sr f_sr)), (a_cd, (arI G n_cd f_cd)), (a_hd, (arI G n_hd f_hd))]) hP hD hS hA [10, 5, 11, 6, 7, 8, 9] (by decide +kernel) rfl
                        refine va_calli (va_runV (As := [.ref a_lo, .int 1]) (rest := []) ⟨hx, hb, hml, hown, hts⟩ (j_isHeldX l G a_j a_as a_sk a_lo a_sr a_cd a_hd H.size 1 e_cl z16 z31 f_sr f_cd f_hd (askQ z5 e_ce e_ho e_wy (-1) e_ln e_br) g_L n_sr n_cd n_hd h_e_cl (e_hn) (e_hs) (e_hk) (e_c) (i_15) (e_lw) (e_lv)) (cwV 2 hts gV_X5_124 rfl rfl rfl hv_X2_isHeld ⟨Nat.le_of_ble_eq_true rfl, Nat.le_of_ble_eq_true rfl⟩) (g5_preV hPc hK hDc hN hT hS hFc (ci := 2) (q0 := 0) rfl rfl) rfl rfl hl.1 rfl (lv_room (Nat.le_of_ble_eq_true rfl)) dX5_meetGlass_220 ⟨Nat.le_of_ble_eq_true rfl, Nat.le_of_ble_eq_true rfl⟩) hS (fun q _ h => hFc q h) hFc (fun r u t H locs ht hvm hw hB hz1 hk1 hS => ?_)
                        obtain ⟨hP1, hD1⟩ := hB
                        have hP1 := g5_ht ht hP1
                        rcases hw with ⟨z43, (i_42 : ∃ v : Int64, toldX g_L (1 : Int32).toInt (askQ z5 e_ce e_ho e_wy (-1) e_ln e_br) = some v ∧ ((1 : Int32).toInt < 2 → z43 0 = v)), rfl, rfl⟩ | ⟨z45, (i_44 : toldX g_L (1 : Int32).toInt (askQ z5 e_ce e_ho e_wy (-1) e_ln e_br) = none), rfl, rfl⟩
                        ·
                          have hJ9 := va_join (wr := [(a_h, (oc1 e_wa e_le e_st e_fo e_lc a_l a_g a_b a_s a_p a_w e_gb a_bb)), (a_l, (arW G 6 f_l)), (a_k, (oc5 a_h a_j a_pt e_ln e_se e_lh e_br e_we (e_me ||| (1 <<< (z5 &&& 31))) e_ce e_wy e_ho 1)), (a_g, (oc6 6 5 a_gn e_g)), (a_gn, (arI G 30 f_g))]) hP hD [10, 5, 11, 6, 7, 8, 9] [0, 1, 2, 3, 4] rfl rfl (by decide +kernel) (by decide +kernel) hk1 hFc hP1 hD1
                          clear hP hD hPc hDc hFc ht hvm hz1 hk1 hP1 hD1
                          obtain ⟨hP, hD⟩ := hJ9
                          refine g5_rs [(a_h, (oc1 e_wa e_le e_st e_fo e_lc a_l a_g a_b a_s a_p a_w e_gb a_bb)), (a_l, (arW G 6 f_l)), (a_k, (oc5 a_h a_j a_pt e_ln e_se e_lh e_br e_we (e_me ||| (1 <<< (z5 &&& 31))) e_ce e_wy e_ho 1)), (a_g, (oc6 6 5 a_gn e_g)), (a_gn, (arI G 30 f_g)), (a_j, (oc2 a_as a_sk)), (a_as, (arI G 8 z16)), (a_sk, (arJ G 50 z43)), (a_lo, (oc3 e_cl a_hd a_sr a_cd)), (a_sr, (arI G n_sr f_sr)), (a_cd, (arI G n_cd f_cd)), (a_hd, (arI G n_hd f_hd))] hP hD ?_
                          clear hP hD
                          intro hP hD
                          obtain ⟨v1_46, ht_46, hv_46⟩ := i_42
                          have hw_46 := hv_46 (by decide +kernel)
                          refine lv_if_eq (tgt := 238) hx hb dX5_meetGlass_223 (by decide +kernel) (fun c_47 => ?_) (fun c_47 => ?_)
                          ·
                            exact absurd c_47 (by decide +kernel)
                          ·
                            refine lv_aload_n hx hb dX5_meetGlass_226 rfl (lv_at hl 7 rfl) ?_
                            refine va_get (D := G.1) (ci := 5) (v := .ref a_j) (C := RX5) (T := TX5) (N := 13) hx hb hts inG_X5 hown hK hP 2 rfl rfl 1 (by decide +kernel) (hts _ fl_X5_12) (fun _ h9 => h9) rfl dX5_meetGlass_227 ?_
                            refine lv_bipush (v := 10) hx hb dX5_meetGlass_230 (by decide +kernel) ?_
                            obtain ⟨hPc, hDc, hFc⟩ := g5_sub3 (wc := [(a_j, (oc2 a_as a_sk)), (a_sk, (arJ G 50 z43))]) hP hD hS hA [5, 7] (by decide +kernel) rfl
                            refine va_calli (va_runV (As := [.int 10]) (rest := []) ⟨hx, hb, hml, hown, hts⟩ (j_toldX l G a_j a_sk a_as H.size 10 z43 ⟨by decide, by decide⟩) (cwV 1 hts gV_X5_134 rfl rfl rfl hv_X2_toldUpTo ⟨Nat.le_of_ble_eq_true rfl, Nat.le_of_ble_eq_true rfl⟩) (g5_preV hPc hK hDc hN hT hS hFc (ci := 2) (q0 := 0) rfl rfl) rfl rfl hl.1 rfl (lv_room (Nat.le_of_ble_eq_true rfl)) dX5_meetGlass_232 ⟨Nat.le_of_ble_eq_true rfl, Nat.le_of_ble_eq_true rfl⟩) hS (fun q _ h => hFc q h) hFc (fun r u t H locs ht hvm hw hB hz1 hk1 hS => ?_)
                            obtain ⟨hP1, hD1⟩ := hB
                            have hP1 := g5_ht ht hP1
                            obtain ⟨z50, (i_48 : 0 ≤ z50.toInt ∧ z50.toInt ≤ (10 : Int32).toInt), (i_49 : z50 = clampQ (z43 0) (10 : Int32)), y51, rfl⟩ := hw
                            have hJ9 := va_join (wr := [(a_h, (oc1 e_wa e_le e_st e_fo e_lc a_l a_g a_b a_s a_p a_w e_gb a_bb)), (a_l, (arW G 6 f_l)), (a_k, (oc5 a_h a_j a_pt e_ln e_se e_lh e_br e_we (e_me ||| (1 <<< (z5 &&& 31))) e_ce e_wy e_ho 1)), (a_g, (oc6 6 5 a_gn e_g)), (a_gn, (arI G 30 f_g)), (a_as, (arI G 8 z16)), (a_lo, (oc3 e_cl a_hd a_sr a_cd)), (a_sr, (arI G n_sr f_sr)), (a_cd, (arI G n_cd f_cd)), (a_hd, (arI G n_hd f_hd))]) hP hD [5, 7] [0, 1, 2, 3, 4, 6, 8, 9, 10, 11] rfl rfl (by decide +kernel) (by decide +kernel) hk1 hFc hP1 hD1
                            clear hP hD hPc hDc hFc ht hvm hz1 hk1 hP1 hD1
                            obtain ⟨hP, hD⟩ := hJ9
                            refine g5_rs [(a_h, (oc1 e_wa e_le e_st e_fo e_lc a_l a_g a_b a_s a_p a_w e_gb a_bb)), (a_l, (arW G 6 f_l)), (a_k, (oc5 a_h a_j a_pt e_ln e_se e_lh e_br e_we (e_me ||| (1 <<< (z5 &&& 31))) e_ce e_wy e_ho 1)), (a_g, (oc6 6 5 a_gn e_g)), (a_gn, (arI G 30 f_g)), (a_as, (arI G 8 z16)), (a_lo, (oc3 e_cl a_hd a_sr a_cd)), (a_sr, (arI G n_sr f_sr)), (a_cd, (arI G n_cd f_cd)), (a_hd, (arI G n_hd f_hd)), (a_j, (oc2 a_as a_sk)), (a_sk, (arJ G 50 z43))] hP hD ?_
                            clear hP hD
                            intro hP hD
                            refine g5_ti (v := z50) y51 ?_
                            refine W.eq (g2 := F0 m 235 ls [.int z50]) rfl ?_
                            refine lv_goto (tgt := 244) hx hb dX5_meetGlass_235 (by decide +kernel) ?_
                            have hV_52 : z50 = tellQ (toldW g_w 1 (askQ z5 e_ce e_ho e_wy (-1) e_ln e_br)) (f_ro (80 + 5 * z5.toInt.toNat + 3)) 10 := tell_s (tW_of e_w (by decide +kernel) ht_46) (by rw [i_49, hw_46])
                            have hr_52 : 0 ≤ z50.toInt ∧ z50.toInt ≤ 10 := ⟨by omega, by have zk : (10 : Int32).toInt = 10 := (by decide +kernel); omega⟩
                            refine lv_istore (lv' := [(8, .int z50), (7, .int z38), (6, .ref a_lo), (5, .int z12), (4, .int z5), (3, .int z5), (2, .ref a_g), (1, .int z5), (0, .ref a_k)]) hx hb dX5_meetGlass_244 hl (by decide +kernel) rfl ?_
                            clear hl
                            intro ls hl
                            refine lv_aload_n hx hb dX5_meetGlass_246 rfl (lv_at hl 8 rfl) ?_
                            refine lv_aload_n hx hb dX5_meetGlass_247 rfl (lv_at hl 8 rfl) ?_
                            refine va_get (D := G.1) (ci := 5) (v := .int e_br) (C := RX5) (T := TX5) (N := 13) hx hb hts inG_X5 hown hK hP 2 rfl rfl 6 (by decide +kernel) (hts _ fl_X5_46) (fun _ h9 => h9) rfl dX5_meetGlass_248 ?_
                            refine W.eq (g2 := F0 m 251 ls [.int e_br, .ref a_k]) rfl ?_
                            refine lv_bipush (v := 10) hx hb dX5_meetGlass_251 (by decide +kernel) ?_
                            refine lv_iload hx hb dX5_meetGlass_253 (lv_at hl 0 rfl) ?_
                            refine lv_isub hx hb dX5_meetGlass_255 ?_
                            have t_53 : (10 - z50).toInt = 10 - z50.toInt := g5_isub (a := 10) (b := z50.toInt) (by decide +kernel) (by rfl) (by omega) (by omega)
                            refine lv_imul hx hb dX5_meetGlass_256 ?_
                            refine lv_bipush (v := 10) hx hb dX5_meetGlass_257 (by decide +kernel) ?_
                            refine W.eq (g2 := F0 m 259 ls [.int 10, .int (e_br * (10 - z50)), .ref a_k]) rfl ?_
                            refine lv_idiv hx hb dX5_meetGlass_259 (by decide +kernel) ?_
                            have hb_54 : 0 ≤ ((e_br * (10 - z50)) / 10).toInt ∧ ((e_br * (10 - z50)) / 10).toInt ≤ 1000000 := g_dust (by omega) (by omega)
                            refine va_put (D := G.1) (ci := 5) (v := .int ((e_br * (10 - z50)) / 10)) (ty := .int) (C := RX5) (T := TX5) (N := 13) hx hb hts inG_X5 tyX5 tyX5_ok nmX5 hown hK hP hD hS 2 rfl rfl 6 (by decide +kernel) (hts _ fl_X5_46) (fun _ h9 => h9) rfl (by decide +kernel) rfl rfl (Nat.le_of_ble_eq_true rfl) dX5_meetGlass_260 ?_
                            clear hP hD hS
                            intro H locs hP hD hS
                            refine g5_rs [(a_h, (oc1 e_wa e_le e_st e_fo e_lc a_l a_g a_b a_s a_p a_w e_gb a_bb)), (a_l, (arW G 6 f_l)), (a_k, (oc5 a_h a_j a_pt e_ln e_se e_lh ((e_br * (10 - z50)) / 10) e_we (e_me ||| (1 <<< (z5 &&& 31))) e_ce e_wy e_ho 1)), (a_g, (oc6 6 5 a_gn e_g)), (a_gn, (arI G 30 f_g)), (a_as, (arI G 8 z16)), (a_lo, (oc3 e_cl a_hd a_sr a_cd)), (a_sr, (arI G n_sr f_sr)), (a_cd, (arI G n_cd f_cd)), (a_hd, (arI G n_hd f_hd)), (a_j, (oc2 a_as a_sk)), (a_sk, (arJ G 50 z43))] hP hD ?_
                            clear hP hD
                            intro hP hD
                            refine lv_aload_n hx hb dX5_meetGlass_263 rfl (lv_at hl 8 rfl) ?_
                            refine va_get (D := G.1) (ci := 5) (v := .int ((e_br * (10 - z50)) / 10)) (C := RX5) (T := TX5) (N := 13) hx hb hts inG_X5 hown hK hP 2 rfl rfl 6 (by decide +kernel) (hts _ fl_X5_46) (fun _ h9 => h9) rfl dX5_meetGlass_264 ?_
                            refine lv_aload_n hx hb dX5_meetGlass_267 rfl (lv_at hl 8 rfl) ?_
                            refine W.eq (g2 := F0 m 268 ls [.ref a_k, .int ((e_br * (10 - z50)) / 10)]) rfl ?_
                            refine va_get (D := G.1) (ci := 5) (v := .ref a_h) (C := RX5) (T := TX5) (N := 13) hx hb hts inG_X5 hown hK hP 2 rfl rfl 0 (by decide +kernel) (hts _ fl_X5_22) (fun _ h9 => h9) rfl dX5_meetGlass_268 ?_
                            refine va_get (D := G.1) (ci := 1) (v := .int e_le) (C := RX1) (T := TX1) (N := 13) hx hb hts inG_X1 hown hK hP 0 rfl rfl 1 (by decide +kernel) (hts _ fl_X5_138) (fun _ h9 => h9) rfl dX5_meetGlass_271 ?_
                            refine lv_icmp_ge (tgt := 278) hx hb dX5_meetGlass_274 (by decide +kernel) (fun c_55 => ?_) (fun c_55 => ?_)
                            ·
                              have i_55 : ((e_br * (10 - z50)) / 10).toInt ≥ e_le.toInt := g5_ge (a := ((e_br * (10 - z50)) / 10).toInt) (b := e_le.toInt) rfl rfl c_55
                              refine lv_aload_n hx hb dX5_meetGlass_278 rfl (lv_at hl 8 rfl) ?_
                              refine lv_dup hx hb dX5_meetGlass_279 rfl ?_
                              refine va_get (D := G.1) (ci := 5) (v := .int e_ho) (C := RX5) (T := TX5) (N := 13) hx hb hts inG_X5 hown hK hP 2 rfl rfl 11 (by decide +kernel) (hts _ fl_X5_33) (fun _ h9 => h9) rfl dX5_meetGlass_280 ?_
                              refine lv_iload hx hb dX5_meetGlass_283 (lv_at hl 1 rfl) ?_
                              refine W.eq (g2 := F0 m 285 ls [.int z38, .int e_ho, .ref a_k]) rfl ?_
                              refine lv_isub hx hb dX5_meetGlass_285 ?_
                              have t_56 : (e_ho - z38).toInt = e_ho.toInt - z38.toInt := g5_isub (a := e_ho.toInt) (b := z38.toInt) (by rfl) (by rfl) (by omega) (by omega)
                              refine va_put (D := G.1) (ci := 5) (v := .int (e_ho - z38)) (ty := .int) (C := RX5) (T := TX5) (N := 13) hx hb hts inG_X5 tyX5 tyX5_ok nmX5 hown hK hP hD hS 2 rfl rfl 11 (by decide +kernel) (hts _ fl_X5_33) (fun _ h9 => h9) rfl (by decide +kernel) rfl rfl (Nat.le_of_ble_eq_true rfl) dX5_meetGlass_286 ?_
                              clear hP hD hS
                              intro H locs hP hD hS
                              refine g5_rs [(a_h, (oc1 e_wa e_le e_st e_fo e_lc a_l a_g a_b a_s a_p a_w e_gb a_bb)), (a_l, (arW G 6 f_l)), (a_k, (oc5 a_h a_j a_pt e_ln e_se e_lh ((e_br * (10 - z50)) / 10) e_we (e_me ||| (1 <<< (z5 &&& 31))) e_ce e_wy (e_ho - z38) 1)), (a_g, (oc6 6 5 a_gn e_g)), (a_gn, (arI G 30 f_g)), (a_as, (arI G 8 z16)), (a_lo, (oc3 e_cl a_hd a_sr a_cd)), (a_sr, (arI G n_sr f_sr)), (a_cd, (arI G n_cd f_cd)), (a_hd, (arI G n_hd f_hd)), (a_j, (oc2 a_as a_sk)), (a_sk, (arJ G 50 z43))] hP hD ?_
                              clear hP hD
                              intro hP hD
                              refine lv_aload_n hx hb dX5_meetGlass_289 rfl (lv_at hl 8 rfl) ?_
                              refine lv_iload hx hb dX5_meetGlass_290 (lv_at hl 3 rfl) ?_
                              refine lv_if_ne (tgt := 304) hx hb dX5_meetGlass_292 (by decide +kernel) (fun c_57 => ?_) (fun c_57 => ?_)
                              ·
                                have n_57 : gNe (z12.toInt) (0) := g5_ne (a := z12.toInt) (b := 0) rfl (by decide +kernel) c_57
                                have i_57 : z12.toInt ≥ 1 := by have z := g5_ne (a := z12.toInt) (b := 0) (by rfl) (by decide +kernel) c_57; omega
                                refine lv_iload hx hb dX5_meetGlass_304 (lv_at hl 3 rfl) ?_
                                refine lv_iconst (v := 1) hx hb dX5_meetGlass_306 (by decide +kernel) ?_
                                refine lv_icmp_ne (tgt := 319) hx hb dX5_meetGlass_307 (by decide +kernel) (fun c_58 => ?_) (fun c_58 => ?_)
                                ·
                                  have i_58 : z12.toInt ≠ 1 := g5_ne (a := z12.toInt) (b := 1) rfl (by decide +kernel) c_58
                                  omega
                                ·
                                  have i_58 : z12.toInt = 1 := g5_neN (a := z12.toInt) (b := 1) rfl (by decide +kernel) c_58
                                  refine lv_iconst (v := 3) hx hb dX5_meetGlass_310 (by decide +kernel) ?_
                                  refine lv_aload_n hx hb dX5_meetGlass_311 rfl (lv_at hl 8 rfl) ?_
                                  refine va_get (D := G.1) (ci := 5) (v := .int e_wy) (C := RX5) (T := TX5) (N := 13) hx hb hts inG_X5 hown hK hP 2 rfl rfl 10 (by decide +kernel) (hts _ fl_X5_30) (fun _ h9 => h9) rfl dX5_meetGlass_312 ?_
                                  refine lv_isub hx hb dX5_meetGlass_315 ?_
                                  have t_59 : (3 - e_wy).toInt = 3 - e_wy.toInt := g5_isub (a := 3) (b := e_wy.toInt) (by decide +kernel) (by rfl) (by omega) (by omega)
                                  refine W.eq (g2 := F0 m 316 ls [.int (3 - e_wy), .ref a_k]) rfl ?_
                                  refine lv_goto (tgt := 325) hx hb dX5_meetGlass_316 (by decide +kernel) ?_
                                  refine va_put (D := G.1) (ci := 5) (v := .int (3 - e_wy)) (ty := .int) (C := RX5) (T := TX5) (N := 13) hx hb hts inG_X5 tyX5 tyX5_ok nmX5 hown hK hP hD hS 2 rfl rfl 10 (by decide +kernel) (hts _ fl_X5_30) (fun _ h9 => h9) rfl (by decide +kernel) rfl rfl (Nat.le_of_ble_eq_true rfl) dX5_meetGlass_325 ?_
                                  clear hP hD hS
                                  intro H locs hP hD hS
                                  refine g5_rs [(a_h, (oc1 e_wa e_le e_st e_fo e_lc a_l a_g a_b a_s a_p a_w e_gb a_bb)), (a_l, (arW G 6 f_l)), (a_k, (oc5 a_h a_j a_pt e_ln e_se e_lh ((e_br * (10 - z50)) / 10) e_we (e_me ||| (1 <<< (z5 &&& 31))) e_ce (3 - e_wy) (e_ho - z38) 1)), (a_g, (oc6 6 5 a_gn e_g)), (a_gn, (arI G 30 f_g)), (a_as, (arI G 8 z16)), (a_lo, (oc3 e_cl a_hd a_sr a_cd)), (a_sr, (arI G n_sr f_sr)), (a_cd, (arI G n_cd f_cd)), (a_hd, (arI G n_hd f_hd)), (a_j, (oc2 a_as a_sk)), (a_sk, (arJ G 50 z43))] hP hD ?_
                                  clear hP hD
                                  intro hP hD
                                  refine lv_aload_n hx hb dX5_meetGlass_328 rfl (lv_at hl 8 rfl) ?_
                                  refine lv_dup hx hb dX5_meetGlass_329 rfl ?_
                                  refine va_get (D := G.1) (ci := 5) (v := .int e_we) (C := RX5) (T := TX5) (N := 13) hx hb hts inG_X5 hown hK hP 2 rfl rfl 7 (by decide +kernel) (hts _ fl_X5_49) (fun _ h9 => h9) rfl dX5_meetGlass_330 ?_
                                  refine W.eq (g2 := F0 m 333 ls [.int e_we, .ref a_k]) rfl ?_
                                  refine lv_iconst (v := 1) hx hb dX5_meetGlass_333 (by decide +kernel) ?_
                                  refine lv_iload hx hb dX5_meetGlass_334 (lv_at hl 4 rfl) ?_
                                  refine lv_ishl hx hb dX5_meetGlass_336 ?_
                                  refine lv_ior hx hb dX5_meetGlass_337 ?_
                                  refine va_put (D := G.1) (ci := 5) (v := .int (e_we ||| (1 <<< (z5 &&& 31)))) (ty := .int) (C := RX5) (T := TX5) (N := 13) hx hb hts inG_X5 tyX5 tyX5_ok nmX5 hown hK hP hD hS 2 rfl rfl 7 (by decide +kernel) (hts _ fl_X5_49) (fun _ h9 => h9) rfl (by decide +kernel) rfl rfl (Nat.le_of_ble_eq_true rfl) dX5_meetGlass_338 ?_
                                  clear hP hD hS
                                  intro H locs hP hD hS
                                  refine g5_rs [(a_h, (oc1 e_wa e_le e_st e_fo e_lc a_l a_g a_b a_s a_p a_w e_gb a_bb)), (a_l, (arW G 6 f_l)), (a_k, (oc5 a_h a_j a_pt e_ln e_se e_lh ((e_br * (10 - z50)) / 10) (e_we ||| (1 <<< (z5 &&& 31))) (e_me ||| (1 <<< (z5 &&& 31))) e_ce (3 - e_wy) (e_ho - z38) 1)), (a_g, (oc6 6 5 a_gn e_g)), (a_gn, (arI G 30 f_g)), (a_as, (arI G 8 z16)), (a_lo, (oc3 e_cl a_hd a_sr a_cd)), (a_sr, (arI G n_sr f_sr)), (a_cd, (arI G n_cd f_cd)), (a_hd, (arI G n_hd f_hd)), (a_j, (oc2 a_as a_sk)), (a_sk, (arJ G 50 z43))] hP hD ?_
                                  clear hP hD
                                  intro hP hD
                                  refine W.eq (g2 := F0 m 341 ls []) rfl ?_
                                  refine lv_aload_n hx hb dX5_meetGlass_341 rfl (lv_at hl 8 rfl) ?_
                                  refine lv_iconst (v := 0) hx hb dX5_meetGlass_342 (by decide +kernel) ?_
                                  refine va_put (D := G.1) (ci := 5) (v := .int 0) (ty := .boolean) (C := RX5) (T := TX5) (N := 13) hx hb hts inG_X5 tyX5 tyX5_ok nmX5 hown hK hP hD hS 2 rfl rfl 12 (by decide +kernel) (hts _ fl_X5_56) (fun _ h9 => h9) rfl (by decide +kernel) rfl rfl (Nat.le_of_ble_eq_true rfl) dX5_meetGlass_343 ?_
                                  clear hP hD hS
                                  intro H locs hP hD hS
                                  refine g5_rs [(a_h, (oc1 e_wa e_le e_st e_fo e_lc a_l a_g a_b a_s a_p a_w e_gb a_bb)), (a_l, (arW G 6 f_l)), (a_k, (oc5 a_h a_j a_pt e_ln e_se e_lh ((e_br * (10 - z50)) / 10) (e_we ||| (1 <<< (z5 &&& 31))) (e_me ||| (1 <<< (z5 &&& 31))) e_ce (3 - e_wy) (e_ho - z38) 0)), (a_g, (oc6 6 5 a_gn e_g)), (a_gn, (arI G 30 f_g)), (a_as, (arI G 8 z16)), (a_lo, (oc3 e_cl a_hd a_sr a_cd)), (a_sr, (arI G n_sr f_sr)), (a_cd, (arI G n_cd f_cd)), (a_hd, (arI G n_hd f_hd)), (a_j, (oc2 a_as a_sk)), (a_sk, (arJ G 50 z43))] hP hD ?_
                                  clear hP hD
                                  intro hP hD
                                  exact W.vret hx hb hr (fun t ht hW => ⟨⟨[(a_k, (oc5 a_h a_j a_pt e_ln e_se e_lh ((e_br * (10 - z50)) / 10) (e_we ||| (1 <<< (z5 &&& 31))) (e_me ||| (1 <<< (z5 &&& 31))) e_ce (3 - e_wy) (e_ho - z38) 0)), (a_h, (oc1 e_wa e_le e_st e_fo e_lc a_l a_g a_b a_s a_p a_w e_gb a_bb)), (a_g, (oc6 6 5 a_gn e_g)), (a_gn, (arI G 30 f_g)), (a_j, (oc2 a_as a_sk)), (a_as, (arI G 8 z16)), (a_sk, (arJ G 50 z43)), (a_l, (arW G 6 f_l)), (a_lo, (oc3 e_cl a_hd a_sr a_cd)), (a_sr, (arI G n_sr f_sr)), (a_cd, (arI G n_cd f_cd)), (a_hd, (arI G n_hd f_hd))], rfl, Or.inr (⟨((e_br * (10 - z50)) / 10), (e_we ||| (1 <<< (z5 &&& 31))), (e_me ||| (1 <<< (z5 &&& 31))), (3 - e_wy), (e_ho - z38), z16, z43, ⟨by omega, by omega⟩, ⟨by omega, by omega⟩, ⟨by omega, by omega⟩, by rw [met_c hGF (by omega) hc1_14 rfl rfl hc4_20 e_f4, tn_3 hNS hV_40 (by omega) hV_52 rfl (by omega), nw_1 (so := z12) (by omega)], rfl⟩), by rw [ht]; exact hP.sub [2, 0, 3, 4, 10, 5, 11, 1, 6, 7, 8, 9] rfl, hD.sub [2, 0, 3, 4, 10, 5, 11, 1, 6, 7, 8, 9] (by decide +kernel) rfl⟩, hS.F ht⟩) hS.2.2 dX5_meetGlass_346
                              ·
                                have i_57 : z12.toInt = 0 := g5_neN (a := z12.toInt) (b := 0) rfl (by decide +kernel) c_57
                                refine lv_aload_n hx hb dX5_meetGlass_295 rfl (lv_at hl 8 rfl) ?_
                                refine va_get (D := G.1) (ci := 5) (v := .int e_wy) (C := RX5) (T := TX5) (N := 13) hx hb hts inG_X5 hown hK hP 2 rfl rfl 10 (by decide +kernel) (hts _ fl_X5_30) (fun _ h9 => h9) rfl dX5_meetGlass_296 ?_
                                refine lv_iconst (v := 1) hx hb dX5_meetGlass_299 (by decide +kernel) ?_
                                refine lv_ixor hx hb dX5_meetGlass_300 ?_
                                have hx_60 := (g_xor (w := e_wy) (by omega) (by omega)).1
                                refine W.eq (g2 := F0 m 301 ls [.int (e_wy ^^^ 1), .ref a_k]) rfl ?_
                                refine lv_goto (tgt := 325) hx hb dX5_meetGlass_301 (by decide +kernel) ?_
                                refine va_put (D := G.1) (ci := 5) (v := .int (e_wy ^^^ 1)) (ty := .int) (C := RX5) (T := TX5) (N := 13) hx hb hts inG_X5 tyX5 tyX5_ok nmX5 hown hK hP hD hS 2 rfl rfl 10 (by decide +kernel) (hts _ fl_X5_30) (fun _ h9 => h9) rfl (by decide +kernel) rfl rfl (Nat.le_of_ble_eq_true rfl) dX5_meetGlass_325 ?_
                                clear hP hD hS
                                intro H locs hP hD hS
                                refine g5_rs [(a_h, (oc1 e_wa e_le e_st e_fo e_lc a_l a_g a_b a_s a_p a_w e_gb a_bb)), (a_l, (arW G 6 f_l)), (a_k, (oc5 a_h a_j a_pt e_ln e_se e_lh ((e_br * (10 - z50)) / 10) e_we (e_me ||| (1 <<< (z5 &&& 31))) e_ce (e_wy ^^^ 1) (e_ho - z38) 1)), (a_g, (oc6 6 5 a_gn e_g)), (a_gn, (arI G 30 f_g)), (a_as, (arI G 8 z16)), (a_lo, (oc3 e_cl a_hd a_sr a_cd)), (a_sr, (arI G n_sr f_sr)), (a_cd, (arI G n_cd f_cd)), (a_hd, (arI G n_hd f_hd)), (a_j, (oc2 a_as a_sk)), (a_sk, (arJ G 50 z43))] hP hD ?_
                                clear hP hD
                                intro hP hD
                                refine lv_aload_n hx hb dX5_meetGlass_328 rfl (lv_at hl 8 rfl) ?_
                                refine lv_dup hx hb dX5_meetGlass_329 rfl ?_
                                refine va_get (D := G.1) (ci := 5) (v := .int e_we) (C := RX5) (T := TX5) (N := 13) hx hb hts inG_X5 hown hK hP 2 rfl rfl 7 (by decide +kernel) (hts _ fl_X5_49) (fun _ h9 => h9) rfl dX5_meetGlass_330 ?_
                                refine W.eq (g2 := F0 m 333 ls [.int e_we, .ref a_k]) rfl ?_
                                refine lv_iconst (v := 1) hx hb dX5_meetGlass_333 (by decide +kernel) ?_
                                refine lv_iload hx hb dX5_meetGlass_334 (lv_at hl 4 rfl) ?_
                                refine lv_ishl hx hb dX5_meetGlass_336 ?_
                                refine lv_ior hx hb dX5_meetGlass_337 ?_
                                refine va_put (D := G.1) (ci := 5) (v := .int (e_we ||| (1 <<< (z5 &&& 31)))) (ty := .int) (C := RX5) (T := TX5) (N := 13) hx hb hts inG_X5 tyX5 tyX5_ok nmX5 hown hK hP hD hS 2 rfl rfl 7 (by decide +kernel) (hts _ fl_X5_49) (fun _ h9 => h9) rfl (by decide +kernel) rfl rfl (Nat.le_of_ble_eq_true rfl) dX5_meetGlass_338 ?_
                                clear hP hD hS
                                intro H locs hP hD hS
                                refine g5_rs [(a_h, (oc1 e_wa e_le e_st e_fo e_lc a_l a_g a_b a_s a_p a_w e_gb a_bb)), (a_l, (arW G 6 f_l)), (a_k, (oc5 a_h a_j a_pt e_ln e_se e_lh ((e_br * (10 - z50)) / 10) (e_we ||| (1 <<< (z5 &&& 31))) (e_me ||| (1 <<< (z5 &&& 31))) e_ce (e_wy ^^^ 1) (e_ho - z38) 1)), (a_g, (oc6 6 5 a_gn e_g)), (a_gn, (arI G 30 f_g)), (a_as, (arI G 8 z16)), (a_lo, (oc3 e_cl a_hd a_sr a_cd)), (a_sr, (arI G n_sr f_sr)), (a_cd, (arI G n_cd f_cd)), (a_hd, (arI G n_hd f_hd)), (a_j, (oc2 a_as a_sk)), (a_sk, (arJ G 50 z43))] hP hD ?_
                                clear hP hD
                                intro hP hD
                                refine W.eq (g2 := F0 m 341 ls []) rfl ?_
                                refine lv_aload_n hx hb dX5_meetGlass_341 rfl (lv_at hl 8 rfl) ?_
                                refine lv_iconst (v := 0) hx hb dX5_meetGlass_342 (by decide +kernel) ?_
                                refine va_put (D := G.1) (ci := 5) (v := .int 0) (ty := .boolean) (C := RX5) (T := TX5) (N := 13) hx hb hts inG_X5 tyX5 tyX5_ok nmX5 hown hK hP hD hS 2 rfl rfl 12 (by decide +kernel) (hts _ fl_X5_56) (fun _ h9 => h9) rfl (by decide +kernel) rfl rfl (Nat.le_of_ble_eq_true rfl) dX5_meetGlass_343 ?_
                                clear hP hD hS
                                intro H locs hP hD hS
                                refine g5_rs [(a_h, (oc1 e_wa e_le e_st e_fo e_lc a_l a_g a_b a_s a_p a_w e_gb a_bb)), (a_l, (arW G 6 f_l)), (a_k, (oc5 a_h a_j a_pt e_ln e_se e_lh ((e_br * (10 - z50)) / 10) (e_we ||| (1 <<< (z5 &&& 31))) (e_me ||| (1 <<< (z5 &&& 31))) e_ce (e_wy ^^^ 1) (e_ho - z38) 0)), (a_g, (oc6 6 5 a_gn e_g)), (a_gn, (arI G 30 f_g)), (a_as, (arI G 8 z16)), (a_lo, (oc3 e_cl a_hd a_sr a_cd)), (a_sr, (arI G n_sr f_sr)), (a_cd, (arI G n_cd f_cd)), (a_hd, (arI G n_hd f_hd)), (a_j, (oc2 a_as a_sk)), (a_sk, (arJ G 50 z43))] hP hD ?_
                                clear hP hD
                                intro hP hD
                                exact W.vret hx hb hr (fun t ht hW => ⟨⟨[(a_k, (oc5 a_h a_j a_pt e_ln e_se e_lh ((e_br * (10 - z50)) / 10) (e_we ||| (1 <<< (z5 &&& 31))) (e_me ||| (1 <<< (z5 &&& 31))) e_ce (e_wy ^^^ 1) (e_ho - z38) 0)), (a_h, (oc1 e_wa e_le e_st e_fo e_lc a_l a_g a_b a_s a_p a_w e_gb a_bb)), (a_g, (oc6 6 5 a_gn e_g)), (a_gn, (arI G 30 f_g)), (a_j, (oc2 a_as a_sk)), (a_as, (arI G 8 z16)), (a_sk, (arJ G 50 z43)), (a_l, (arW G 6 f_l)), (a_lo, (oc3 e_cl a_hd a_sr a_cd)), (a_sr, (arI G n_sr f_sr)), (a_cd, (arI G n_cd f_cd)), (a_hd, (arI G n_hd f_hd))], rfl, Or.inr (⟨((e_br * (10 - z50)) / 10), (e_we ||| (1 <<< (z5 &&& 31))), (e_me ||| (1 <<< (z5 &&& 31))), (e_wy ^^^ 1), (e_ho - z38), z16, z43, ⟨by omega, by omega⟩, ⟨by omega, by omega⟩, ⟨by omega, by omega⟩, by rw [met_c hGF (by omega) hc1_14 rfl rfl hc4_20 e_f4, tn_3 hNS hV_40 (by omega) hV_52 rfl (by omega), nw_0 (so := z12) (by omega)], rfl⟩), by rw [ht]; exact hP.sub [2, 0, 3, 4, 10, 5, 11, 1, 6, 7, 8, 9] rfl, hD.sub [2, 0, 3, 4, 10, 5, 11, 1, 6, 7, 8, 9] (by decide +kernel) rfl⟩, hS.F ht⟩) hS.2.2 dX5_meetGlass_346
                            ·
                              have i_55 : ((e_br * (10 - z50)) / 10).toInt < e_le.toInt := g5_geN (a := ((e_br * (10 - z50)) / 10).toInt) (b := e_le.toInt) rfl rfl c_55
                              exact W.vret hx hb hr (fun t ht hW => ⟨⟨[(a_k, (oc5 a_h a_j a_pt e_ln e_se e_lh ((e_br * (10 - z50)) / 10) e_we (e_me ||| (1 <<< (z5 &&& 31))) e_ce e_wy e_ho 1)), (a_h, (oc1 e_wa e_le e_st e_fo e_lc a_l a_g a_b a_s a_p a_w e_gb a_bb)), (a_g, (oc6 6 5 a_gn e_g)), (a_gn, (arI G 30 f_g)), (a_j, (oc2 a_as a_sk)), (a_as, (arI G 8 z16)), (a_sk, (arJ G 50 z43)), (a_l, (arW G 6 f_l)), (a_lo, (oc3 e_cl a_hd a_sr a_cd)), (a_sr, (arI G n_sr f_sr)), (a_cd, (arI G n_cd f_cd)), (a_hd, (arI G n_hd f_hd))], rfl, Or.inl (⟨((e_br * (10 - z50)) / 10), (e_me ||| (1 <<< (z5 &&& 31))), z16, z43, ⟨by omega, by omega⟩, by rw [met_c hGF (by omega) hc1_14 rfl rfl hc4_20 e_f4, tn_2 hNS hV_40 (by omega) hV_52 rfl (by omega)]; exact ⟨rfl, rfl, rfl⟩, rfl⟩), by rw [ht]; exact hP.sub [2, 0, 3, 4, 10, 5, 11, 1, 6, 7, 8, 9] rfl, hD.sub [2, 0, 3, 4, 10, 5, 11, 1, 6, 7, 8, 9] (by decide +kernel) rfl⟩, hS.F ht⟩) hS.2.2 dX5_meetGlass_277
                        ·
                          have hJ9 := va_join (wr := [(a_h, (oc1 e_wa e_le e_st e_fo e_lc a_l a_g a_b a_s a_p a_w e_gb a_bb)), (a_l, (arW G 6 f_l)), (a_k, (oc5 a_h a_j a_pt e_ln e_se e_lh e_br e_we (e_me ||| (1 <<< (z5 &&& 31))) e_ce e_wy e_ho 1)), (a_g, (oc6 6 5 a_gn e_g)), (a_gn, (arI G 30 f_g))]) hP hD [10, 5, 11, 6, 7, 8, 9] [0, 1, 2, 3, 4] rfl rfl (by decide +kernel) (by decide +kernel) hk1 hFc hP1 hD1
                          clear hP hD hPc hDc hFc ht hvm hz1 hk1 hP1 hD1
                          obtain ⟨hP, hD⟩ := hJ9
                          refine g5_rs [(a_h, (oc1 e_wa e_le e_st e_fo e_lc a_l a_g a_b a_s a_p a_w e_gb a_bb)), (a_l, (arW G 6 f_l)), (a_k, (oc5 a_h a_j a_pt e_ln e_se e_lh e_br e_we (e_me ||| (1 <<< (z5 &&& 31))) e_ce e_wy e_ho 1)), (a_g, (oc6 6 5 a_gn e_g)), (a_gn, (arI G 30 f_g)), (a_j, (oc2 a_as a_sk)), (a_as, (arI G 8 z16)), (a_sk, (arJ G 50 z45)), (a_lo, (oc3 e_cl a_hd a_sr a_cd)), (a_sr, (arI G n_sr f_sr)), (a_cd, (arI G n_cd f_cd)), (a_hd, (arI G n_hd f_hd))] hP hD ?_
                          clear hP hD
                          intro hP hD
                          refine lv_if_eq (tgt := 238) hx hb dX5_meetGlass_223 (by decide +kernel) (fun c_61 => ?_) (fun c_61 => ?_)
                          ·
                            refine lv_aload_n hx hb dX5_meetGlass_238 rfl (lv_at hl 5 rfl) ?_
                            refine lv_iload_n hx hb dX5_meetGlass_239 rfl (lv_at hl 4 rfl) ?_
                            refine lv_iconst (v := 3) hx hb dX5_meetGlass_240 (by decide +kernel) ?_
                            obtain ⟨hPc, hDc, hFc⟩ := g5_sub3 (wc := [(a_g, (oc6 6 5 a_gn e_g)), (a_gn, (arI G 30 f_g))]) hP hD hS hA [3, 4] (by decide +kernel) rfl
                            refine va_calli (va_runV (As := [.int z5, .int 3]) (rest := []) ⟨hx, hb, hml, hown, hts⟩ (t_get_G l G a_g a_gn H.size e_g z5 3 f_g h_e_g) (cwV 2 hts gV_X5_107 rfl rfl rfl hv_X6_get ⟨Nat.le_of_ble_eq_true rfl, Nat.le_of_ble_eq_true rfl⟩) (g5_preV hPc hK hDc hN hT hS hFc (ci := 6) (q0 := 0) rfl rfl) rfl rfl hl.1 rfl (lv_room (Nat.le_of_ble_eq_true rfl)) dX5_meetGlass_241 ⟨Nat.le_of_ble_eq_true rfl, Nat.le_of_ble_eq_true rfl⟩) hS (fun q _ h => hFc q h) hFc (fun r u t H locs ht hvm hw hB hz1 hk1 hS => ?_)
                            obtain ⟨hP1, hD1⟩ := hB
                            have hP1 := g5_ht ht hP1
                            obtain ⟨z63, (i_62 : z63 = tget f_g e_g.toInt 5 z5.toInt (3 : Int32).toInt), y64, rfl⟩ := hw
                            have hJ9 := va_join (wr := [(a_h, (oc1 e_wa e_le e_st e_fo e_lc a_l a_g a_b a_s a_p a_w e_gb a_bb)), (a_l, (arW G 6 f_l)), (a_k, (oc5 a_h a_j a_pt e_ln e_se e_lh e_br e_we (e_me ||| (1 <<< (z5 &&& 31))) e_ce e_wy e_ho 1)), (a_j, (oc2 a_as a_sk)), (a_as, (arI G 8 z16)), (a_sk, (arJ G 50 z45)), (a_lo, (oc3 e_cl a_hd a_sr a_cd)), (a_sr, (arI G n_sr f_sr)), (a_cd, (arI G n_cd f_cd)), (a_hd, (arI G n_hd f_hd))]) hP hD [3, 4] [0, 1, 2, 5, 6, 7, 8, 9, 10, 11] rfl rfl (by decide +kernel) (by decide +kernel) hk1 hFc hP1 hD1
                            clear hP hD hPc hDc hFc ht hvm hz1 hk1 hP1 hD1
                            obtain ⟨hP, hD⟩ := hJ9
                            refine g5_rs [(a_h, (oc1 e_wa e_le e_st e_fo e_lc a_l a_g a_b a_s a_p a_w e_gb a_bb)), (a_l, (arW G 6 f_l)), (a_k, (oc5 a_h a_j a_pt e_ln e_se e_lh e_br e_we (e_me ||| (1 <<< (z5 &&& 31))) e_ce e_wy e_ho 1)), (a_j, (oc2 a_as a_sk)), (a_as, (arI G 8 z16)), (a_sk, (arJ G 50 z45)), (a_lo, (oc3 e_cl a_hd a_sr a_cd)), (a_sr, (arI G n_sr f_sr)), (a_cd, (arI G n_cd f_cd)), (a_hd, (arI G n_hd f_hd)), (a_g, (oc6 6 5 a_gn e_g)), (a_gn, (arI G 30 f_g))] hP hD ?_
                            clear hP hD
                            intro hP hD
                            refine g5_ti (v := z63) y64 ?_
                            have hc3_66 := gl_col (k := 3) e_qg i_2 i_62 (by decide +kernel) (by omega)
                            have hg_66 : 0 ≤ z63.toInt ∧ z63.toInt ≤ 10 := by rw [i_62]; exact (e_gk z5.toInt (by omega) (by omega)).2.2.2
                            have hV_65 : z63 = tellQ (toldW g_w 1 (askQ z5 e_ce e_ho e_wy (-1) e_ln e_br)) (f_ro (80 + 5 * z5.toInt.toNat + 3)) 10 := hc3_66.symm.trans (tell_n (tW_of e_w (by decide +kernel) i_44))
                            refine W.eq (g2 := F0 m 244 ls [.int z63]) rfl ?_
                            refine lv_istore (lv' := [(8, .int z63), (7, .int z38), (6, .ref a_lo), (5, .int z12), (4, .int z5), (3, .int z5), (2, .ref a_g), (1, .int z5), (0, .ref a_k)]) hx hb dX5_meetGlass_244 hl (by decide +kernel) rfl ?_
                            clear hl
                            intro ls hl
                            refine lv_aload_n hx hb dX5_meetGlass_246 rfl (lv_at hl 8 rfl) ?_
                            refine lv_aload_n hx hb dX5_meetGlass_247 rfl (lv_at hl 8 rfl) ?_
                            refine va_get (D := G.1) (ci := 5) (v := .int e_br) (C := RX5) (T := TX5) (N := 13) hx hb hts inG_X5 hown hK hP 2 rfl rfl 6 (by decide +kernel) (hts _ fl_X5_46) (fun _ h9 => h9) rfl dX5_meetGlass_248 ?_
                            refine lv_bipush (v := 10) hx hb dX5_meetGlass_251 (by decide +kernel) ?_
                            refine W.eq (g2 := F0 m 253 ls [.int 10, .int e_br, .ref a_k]) rfl ?_
                            refine lv_iload hx hb dX5_meetGlass_253 (lv_at hl 0 rfl) ?_
                            refine lv_isub hx hb dX5_meetGlass_255 ?_
                            have t_67 : (10 - z63).toInt = 10 - z63.toInt := g5_isub (a := 10) (b := z63.toInt) (by decide +kernel) (by rfl) (by omega) (by omega)
                            refine lv_imul hx hb dX5_meetGlass_256 ?_
                            refine lv_bipush (v := 10) hx hb dX5_meetGlass_257 (by decide +kernel) ?_
                            refine lv_idiv hx hb dX5_meetGlass_259 (by decide +kernel) ?_
                            have hb_68 : 0 ≤ ((e_br * (10 - z63)) / 10).toInt ∧ ((e_br * (10 - z63)) / 10).toInt ≤ 1000000 := g_dust (by omega) (by omega)
                            refine W.eq (g2 := F0 m 260 ls [.int ((e_br * (10 - z63)) / 10), .ref a_k]) rfl ?_
                            refine va_put (D := G.1) (ci := 5) (v := .int ((e_br * (10 - z63)) / 10)) (ty := .int) (C := RX5) (T := TX5) (N := 13) hx hb hts inG_X5 tyX5 tyX5_ok nmX5 hown hK hP hD hS 2 rfl rfl 6 (by decide +kernel) (hts _ fl_X5_46) (fun _ h9 => h9) rfl (by decide +kernel) rfl rfl (Nat.le_of_ble_eq_true rfl) dX5_meetGlass_260 ?_
                            clear hP hD hS
                            intro H locs hP hD hS
                            refine g5_rs [(a_h, (oc1 e_wa e_le e_st e_fo e_lc a_l a_g a_b a_s a_p a_w e_gb a_bb)), (a_l, (arW G 6 f_l)), (a_k, (oc5 a_h a_j a_pt e_ln e_se e_lh ((e_br * (10 - z63)) / 10) e_we (e_me ||| (1 <<< (z5 &&& 31))) e_ce e_wy e_ho 1)), (a_j, (oc2 a_as a_sk)), (a_as, (arI G 8 z16)), (a_sk, (arJ G 50 z45)), (a_lo, (oc3 e_cl a_hd a_sr a_cd)), (a_sr, (arI G n_sr f_sr)), (a_cd, (arI G n_cd f_cd)), (a_hd, (arI G n_hd f_hd)), (a_g, (oc6 6 5 a_gn e_g)), (a_gn, (arI G 30 f_g))] hP hD ?_
                            clear hP hD
                            intro hP hD
                            refine lv_aload_n hx hb dX5_meetGlass_263 rfl (lv_at hl 8 rfl) ?_
                            refine va_get (D := G.1) (ci := 5) (v := .int ((e_br * (10 - z63)) / 10)) (C := RX5) (T := TX5) (N := 13) hx hb hts inG_X5 hown hK hP 2 rfl rfl 6 (by decide +kernel) (hts _ fl_X5_46) (fun _ h9 => h9) rfl dX5_meetGlass_264 ?_
                            refine lv_aload_n hx hb dX5_meetGlass_267 rfl (lv_at hl 8 rfl) ?_
                            refine va_get (D := G.1) (ci := 5) (v := .ref a_h) (C := RX5) (T := TX5) (N := 13) hx hb hts inG_X5 hown hK hP 2 rfl rfl 0 (by decide +kernel) (hts _ fl_X5_22) (fun _ h9 => h9) rfl dX5_meetGlass_268 ?_
                            refine W.eq (g2 := F0 m 271 ls [.ref a_h, .int ((e_br * (10 - z63)) / 10)]) rfl ?_
                            refine va_get (D := G.1) (ci := 1) (v := .int e_le) (C := RX1) (T := TX1) (N := 13) hx hb hts inG_X1 hown hK hP 0 rfl rfl 1 (by decide +kernel) (hts _ fl_X5_138) (fun _ h9 => h9) rfl dX5_meetGlass_271 ?_
                            refine lv_icmp_ge (tgt := 278) hx hb dX5_meetGlass_274 (by decide +kernel) (fun c_69 => ?_) (fun c_69 => ?_)
                            ·
                              have i_69 : ((e_br * (10 - z63)) / 10).toInt ≥ e_le.toInt := g5_ge (a := ((e_br * (10 - z63)) / 10).toInt) (b := e_le.toInt) rfl rfl c_69
                              refine lv_aload_n hx hb dX5_meetGlass_278 rfl (lv_at hl 8 rfl) ?_
                              refine lv_dup hx hb dX5_meetGlass_279 rfl ?_
                              refine va_get (D := G.1) (ci := 5) (v := .int e_ho) (C := RX5) (T := TX5) (N := 13) hx hb hts inG_X5 hown hK hP 2 rfl rfl 11 (by decide +kernel) (hts _ fl_X5_33) (fun _ h9 => h9) rfl dX5_meetGlass_280 ?_
                              refine lv_iload hx hb dX5_meetGlass_283 (lv_at hl 1 rfl) ?_
                              refine W.eq (g2 := F0 m 285 ls [.int z38, .int e_ho, .ref a_k]) rfl ?_
                              refine lv_isub hx hb dX5_meetGlass_285 ?_
                              have t_70 : (e_ho - z38).toInt = e_ho.toInt - z38.toInt := g5_isub (a := e_ho.toInt) (b := z38.toInt) (by rfl) (by rfl) (by omega) (by omega)
                              refine va_put (D := G.1) (ci := 5) (v := .int (e_ho - z38)) (ty := .int) (C := RX5) (T := TX5) (N := 13) hx hb hts inG_X5 tyX5 tyX5_ok nmX5 hown hK hP hD hS 2 rfl rfl 11 (by decide +kernel) (hts _ fl_X5_33) (fun _ h9 => h9) rfl (by decide +kernel) rfl rfl (Nat.le_of_ble_eq_true rfl) dX5_meetGlass_286 ?_
                              clear hP hD hS
                              intro H locs hP hD hS
                              refine g5_rs [(a_h, (oc1 e_wa e_le e_st e_fo e_lc a_l a_g a_b a_s a_p a_w e_gb a_bb)), (a_l, (arW G 6 f_l)), (a_k, (oc5 a_h a_j a_pt e_ln e_se e_lh ((e_br * (10 - z63)) / 10) e_we (e_me ||| (1 <<< (z5 &&& 31))) e_ce e_wy (e_ho - z38) 1)), (a_j, (oc2 a_as a_sk)), (a_as, (arI G 8 z16)), (a_sk, (arJ G 50 z45)), (a_lo, (oc3 e_cl a_hd a_sr a_cd)), (a_sr, (arI G n_sr f_sr)), (a_cd, (arI G n_cd f_cd)), (a_hd, (arI G n_hd f_hd)), (a_g, (oc6 6 5 a_gn e_g)), (a_gn, (arI G 30 f_g))] hP hD ?_
                              clear hP hD
                              intro hP hD
                              refine lv_aload_n hx hb dX5_meetGlass_289 rfl (lv_at hl 8 rfl) ?_
                              refine lv_iload hx hb dX5_meetGlass_290 (lv_at hl 3 rfl) ?_
                              refine lv_if_ne (tgt := 304) hx hb dX5_meetGlass_292 (by decide +kernel) (fun c_71 => ?_) (fun c_71 => ?_)
                              ·
                                have n_71 : gNe (z12.toInt) (0) := g5_ne (a := z12.toInt) (b := 0) rfl (by decide +kernel) c_71
                                have i_71 : z12.toInt ≥ 1 := by have z := g5_ne (a := z12.toInt) (b := 0) (by rfl) (by decide +kernel) c_71; omega
                                refine lv_iload hx hb dX5_meetGlass_304 (lv_at hl 3 rfl) ?_
                                refine lv_iconst (v := 1) hx hb dX5_meetGlass_306 (by decide +kernel) ?_
                                refine lv_icmp_ne (tgt := 319) hx hb dX5_meetGlass_307 (by decide +kernel) (fun c_72 => ?_) (fun c_72 => ?_)
                                ·
                                  have i_72 : z12.toInt ≠ 1 := g5_ne (a := z12.toInt) (b := 1) rfl (by decide +kernel) c_72
                                  omega
                                ·
                                  have i_72 : z12.toInt = 1 := g5_neN (a := z12.toInt) (b := 1) rfl (by decide +kernel) c_72
                                  refine lv_iconst (v := 3) hx hb dX5_meetGlass_310 (by decide +kernel) ?_
                                  refine lv_aload_n hx hb dX5_meetGlass_311 rfl (lv_at hl 8 rfl) ?_
                                  refine va_get (D := G.1) (ci := 5) (v := .int e_wy) (C := RX5) (T := TX5) (N := 13) hx hb hts inG_X5 hown hK hP 2 rfl rfl 10 (by decide +kernel) (hts _ fl_X5_30) (fun _ h9 => h9) rfl dX5_meetGlass_312 ?_
                                  refine lv_isub hx hb dX5_meetGlass_315 ?_
                                  have t_73 : (3 - e_wy).toInt = 3 - e_wy.toInt := g5_isub (a := 3) (b := e_wy.toInt) (by decide +kernel) (by rfl) (by omega) (by omega)
                                  refine W.eq (g2 := F0 m 316 ls [.int (3 - e_wy), .ref a_k]) rfl ?_
                                  refine lv_goto (tgt := 325) hx hb dX5_meetGlass_316 (by decide +kernel) ?_
                                  refine va_put (D := G.1) (ci := 5) (v := .int (3 - e_wy)) (ty := .int) (C := RX5) (T := TX5) (N := 13) hx hb hts inG_X5 tyX5 tyX5_ok nmX5 hown hK hP hD hS 2 rfl rfl 10 (by decide +kernel) (hts _ fl_X5_30) (fun _ h9 => h9) rfl (by decide +kernel) rfl rfl (Nat.le_of_ble_eq_true rfl) dX5_meetGlass_325 ?_
                                  clear hP hD hS
                                  intro H locs hP hD hS
                                  refine g5_rs [(a_h, (oc1 e_wa e_le e_st e_fo e_lc a_l a_g a_b a_s a_p a_w e_gb a_bb)), (a_l, (arW G 6 f_l)), (a_k, (oc5 a_h a_j a_pt e_ln e_se e_lh ((e_br * (10 - z63)) / 10) e_we (e_me ||| (1 <<< (z5 &&& 31))) e_ce (3 - e_wy) (e_ho - z38) 1)), (a_j, (oc2 a_as a_sk)), (a_as, (arI G 8 z16)), (a_sk, (arJ G 50 z45)), (a_lo, (oc3 e_cl a_hd a_sr a_cd)), (a_sr, (arI G n_sr f_sr)), (a_cd, (arI G n_cd f_cd)), (a_hd, (arI G n_hd f_hd)), (a_g, (oc6 6 5 a_gn e_g)), (a_gn, (arI G 30 f_g))] hP hD ?_
                                  clear hP hD
                                  intro hP hD
                                  refine lv_aload_n hx hb dX5_meetGlass_328 rfl (lv_at hl 8 rfl) ?_
                                  refine lv_dup hx hb dX5_meetGlass_329 rfl ?_
                                  refine va_get (D := G.1) (ci := 5) (v := .int e_we) (C := RX5) (T := TX5) (N := 13) hx hb hts inG_X5 hown hK hP 2 rfl rfl 7 (by decide +kernel) (hts _ fl_X5_49) (fun _ h9 => h9) rfl dX5_meetGlass_330 ?_
                                  refine W.eq (g2 := F0 m 333 ls [.int e_we, .ref a_k]) rfl ?_
                                  refine lv_iconst (v := 1) hx hb dX5_meetGlass_333 (by decide +kernel) ?_
                                  refine lv_iload hx hb dX5_meetGlass_334 (lv_at hl 4 rfl) ?_
                                  refine lv_ishl hx hb dX5_meetGlass_336 ?_
                                  refine lv_ior hx hb dX5_meetGlass_337 ?_
                                  refine va_put (D := G.1) (ci := 5) (v := .int (e_we ||| (1 <<< (z5 &&& 31)))) (ty := .int) (C := RX5) (T := TX5) (N := 13) hx hb hts inG_X5 tyX5 tyX5_ok nmX5 hown hK hP hD hS 2 rfl rfl 7 (by decide +kernel) (hts _ fl_X5_49) (fun _ h9 => h9) rfl (by decide +kernel) rfl rfl (Nat.le_of_ble_eq_true rfl) dX5_meetGlass_338 ?_
                                  clear hP hD hS
                                  intro H locs hP hD hS
                                  refine g5_rs [(a_h, (oc1 e_wa e_le e_st e_fo e_lc a_l a_g a_b a_s a_p a_w e_gb a_bb)), (a_l, (arW G 6 f_l)), (a_k, (oc5 a_h a_j a_pt e_ln e_se e_lh ((e_br * (10 - z63)) / 10) (e_we ||| (1 <<< (z5 &&& 31))) (e_me ||| (1 <<< (z5 &&& 31))) e_ce (3 - e_wy) (e_ho - z38) 1)), (a_j, (oc2 a_as a_sk)), (a_as, (arI G 8 z16)), (a_sk, (arJ G 50 z45)), (a_lo, (oc3 e_cl a_hd a_sr a_cd)), (a_sr, (arI G n_sr f_sr)), (a_cd, (arI G n_cd f_cd)), (a_hd, (arI G n_hd f_hd)), (a_g, (oc6 6 5 a_gn e_g)), (a_gn, (arI G 30 f_g))] hP hD ?_
                                  clear hP hD
                                  intro hP hD
                                  refine W.eq (g2 := F0 m 341 ls []) rfl ?_
                                  refine lv_aload_n hx hb dX5_meetGlass_341 rfl (lv_at hl 8 rfl) ?_
                                  refine lv_iconst (v := 0) hx hb dX5_meetGlass_342 (by decide +kernel) ?_
                                  refine va_put (D := G.1) (ci := 5) (v := .int 0) (ty := .boolean) (C := RX5) (T := TX5) (N := 13) hx hb hts inG_X5 tyX5 tyX5_ok nmX5 hown hK hP hD hS 2 rfl rfl 12 (by decide +kernel) (hts _ fl_X5_56) (fun _ h9 => h9) rfl (by decide +kernel) rfl rfl (Nat.le_of_ble_eq_true rfl) dX5_meetGlass_343 ?_
                                  clear hP hD hS
                                  intro H locs hP hD hS
                                  refine g5_rs [(a_h, (oc1 e_wa e_le e_st e_fo e_lc a_l a_g a_b a_s a_p a_w e_gb a_bb)), (a_l, (arW G 6 f_l)), (a_k, (oc5 a_h a_j a_pt e_ln e_se e_lh ((e_br * (10 - z63)) / 10) (e_we ||| (1 <<< (z5 &&& 31))) (e_me ||| (1 <<< (z5 &&& 31))) e_ce (3 - e_wy) (e_ho - z38) 0)), (a_j, (oc2 a_as a_sk)), (a_as, (arI G 8 z16)), (a_sk, (arJ G 50 z45)), (a_lo, (oc3 e_cl a_hd a_sr a_cd)), (a_sr, (arI G n_sr f_sr)), (a_cd, (arI G n_cd f_cd)), (a_hd, (arI G n_hd f_hd)), (a_g, (oc6 6 5 a_gn e_g)), (a_gn, (arI G 30 f_g))] hP hD ?_
                                  clear hP hD
                                  intro hP hD
                                  exact W.vret hx hb hr (fun t ht hW => ⟨⟨[(a_k, (oc5 a_h a_j a_pt e_ln e_se e_lh ((e_br * (10 - z63)) / 10) (e_we ||| (1 <<< (z5 &&& 31))) (e_me ||| (1 <<< (z5 &&& 31))) e_ce (3 - e_wy) (e_ho - z38) 0)), (a_h, (oc1 e_wa e_le e_st e_fo e_lc a_l a_g a_b a_s a_p a_w e_gb a_bb)), (a_g, (oc6 6 5 a_gn e_g)), (a_gn, (arI G 30 f_g)), (a_j, (oc2 a_as a_sk)), (a_as, (arI G 8 z16)), (a_sk, (arJ G 50 z45)), (a_l, (arW G 6 f_l)), (a_lo, (oc3 e_cl a_hd a_sr a_cd)), (a_sr, (arI G n_sr f_sr)), (a_cd, (arI G n_cd f_cd)), (a_hd, (arI G n_hd f_hd))], rfl, Or.inr (⟨((e_br * (10 - z63)) / 10), (e_we ||| (1 <<< (z5 &&& 31))), (e_me ||| (1 <<< (z5 &&& 31))), (3 - e_wy), (e_ho - z38), z16, z45, ⟨by omega, by omega⟩, ⟨by omega, by omega⟩, ⟨by omega, by omega⟩, by rw [met_c hGF (by omega) hc1_14 rfl rfl hc4_20 e_f4, tn_3 hNS hV_40 (by omega) hV_65 rfl (by omega), nw_1 (so := z12) (by omega)], rfl⟩), by rw [ht]; exact hP.sub [2, 0, 10, 11, 3, 4, 5, 1, 6, 7, 8, 9] rfl, hD.sub [2, 0, 10, 11, 3, 4, 5, 1, 6, 7, 8, 9] (by decide +kernel) rfl⟩, hS.F ht⟩) hS.2.2 dX5_meetGlass_346
                              ·
                                have i_71 : z12.toInt = 0 := g5_neN (a := z12.toInt) (b := 0) rfl (by decide +kernel) c_71
                                refine lv_aload_n hx hb dX5_meetGlass_295 rfl (lv_at hl 8 rfl) ?_
                                refine va_get (D := G.1) (ci := 5) (v := .int e_wy) (C := RX5) (T := TX5) (N := 13) hx hb hts inG_X5 hown hK hP 2 rfl rfl 10 (by decide +kernel) (hts _ fl_X5_30) (fun _ h9 => h9) rfl dX5_meetGlass_296 ?_
                                refine lv_iconst (v := 1) hx hb dX5_meetGlass_299 (by decide +kernel) ?_
                                refine lv_ixor hx hb dX5_meetGlass_300 ?_
                                have hx_74 := (g_xor (w := e_wy) (by omega) (by omega)).1
                                refine W.eq (g2 := F0 m 301 ls [.int (e_wy ^^^ 1), .ref a_k]) rfl ?_
                                refine lv_goto (tgt := 325) hx hb dX5_meetGlass_301 (by decide +kernel) ?_
                                refine va_put (D := G.1) (ci := 5) (v := .int (e_wy ^^^ 1)) (ty := .int) (C := RX5) (T := TX5) (N := 13) hx hb hts inG_X5 tyX5 tyX5_ok nmX5 hown hK hP hD hS 2 rfl rfl 10 (by decide +kernel) (hts _ fl_X5_30) (fun _ h9 => h9) rfl (by decide +kernel) rfl rfl (Nat.le_of_ble_eq_true rfl) dX5_meetGlass_325 ?_
                                clear hP hD hS
                                intro H locs hP hD hS
                                refine g5_rs [(a_h, (oc1 e_wa e_le e_st e_fo e_lc a_l a_g a_b a_s a_p a_w e_gb a_bb)), (a_l, (arW G 6 f_l)), (a_k, (oc5 a_h a_j a_pt e_ln e_se e_lh ((e_br * (10 - z63)) / 10) e_we (e_me ||| (1 <<< (z5 &&& 31))) e_ce (e_wy ^^^ 1) (e_ho - z38) 1)), (a_j, (oc2 a_as a_sk)), (a_as, (arI G 8 z16)), (a_sk, (arJ G 50 z45)), (a_lo, (oc3 e_cl a_hd a_sr a_cd)), (a_sr, (arI G n_sr f_sr)), (a_cd, (arI G n_cd f_cd)), (a_hd, (arI G n_hd f_hd)), (a_g, (oc6 6 5 a_gn e_g)), (a_gn, (arI G 30 f_g))] hP hD ?_
                                clear hP hD
                                intro hP hD
                                refine lv_aload_n hx hb dX5_meetGlass_328 rfl (lv_at hl 8 rfl) ?_
                                refine lv_dup hx hb dX5_meetGlass_329 rfl ?_
                                refine va_get (D := G.1) (ci := 5) (v := .int e_we) (C := RX5) (T := TX5) (N := 13) hx hb hts inG_X5 hown hK hP 2 rfl rfl 7 (by decide +kernel) (hts _ fl_X5_49) (fun _ h9 => h9) rfl dX5_meetGlass_330 ?_
                                refine W.eq (g2 := F0 m 333 ls [.int e_we, .ref a_k]) rfl ?_
                                refine lv_iconst (v := 1) hx hb dX5_meetGlass_333 (by decide +kernel) ?_
                                refine lv_iload hx hb dX5_meetGlass_334 (lv_at hl 4 rfl) ?_
                                refine lv_ishl hx hb dX5_meetGlass_336 ?_
                                refine lv_ior hx hb dX5_meetGlass_337 ?_
                                refine va_put (D := G.1) (ci := 5) (v := .int (e_we ||| (1 <<< (z5 &&& 31)))) (ty := .int) (C := RX5) (T := TX5) (N := 13) hx hb hts inG_X5 tyX5 tyX5_ok nmX5 hown hK hP hD hS 2 rfl rfl 7 (by decide +kernel) (hts _ fl_X5_49) (fun _ h9 => h9) rfl (by decide +kernel) rfl rfl (Nat.le_of_ble_eq_true rfl) dX5_meetGlass_338 ?_
                                clear hP hD hS
                                intro H locs hP hD hS
                                refine g5_rs [(a_h, (oc1 e_wa e_le e_st e_fo e_lc a_l a_g a_b a_s a_p a_w e_gb a_bb)), (a_l, (arW G 6 f_l)), (a_k, (oc5 a_h a_j a_pt e_ln e_se e_lh ((e_br * (10 - z63)) / 10) (e_we ||| (1 <<< (z5 &&& 31))) (e_me ||| (1 <<< (z5 &&& 31))) e_ce (e_wy ^^^ 1) (e_ho - z38) 1)), (a_j, (oc2 a_as a_sk)), (a_as, (arI G 8 z16)), (a_sk, (arJ G 50 z45)), (a_lo, (oc3 e_cl a_hd a_sr a_cd)), (a_sr, (arI G n_sr f_sr)), (a_cd, (arI G n_cd f_cd)), (a_hd, (arI G n_hd f_hd)), (a_g, (oc6 6 5 a_gn e_g)), (a_gn, (arI G 30 f_g))] hP hD ?_
                                clear hP hD
                                intro hP hD
                                refine W.eq (g2 := F0 m 341 ls []) rfl ?_
                                refine lv_aload_n hx hb dX5_meetGlass_341 rfl (lv_at hl 8 rfl) ?_
                                refine lv_iconst (v := 0) hx hb dX5_meetGlass_342 (by decide +kernel) ?_
                                refine va_put (D := G.1) (ci := 5) (v := .int 0) (ty := .boolean) (C := RX5) (T := TX5) (N := 13) hx hb hts inG_X5 tyX5 tyX5_ok nmX5 hown hK hP hD hS 2 rfl rfl 12 (by decide +kernel) (hts _ fl_X5_56) (fun _ h9 => h9) rfl (by decide +kernel) rfl rfl (Nat.le_of_ble_eq_true rfl) dX5_meetGlass_343 ?_
                                clear hP hD hS
                                intro H locs hP hD hS
                                refine g5_rs [(a_h, (oc1 e_wa e_le e_st e_fo e_lc a_l a_g a_b a_s a_p a_w e_gb a_bb)), (a_l, (arW G 6 f_l)), (a_k, (oc5 a_h a_j a_pt e_ln e_se e_lh ((e_br * (10 - z63)) / 10) (e_we ||| (1 <<< (z5 &&& 31))) (e_me ||| (1 <<< (z5 &&& 31))) e_ce (e_wy ^^^ 1) (e_ho - z38) 0)), (a_j, (oc2 a_as a_sk)), (a_as, (arI G 8 z16)), (a_sk, (arJ G 50 z45)), (a_lo, (oc3 e_cl a_hd a_sr a_cd)), (a_sr, (arI G n_sr f_sr)), (a_cd, (arI G n_cd f_cd)), (a_hd, (arI G n_hd f_hd)), (a_g, (oc6 6 5 a_gn e_g)), (a_gn, (arI G 30 f_g))] hP hD ?_
                                clear hP hD
                                intro hP hD
                                exact W.vret hx hb hr (fun t ht hW => ⟨⟨[(a_k, (oc5 a_h a_j a_pt e_ln e_se e_lh ((e_br * (10 - z63)) / 10) (e_we ||| (1 <<< (z5 &&& 31))) (e_me ||| (1 <<< (z5 &&& 31))) e_ce (e_wy ^^^ 1) (e_ho - z38) 0)), (a_h, (oc1 e_wa e_le e_st e_fo e_lc a_l a_g a_b a_s a_p a_w e_gb a_bb)), (a_g, (oc6 6 5 a_gn e_g)), (a_gn, (arI G 30 f_g)), (a_j, (oc2 a_as a_sk)), (a_as, (arI G 8 z16)), (a_sk, (arJ G 50 z45)), (a_l, (arW G 6 f_l)), (a_lo, (oc3 e_cl a_hd a_sr a_cd)), (a_sr, (arI G n_sr f_sr)), (a_cd, (arI G n_cd f_cd)), (a_hd, (arI G n_hd f_hd))], rfl, Or.inr (⟨((e_br * (10 - z63)) / 10), (e_we ||| (1 <<< (z5 &&& 31))), (e_me ||| (1 <<< (z5 &&& 31))), (e_wy ^^^ 1), (e_ho - z38), z16, z45, ⟨by omega, by omega⟩, ⟨by omega, by omega⟩, ⟨by omega, by omega⟩, by rw [met_c hGF (by omega) hc1_14 rfl rfl hc4_20 e_f4, tn_3 hNS hV_40 (by omega) hV_65 rfl (by omega), nw_0 (so := z12) (by omega)], rfl⟩), by rw [ht]; exact hP.sub [2, 0, 10, 11, 3, 4, 5, 1, 6, 7, 8, 9] rfl, hD.sub [2, 0, 10, 11, 3, 4, 5, 1, 6, 7, 8, 9] (by decide +kernel) rfl⟩, hS.F ht⟩) hS.2.2 dX5_meetGlass_346
                            ·
                              have i_69 : ((e_br * (10 - z63)) / 10).toInt < e_le.toInt := g5_geN (a := ((e_br * (10 - z63)) / 10).toInt) (b := e_le.toInt) rfl rfl c_69
                              exact W.vret hx hb hr (fun t ht hW => ⟨⟨[(a_k, (oc5 a_h a_j a_pt e_ln e_se e_lh ((e_br * (10 - z63)) / 10) e_we (e_me ||| (1 <<< (z5 &&& 31))) e_ce e_wy e_ho 1)), (a_h, (oc1 e_wa e_le e_st e_fo e_lc a_l a_g a_b a_s a_p a_w e_gb a_bb)), (a_g, (oc6 6 5 a_gn e_g)), (a_gn, (arI G 30 f_g)), (a_j, (oc2 a_as a_sk)), (a_as, (arI G 8 z16)), (a_sk, (arJ G 50 z45)), (a_l, (arW G 6 f_l)), (a_lo, (oc3 e_cl a_hd a_sr a_cd)), (a_sr, (arI G n_sr f_sr)), (a_cd, (arI G n_cd f_cd)), (a_hd, (arI G n_hd f_hd))], rfl, Or.inl (⟨((e_br * (10 - z63)) / 10), (e_me ||| (1 <<< (z5 &&& 31))), z16, z45, ⟨by omega, by omega⟩, by rw [met_c hGF (by omega) hc1_14 rfl rfl hc4_20 e_f4, tn_2 hNS hV_40 (by omega) hV_65 rfl (by omega)]; exact ⟨rfl, rfl, rfl⟩, rfl⟩), by rw [ht]; exact hP.sub [2, 0, 10, 11, 3, 4, 5, 1, 6, 7, 8, 9] rfl, hD.sub [2, 0, 10, 11, 3, 4, 5, 1, 6, 7, 8, 9] (by decide +kernel) rfl⟩, hS.F ht⟩) hS.2.2 dX5_meetGlass_277
                          ·
                            exact absurd c_61 (by decide +kernel)
                      ·
                        have i_41 : z38.toInt > e_ho.toInt := g5_leN (a := z38.toInt) (b := e_ho.toInt) rfl rfl c_41
                        exact W.vret hx hb hr (fun t ht hW => ⟨⟨[(a_k, (oc5 a_h a_j a_pt e_ln e_se e_lh e_br e_we (e_me ||| (1 <<< (z5 &&& 31))) e_ce e_wy e_ho 1)), (a_h, (oc1 e_wa e_le e_st e_fo e_lc a_l a_g a_b a_s a_p a_w e_gb a_bb)), (a_g, (oc6 6 5 a_gn e_g)), (a_gn, (arI G 30 f_g)), (a_j, (oc2 a_as a_sk)), (a_as, (arI G 8 z16)), (a_sk, (arJ G 50 z31)), (a_l, (arW G 6 f_l)), (a_lo, (oc3 e_cl a_hd a_sr a_cd)), (a_sr, (arI G n_sr f_sr)), (a_cd, (arI G n_cd f_cd)), (a_hd, (arI G n_hd f_hd))], rfl, Or.inl (⟨e_br, (e_me ||| (1 <<< (z5 &&& 31))), z16, z31, h_e_br, by rw [met_c hGF (by omega) hc1_14 rfl rfl hc4_20 e_f4, tn_1 hNS hV_40 (by omega)]; exact ⟨rfl, rfl, rfl⟩, rfl⟩), by rw [ht]; exact hP.sub [2, 0, 3, 4, 10, 5, 11, 1, 6, 7, 8, 9] rfl, hD.sub [2, 0, 3, 4, 10, 5, 11, 1, 6, 7, 8, 9] (by decide +kernel) rfl⟩, hS.F ht⟩) hS.2.2 dX5_meetGlass_212
                  ·
                    have hJ9 := va_join (wr := [(a_h, (oc1 e_wa e_le e_st e_fo e_lc a_l a_g a_b a_s a_p a_w e_gb a_bb)), (a_l, (arW G 6 f_l)), (a_k, (oc5 a_h a_j a_pt e_ln e_se e_lh e_br e_we (e_me ||| (1 <<< (z5 &&& 31))) e_ce e_wy e_ho 1)), (a_g, (oc6 6 5 a_gn e_g)), (a_gn, (arI G 30 f_g))]) hP hD [5, 6, 7, 8, 9, 10, 11] [0, 1, 2, 3, 4] rfl rfl (by decide +kernel) (by decide +kernel) hk1 hFc hP1 hD1
                    clear hP hD hPc hDc hFc ht hvm hz1 hk1 hP1 hD1
                    obtain ⟨hP, hD⟩ := hJ9
                    refine g5_rs [(a_h, (oc1 e_wa e_le e_st e_fo e_lc a_l a_g a_b a_s a_p a_w e_gb a_bb)), (a_l, (arW G 6 f_l)), (a_k, (oc5 a_h a_j a_pt e_ln e_se e_lh e_br e_we (e_me ||| (1 <<< (z5 &&& 31))) e_ce e_wy e_ho 1)), (a_g, (oc6 6 5 a_gn e_g)), (a_gn, (arI G 30 f_g)), (a_j, (oc2 a_as a_sk)), (a_as, (arI G 8 z16)), (a_sk, (arJ G 50 z33)), (a_lo, (oc3 e_cl a_hd a_sr a_cd)), (a_sr, (arI G n_sr f_sr)), (a_cd, (arI G n_cd f_cd)), (a_hd, (arI G n_hd f_hd))] hP hD ?_
                    clear hP hD
                    intro hP hD
                    refine lv_if_eq (tgt := 195) hx hb dX5_meetGlass_180 (by decide +kernel) (fun c_75 => ?_) (fun c_75 => ?_)
                    ·
                      refine lv_aload_n hx hb dX5_meetGlass_195 rfl (lv_at hl 4 rfl) ?_
                      refine lv_iload_n hx hb dX5_meetGlass_196 rfl (lv_at hl 3 rfl) ?_
                      refine lv_iconst (v := 2) hx hb dX5_meetGlass_197 (by decide +kernel) ?_
                      obtain ⟨hPc, hDc, hFc⟩ := g5_sub3 (wc := [(a_g, (oc6 6 5 a_gn e_g)), (a_gn, (arI G 30 f_g))]) hP hD hS hA [3, 4] (by decide +kernel) rfl
                      refine va_calli (va_runV (As := [.int z5, .int 2]) (rest := []) ⟨hx, hb, hml, hown, hts⟩ (t_get_G l G a_g a_gn H.size e_g z5 2 f_g h_e_g) (cwV 2 hts gV_X5_107 rfl rfl rfl hv_X6_get ⟨Nat.le_of_ble_eq_true rfl, Nat.le_of_ble_eq_true rfl⟩) (g5_preV hPc hK hDc hN hT hS hFc (ci := 6) (q0 := 0) rfl rfl) rfl rfl hl.1 rfl (lv_room (Nat.le_of_ble_eq_true rfl)) dX5_meetGlass_198 ⟨Nat.le_of_ble_eq_true rfl, Nat.le_of_ble_eq_true rfl⟩) hS (fun q _ h => hFc q h) hFc (fun r u t H locs ht hvm hw hB hz1 hk1 hS => ?_)
                      obtain ⟨hP1, hD1⟩ := hB
                      have hP1 := g5_ht ht hP1
                      obtain ⟨z77, (i_76 : z77 = tget f_g e_g.toInt 5 z5.toInt (2 : Int32).toInt), y78, rfl⟩ := hw
                      have hJ9 := va_join (wr := [(a_h, (oc1 e_wa e_le e_st e_fo e_lc a_l a_g a_b a_s a_p a_w e_gb a_bb)), (a_l, (arW G 6 f_l)), (a_k, (oc5 a_h a_j a_pt e_ln e_se e_lh e_br e_we (e_me ||| (1 <<< (z5 &&& 31))) e_ce e_wy e_ho 1)), (a_j, (oc2 a_as a_sk)), (a_as, (arI G 8 z16)), (a_sk, (arJ G 50 z33)), (a_lo, (oc3 e_cl a_hd a_sr a_cd)), (a_sr, (arI G n_sr f_sr)), (a_cd, (arI G n_cd f_cd)), (a_hd, (arI G n_hd f_hd))]) hP hD [3, 4] [0, 1, 2, 5, 6, 7, 8, 9, 10, 11] rfl rfl (by decide +kernel) (by decide +kernel) hk1 hFc hP1 hD1
                      clear hP hD hPc hDc hFc ht hvm hz1 hk1 hP1 hD1
                      obtain ⟨hP, hD⟩ := hJ9
                      refine g5_rs [(a_h, (oc1 e_wa e_le e_st e_fo e_lc a_l a_g a_b a_s a_p a_w e_gb a_bb)), (a_l, (arW G 6 f_l)), (a_k, (oc5 a_h a_j a_pt e_ln e_se e_lh e_br e_we (e_me ||| (1 <<< (z5 &&& 31))) e_ce e_wy e_ho 1)), (a_j, (oc2 a_as a_sk)), (a_as, (arI G 8 z16)), (a_sk, (arJ G 50 z33)), (a_lo, (oc3 e_cl a_hd a_sr a_cd)), (a_sr, (arI G n_sr f_sr)), (a_cd, (arI G n_cd f_cd)), (a_hd, (arI G n_hd f_hd)), (a_g, (oc6 6 5 a_gn e_g)), (a_gn, (arI G 30 f_g))] hP hD ?_
                      clear hP hD
                      intro hP hD
                      refine g5_ti (v := z77) y78 ?_
                      have hc2_80 := gl_col (k := 2) e_qg i_2 i_76 (by decide +kernel) (by omega)
                      have hg_80 : 0 ≤ z77.toInt ∧ z77.toInt ≤ 23 := by rw [i_76]; exact (e_gk z5.toInt (by omega) (by omega)).2.2.1
                      have hV_79 : z77 = tellQ (toldW g_w 0 (askQ z5 e_ce e_ho e_wy (-1) e_ln e_br)) (f_ro (80 + 5 * z5.toInt.toNat + 2)) 23 := hc2_80.symm.trans (tell_n (tW_of e_w (by decide +kernel) i_32))
                      refine W.eq (g2 := F0 m 201 ls [.int z77]) rfl ?_
                      refine lv_istore (lv' := [(7, .int z77), (6, .ref a_lo), (5, .int z12), (4, .int z5), (3, .int z5), (2, .ref a_g), (1, .int z5), (0, .ref a_k)]) hx hb dX5_meetGlass_201 hl (by decide +kernel) rfl ?_
                      clear hl
                      intro ls hl
                      refine lv_iload hx hb dX5_meetGlass_203 (lv_at hl 0 rfl) ?_
                      refine lv_aload_n hx hb dX5_meetGlass_205 rfl (lv_at hl 7 rfl) ?_
                      refine va_get (D := G.1) (ci := 5) (v := .int e_ho) (C := RX5) (T := TX5) (N := 13) hx hb hts inG_X5 hown hK hP 2 rfl rfl 11 (by decide +kernel) (hts _ fl_X5_33) (fun _ h9 => h9) rfl dX5_meetGlass_206 ?_
                      refine lv_icmp_le (tgt := 213) hx hb dX5_meetGlass_209 (by decide +kernel) (fun c_81 => ?_) (fun c_81 => ?_)
                      ·
                        have i_81 : z77.toInt ≤ e_ho.toInt := g5_le (a := z77.toInt) (b := e_ho.toInt) rfl rfl c_81
                        refine lv_aload_n hx hb dX5_meetGlass_213 rfl (lv_at hl 7 rfl) ?_
                        refine va_get (D := G.1) (ci := 5) (v := .ref a_j) (C := RX5) (T := TX5) (N := 13) hx hb hts inG_X5 hown hK hP 2 rfl rfl 1 (by decide +kernel) (hts _ fl_X5_12) (fun _ h9 => h9) rfl dX5_meetGlass_214 ?_
                        refine lv_aload hx hb dX5_meetGlass_217 (lv_at hl 1 rfl) ?_
                        refine lv_iconst (v := 1) hx hb dX5_meetGlass_219 (by decide +kernel) ?_
                        refine W.eq (g2 := F0 m 220 ls [.int 1, .ref a_lo, .ref a_j]) rfl ?_
                        obtain ⟨hPc, hDc, hFc⟩ := g5_sub3 (wc := [(a_j, (oc2 a_as a_sk)), (a_as, (arI G 8 z16)), (a_sk, (arJ G 50 z33)), (a_lo, (oc3 e_cl a_hd a_sr a_cd)), (a_sr, (arI G n_sr f_sr)), (a_cd, (arI G n_cd f_cd)), (a_hd, (arI G n_hd f_hd))]) hP hD hS hA [3, 4, 5, 6, 7, 8, 9] (by decide +kernel) rfl
                        refine va_calli (va_runV (As := [.ref a_lo, .int 1]) (rest := []) ⟨hx, hb, hml, hown, hts⟩ (j_isHeldX l G a_j a_as a_sk a_lo a_sr a_cd a_hd H.size 1 e_cl z16 z33 f_sr f_cd f_hd (askQ z5 e_ce e_ho e_wy (-1) e_ln e_br) g_L n_sr n_cd n_hd h_e_cl (e_hn) (e_hs) (e_hk) (e_c) (i_15) (e_lw) (e_lv)) (cwV 2 hts gV_X5_124 rfl rfl rfl hv_X2_isHeld ⟨Nat.le_of_ble_eq_true rfl, Nat.le_of_ble_eq_true rfl⟩) (g5_preV hPc hK hDc hN hT hS hFc (ci := 2) (q0 := 0) rfl rfl) rfl rfl hl.1 rfl (lv_room (Nat.le_of_ble_eq_true rfl)) dX5_meetGlass_220 ⟨Nat.le_of_ble_eq_true rfl, Nat.le_of_ble_eq_true rfl⟩) hS (fun q _ h => hFc q h) hFc (fun r u t H locs ht hvm hw hB hz1 hk1 hS => ?_)
                        obtain ⟨hP1, hD1⟩ := hB
                        have hP1 := g5_ht ht hP1
                        rcases hw with ⟨z83, (i_82 : ∃ v : Int64, toldX g_L (1 : Int32).toInt (askQ z5 e_ce e_ho e_wy (-1) e_ln e_br) = some v ∧ ((1 : Int32).toInt < 2 → z83 0 = v)), rfl, rfl⟩ | ⟨z85, (i_84 : toldX g_L (1 : Int32).toInt (askQ z5 e_ce e_ho e_wy (-1) e_ln e_br) = none), rfl, rfl⟩
                        ·
                          have hJ9 := va_join (wr := [(a_h, (oc1 e_wa e_le e_st e_fo e_lc a_l a_g a_b a_s a_p a_w e_gb a_bb)), (a_l, (arW G 6 f_l)), (a_k, (oc5 a_h a_j a_pt e_ln e_se e_lh e_br e_we (e_me ||| (1 <<< (z5 &&& 31))) e_ce e_wy e_ho 1)), (a_g, (oc6 6 5 a_gn e_g)), (a_gn, (arI G 30 f_g))]) hP hD [3, 4, 5, 6, 7, 8, 9] [0, 1, 2, 10, 11] rfl rfl (by decide +kernel) (by decide +kernel) hk1 hFc hP1 hD1
                          clear hP hD hPc hDc hFc ht hvm hz1 hk1 hP1 hD1
                          obtain ⟨hP, hD⟩ := hJ9
                          refine g5_rs [(a_h, (oc1 e_wa e_le e_st e_fo e_lc a_l a_g a_b a_s a_p a_w e_gb a_bb)), (a_l, (arW G 6 f_l)), (a_k, (oc5 a_h a_j a_pt e_ln e_se e_lh e_br e_we (e_me ||| (1 <<< (z5 &&& 31))) e_ce e_wy e_ho 1)), (a_g, (oc6 6 5 a_gn e_g)), (a_gn, (arI G 30 f_g)), (a_j, (oc2 a_as a_sk)), (a_as, (arI G 8 z16)), (a_sk, (arJ G 50 z83)), (a_lo, (oc3 e_cl a_hd a_sr a_cd)), (a_sr, (arI G n_sr f_sr)), (a_cd, (arI G n_cd f_cd)), (a_hd, (arI G n_hd f_hd))] hP hD ?_
                          clear hP hD
                          intro hP hD
                          obtain ⟨v1_86, ht_86, hv_86⟩ := i_82
                          have hw_86 := hv_86 (by decide +kernel)
                          refine lv_if_eq (tgt := 238) hx hb dX5_meetGlass_223 (by decide +kernel) (fun c_87 => ?_) (fun c_87 => ?_)
                          ·
                            exact absurd c_87 (by decide +kernel)
                          ·
                            refine lv_aload_n hx hb dX5_meetGlass_226 rfl (lv_at hl 7 rfl) ?_
                            refine va_get (D := G.1) (ci := 5) (v := .ref a_j) (C := RX5) (T := TX5) (N := 13) hx hb hts inG_X5 hown hK hP 2 rfl rfl 1 (by decide +kernel) (hts _ fl_X5_12) (fun _ h9 => h9) rfl dX5_meetGlass_227 ?_
                            refine lv_bipush (v := 10) hx hb dX5_meetGlass_230 (by decide +kernel) ?_
                            obtain ⟨hPc, hDc, hFc⟩ := g5_sub3 (wc := [(a_j, (oc2 a_as a_sk)), (a_sk, (arJ G 50 z83))]) hP hD hS hA [5, 7] (by decide +kernel) rfl
                            refine va_calli (va_runV (As := [.int 10]) (rest := []) ⟨hx, hb, hml, hown, hts⟩ (j_toldX l G a_j a_sk a_as H.size 10 z83 ⟨by decide, by decide⟩) (cwV 1 hts gV_X5_134 rfl rfl rfl hv_X2_toldUpTo ⟨Nat.le_of_ble_eq_true rfl, Nat.le_of_ble_eq_true rfl⟩) (g5_preV hPc hK hDc hN hT hS hFc (ci := 2) (q0 := 0) rfl rfl) rfl rfl hl.1 rfl (lv_room (Nat.le_of_ble_eq_true rfl)) dX5_meetGlass_232 ⟨Nat.le_of_ble_eq_true rfl, Nat.le_of_ble_eq_true rfl⟩) hS (fun q _ h => hFc q h) hFc (fun r u t H locs ht hvm hw hB hz1 hk1 hS => ?_)
                            obtain ⟨hP1, hD1⟩ := hB
                            have hP1 := g5_ht ht hP1
                            obtain ⟨z90, (i_88 : 0 ≤ z90.toInt ∧ z90.toInt ≤ (10 : Int32).toInt), (i_89 : z90 = clampQ (z83 0) (10 : Int32)), y91, rfl⟩ := hw
                            have hJ9 := va_join (wr := [(a_h, (oc1 e_wa e_le e_st e_fo e_lc a_l a_g a_b a_s a_p a_w e_gb a_bb)), (a_l, (arW G 6 f_l)), (a_k, (oc5 a_h a_j a_pt e_ln e_se e_lh e_br e_we (e_me ||| (1 <<< (z5 &&& 31))) e_ce e_wy e_ho 1)), (a_g, (oc6 6 5 a_gn e_g)), (a_gn, (arI G 30 f_g)), (a_as, (arI G 8 z16)), (a_lo, (oc3 e_cl a_hd a_sr a_cd)), (a_sr, (arI G n_sr f_sr)), (a_cd, (arI G n_cd f_cd)), (a_hd, (arI G n_hd f_hd))]) hP hD [5, 7] [0, 1, 2, 3, 4, 6, 8, 9, 10, 11] rfl rfl (by decide +kernel) (by decide +kernel) hk1 hFc hP1 hD1
                            clear hP hD hPc hDc hFc ht hvm hz1 hk1 hP1 hD1
                            obtain ⟨hP, hD⟩ := hJ9
                            refine g5_rs [(a_h, (oc1 e_wa e_le e_st e_fo e_lc a_l a_g a_b a_s a_p a_w e_gb a_bb)), (a_l, (arW G 6 f_l)), (a_k, (oc5 a_h a_j a_pt e_ln e_se e_lh e_br e_we (e_me ||| (1 <<< (z5 &&& 31))) e_ce e_wy e_ho 1)), (a_g, (oc6 6 5 a_gn e_g)), (a_gn, (arI G 30 f_g)), (a_as, (arI G 8 z16)), (a_lo, (oc3 e_cl a_hd a_sr a_cd)), (a_sr, (arI G n_sr f_sr)), (a_cd, (arI G n_cd f_cd)), (a_hd, (arI G n_hd f_hd)), (a_j, (oc2 a_as a_sk)), (a_sk, (arJ G 50 z83))] hP hD ?_
                            clear hP hD
                            intro hP hD
                            refine g5_ti (v := z90) y91 ?_
                            refine W.eq (g2 := F0 m 235 ls [.int z90]) rfl ?_
                            refine lv_goto (tgt := 244) hx hb dX5_meetGlass_235 (by decide +kernel) ?_
                            have hV_92 : z90 = tellQ (toldW g_w 1 (askQ z5 e_ce e_ho e_wy (-1) e_ln e_br)) (f_ro (80 + 5 * z5.toInt.toNat + 3)) 10 := tell_s (tW_of e_w (by decide +kernel) ht_86) (by rw [i_89, hw_86])
                            have hr_92 : 0 ≤ z90.toInt ∧ z90.toInt ≤ 10 := ⟨by omega, by have zk : (10 : Int32).toInt = 10 := (by decide +kernel); omega⟩
                            refine lv_istore (lv' := [(8, .int z90), (7, .int z77), (6, .ref a_lo), (5, .int z12), (4, .int z5), (3, .int z5), (2, .ref a_g), (1, .int z5), (0, .ref a_k)]) hx hb dX5_meetGlass_244 hl (by decide +kernel) rfl ?_
                            clear hl
                            intro ls hl
                            refine lv_aload_n hx hb dX5_meetGlass_246 rfl (lv_at hl 8 rfl) ?_
                            refine lv_aload_n hx hb dX5_meetGlass_247 rfl (lv_at hl 8 rfl) ?_
                            refine va_get (D := G.1) (ci := 5) (v := .int e_br) (C := RX5) (T := TX5) (N := 13) hx hb hts inG_X5 hown hK hP 2 rfl rfl 6 (by decide +kernel) (hts _ fl_X5_46) (fun _ h9 => h9) rfl dX5_meetGlass_248 ?_
                            refine W.eq (g2 := F0 m 251 ls [.int e_br, .ref a_k]) rfl ?_
                            refine lv_bipush (v := 10) hx hb dX5_meetGlass_251 (by decide +kernel) ?_
                            refine lv_iload hx hb dX5_meetGlass_253 (lv_at hl 0 rfl) ?_
                            refine lv_isub hx hb dX5_meetGlass_255 ?_
                            have t_93 : (10 - z90).toInt = 10 - z90.toInt := g5_isub (a := 10) (b := z90.toInt) (by decide +kernel) (by rfl) (by omega) (by omega)
                            refine lv_imul hx hb dX5_meetGlass_256 ?_
                            refine lv_bipush (v := 10) hx hb dX5_meetGlass_257 (by decide +kernel) ?_
                            refine W.eq (g2 := F0 m 259 ls [.int 10, .int (e_br * (10 - z90)), .ref a_k]) rfl ?_
                            refine lv_idiv hx hb dX5_meetGlass_259 (by decide +kernel) ?_
                            have hb_94 : 0 ≤ ((e_br * (10 - z90)) / 10).toInt ∧ ((e_br * (10 - z90)) / 10).toInt ≤ 1000000 := g_dust (by omega) (by omega)
                            refine va_put (D := G.1) (ci := 5) (v := .int ((e_br * (10 - z90)) / 10)) (ty := .int) (C := RX5) (T := TX5) (N := 13) hx hb hts inG_X5 tyX5 tyX5_ok nmX5 hown hK hP hD hS 2 rfl rfl 6 (by decide +kernel) (hts _ fl_X5_46) (fun _ h9 => h9) rfl (by decide +kernel) rfl rfl (Nat.le_of_ble_eq_true rfl) dX5_meetGlass_260 ?_
                            clear hP hD hS
                            intro H locs hP hD hS
                            refine g5_rs [(a_h, (oc1 e_wa e_le e_st e_fo e_lc a_l a_g a_b a_s a_p a_w e_gb a_bb)), (a_l, (arW G 6 f_l)), (a_k, (oc5 a_h a_j a_pt e_ln e_se e_lh ((e_br * (10 - z90)) / 10) e_we (e_me ||| (1 <<< (z5 &&& 31))) e_ce e_wy e_ho 1)), (a_g, (oc6 6 5 a_gn e_g)), (a_gn, (arI G 30 f_g)), (a_as, (arI G 8 z16)), (a_lo, (oc3 e_cl a_hd a_sr a_cd)), (a_sr, (arI G n_sr f_sr)), (a_cd, (arI G n_cd f_cd)), (a_hd, (arI G n_hd f_hd)), (a_j, (oc2 a_as a_sk)), (a_sk, (arJ G 50 z83))] hP hD ?_
                            clear hP hD
                            intro hP hD
                            refine lv_aload_n hx hb dX5_meetGlass_263 rfl (lv_at hl 8 rfl) ?_
                            refine va_get (D := G.1) (ci := 5) (v := .int ((e_br * (10 - z90)) / 10)) (C := RX5) (T := TX5) (N := 13) hx hb hts inG_X5 hown hK hP 2 rfl rfl 6 (by decide +kernel) (hts _ fl_X5_46) (fun _ h9 => h9) rfl dX5_meetGlass_264 ?_
                            refine lv_aload_n hx hb dX5_meetGlass_267 rfl (lv_at hl 8 rfl) ?_
                            refine W.eq (g2 := F0 m 268 ls [.ref a_k, .int ((e_br * (10 - z90)) / 10)]) rfl ?_
                            refine va_get (D := G.1) (ci := 5) (v := .ref a_h) (C := RX5) (T := TX5) (N := 13) hx hb hts inG_X5 hown hK hP 2 rfl rfl 0 (by decide +kernel) (hts _ fl_X5_22) (fun _ h9 => h9) rfl dX5_meetGlass_268 ?_
                            refine va_get (D := G.1) (ci := 1) (v := .int e_le) (C := RX1) (T := TX1) (N := 13) hx hb hts inG_X1 hown hK hP 0 rfl rfl 1 (by decide +kernel) (hts _ fl_X5_138) (fun _ h9 => h9) rfl dX5_meetGlass_271 ?_
                            refine lv_icmp_ge (tgt := 278) hx hb dX5_meetGlass_274 (by decide +kernel) (fun c_95 => ?_) (fun c_95 => ?_)
                            ·
                              have i_95 : ((e_br * (10 - z90)) / 10).toInt ≥ e_le.toInt := g5_ge (a := ((e_br * (10 - z90)) / 10).toInt) (b := e_le.toInt) rfl rfl c_95
                              refine lv_aload_n hx hb dX5_meetGlass_278 rfl (lv_at hl 8 rfl) ?_
                              refine lv_dup hx hb dX5_meetGlass_279 rfl ?_
                              refine va_get (D := G.1) (ci := 5) (v := .int e_ho) (C := RX5) (T := TX5) (N := 13) hx hb hts inG_X5 hown hK hP 2 rfl rfl 11 (by decide +kernel) (hts _ fl_X5_33) (fun _ h9 => h9) rfl dX5_meetGlass_280 ?_
                              refine lv_iload hx hb dX5_meetGlass_283 (lv_at hl 1 rfl) ?_
                              refine W.eq (g2 := F0 m 285 ls [.int z77, .int e_ho, .ref a_k]) rfl ?_
                              refine lv_isub hx hb dX5_meetGlass_285 ?_
                              have t_96 : (e_ho - z77).toInt = e_ho.toInt - z77.toInt := g5_isub (a := e_ho.toInt) (b := z77.toInt) (by rfl) (by rfl) (by omega) (by omega)
                              refine va_put (D := G.1) (ci := 5) (v := .int (e_ho - z77)) (ty := .int) (C := RX5) (T := TX5) (N := 13) hx hb hts inG_X5 tyX5 tyX5_ok nmX5 hown hK hP hD hS 2 rfl rfl 11 (by decide +kernel) (hts _ fl_X5_33) (fun _ h9 => h9) rfl (by decide +kernel) rfl rfl (Nat.le_of_ble_eq_true rfl) dX5_meetGlass_286 ?_
                              clear hP hD hS
                              intro H locs hP hD hS
                              refine g5_rs [(a_h, (oc1 e_wa e_le e_st e_fo e_lc a_l a_g a_b a_s a_p a_w e_gb a_bb)), (a_l, (arW G 6 f_l)), (a_k, (oc5 a_h a_j a_pt e_ln e_se e_lh ((e_br * (10 - z90)) / 10) e_we (e_me ||| (1 <<< (z5 &&& 31))) e_ce e_wy (e_ho - z77) 1)), (a_g, (oc6 6 5 a_gn e_g)), (a_gn, (arI G 30 f_g)), (a_as, (arI G 8 z16)), (a_lo, (oc3 e_cl a_hd a_sr a_cd)), (a_sr, (arI G n_sr f_sr)), (a_cd, (arI G n_cd f_cd)), (a_hd, (arI G n_hd f_hd)), (a_j, (oc2 a_as a_sk)), (a_sk, (arJ G 50 z83))] hP hD ?_
                              clear hP hD
                              intro hP hD
                              refine lv_aload_n hx hb dX5_meetGlass_289 rfl (lv_at hl 8 rfl) ?_
                              refine lv_iload hx hb dX5_meetGlass_290 (lv_at hl 3 rfl) ?_
                              refine lv_if_ne (tgt := 304) hx hb dX5_meetGlass_292 (by decide +kernel) (fun c_97 => ?_) (fun c_97 => ?_)
                              ·
                                have n_97 : gNe (z12.toInt) (0) := g5_ne (a := z12.toInt) (b := 0) rfl (by decide +kernel) c_97
                                have i_97 : z12.toInt ≥ 1 := by have z := g5_ne (a := z12.toInt) (b := 0) (by rfl) (by decide +kernel) c_97; omega
                                refine lv_iload hx hb dX5_meetGlass_304 (lv_at hl 3 rfl) ?_
                                refine lv_iconst (v := 1) hx hb dX5_meetGlass_306 (by decide +kernel) ?_
                                refine lv_icmp_ne (tgt := 319) hx hb dX5_meetGlass_307 (by decide +kernel) (fun c_98 => ?_) (fun c_98 => ?_)
                                ·
                                  have i_98 : z12.toInt ≠ 1 := g5_ne (a := z12.toInt) (b := 1) rfl (by decide +kernel) c_98
                                  omega
                                ·
                                  have i_98 : z12.toInt = 1 := g5_neN (a := z12.toInt) (b := 1) rfl (by decide +kernel) c_98
                                  refine lv_iconst (v := 3) hx hb dX5_meetGlass_310 (by decide +kernel) ?_
                                  refine lv_aload_n hx hb dX5_meetGlass_311 rfl (lv_at hl 8 rfl) ?_
                                  refine va_get (D := G.1) (ci := 5) (v := .int e_wy) (C := RX5) (T := TX5) (N := 13) hx hb hts inG_X5 hown hK hP 2 rfl rfl 10 (by decide +kernel) (hts _ fl_X5_30) (fun _ h9 => h9) rfl dX5_meetGlass_312 ?_
                                  refine lv_isub hx hb dX5_meetGlass_315 ?_
                                  have t_99 : (3 - e_wy).toInt = 3 - e_wy.toInt := g5_isub (a := 3) (b := e_wy.toInt) (by decide +kernel) (by rfl) (by omega) (by omega)
                                  refine W.eq (g2 := F0 m 316 ls [.int (3 - e_wy), .ref a_k]) rfl ?_
                                  refine lv_goto (tgt := 325) hx hb dX5_meetGlass_316 (by decide +kernel) ?_
                                  refine va_put (D := G.1) (ci := 5) (v := .int (3 - e_wy)) (ty := .int) (C := RX5) (T := TX5) (N := 13) hx hb hts inG_X5 tyX5 tyX5_ok nmX5 hown hK hP hD hS 2 rfl rfl 10 (by decide +kernel) (hts _ fl_X5_30) (fun _ h9 => h9) rfl (by decide +kernel) rfl rfl (Nat.le_of_ble_eq_true rfl) dX5_meetGlass_325 ?_
                                  clear hP hD hS
                                  intro H locs hP hD hS
                                  refine g5_rs [(a_h, (oc1 e_wa e_le e_st e_fo e_lc a_l a_g a_b a_s a_p a_w e_gb a_bb)), (a_l, (arW G 6 f_l)), (a_k, (oc5 a_h a_j a_pt e_ln e_se e_lh ((e_br * (10 - z90)) / 10) e_we (e_me ||| (1 <<< (z5 &&& 31))) e_ce (3 - e_wy) (e_ho - z77) 1)), (a_g, (oc6 6 5 a_gn e_g)), (a_gn, (arI G 30 f_g)), (a_as, (arI G 8 z16)), (a_lo, (oc3 e_cl a_hd a_sr a_cd)), (a_sr, (arI G n_sr f_sr)), (a_cd, (arI G n_cd f_cd)), (a_hd, (arI G n_hd f_hd)), (a_j, (oc2 a_as a_sk)), (a_sk, (arJ G 50 z83))] hP hD ?_
                                  clear hP hD
                                  intro hP hD
                                  refine lv_aload_n hx hb dX5_meetGlass_328 rfl (lv_at hl 8 rfl) ?_
                                  refine lv_dup hx hb dX5_meetGlass_329 rfl ?_
                                  refine va_get (D := G.1) (ci := 5) (v := .int e_we) (C := RX5) (T := TX5) (N := 13) hx hb hts inG_X5 hown hK hP 2 rfl rfl 7 (by decide +kernel) (hts _ fl_X5_49) (fun _ h9 => h9) rfl dX5_meetGlass_330 ?_
                                  refine W.eq (g2 := F0 m 333 ls [.int e_we, .ref a_k]) rfl ?_
                                  refine lv_iconst (v := 1) hx hb dX5_meetGlass_333 (by decide +kernel) ?_
                                  refine lv_iload hx hb dX5_meetGlass_334 (lv_at hl 4 rfl) ?_
                                  refine lv_ishl hx hb dX5_meetGlass_336 ?_
                                  refine lv_ior hx hb dX5_meetGlass_337 ?_
                                  refine va_put (D := G.1) (ci := 5) (v := .int (e_we ||| (1 <<< (z5 &&& 31)))) (ty := .int) (C := RX5) (T := TX5) (N := 13) hx hb hts inG_X5 tyX5 tyX5_ok nmX5 hown hK hP hD hS 2 rfl rfl 7 (by decide +kernel) (hts _ fl_X5_49) (fun _ h9 => h9) rfl (by decide +kernel) rfl rfl (Nat.le_of_ble_eq_true rfl) dX5_meetGlass_338 ?_
                                  clear hP hD hS
                                  intro H locs hP hD hS
                                  refine g5_rs [(a_h, (oc1 e_wa e_le e_st e_fo e_lc a_l a_g a_b a_s a_p a_w e_gb a_bb)), (a_l, (arW G 6 f_l)), (a_k, (oc5 a_h a_j a_pt e_ln e_se e_lh ((e_br * (10 - z90)) / 10) (e_we ||| (1 <<< (z5 &&& 31))) (e_me ||| (1 <<< (z5 &&& 31))) e_ce (3 - e_wy) (e_ho - z77) 1)), (a_g, (oc6 6 5 a_gn e_g)), (a_gn, (arI G 30 f_g)), (a_as, (arI G 8 z16)), (a_lo, (oc3 e_cl a_hd a_sr a_cd)), (a_sr, (arI G n_sr f_sr)), (a_cd, (arI G n_cd f_cd)), (a_hd, (arI G n_hd f_hd)), (a_j, (oc2 a_as a_sk)), (a_sk, (arJ G 50 z83))] hP hD ?_
                                  clear hP hD
                                  intro hP hD
                                  refine W.eq (g2 := F0 m 341 ls []) rfl ?_
                                  refine lv_aload_n hx hb dX5_meetGlass_341 rfl (lv_at hl 8 rfl) ?_
                                  refine lv_iconst (v := 0) hx hb dX5_meetGlass_342 (by decide +kernel) ?_
                                  refine va_put (D := G.1) (ci := 5) (v := .int 0) (ty := .boolean) (C := RX5) (T := TX5) (N := 13) hx hb hts inG_X5 tyX5 tyX5_ok nmX5 hown hK hP hD hS 2 rfl rfl 12 (by decide +kernel) (hts _ fl_X5_56) (fun _ h9 => h9) rfl (by decide +kernel) rfl rfl (Nat.le_of_ble_eq_true rfl) dX5_meetGlass_343 ?_
                                  clear hP hD hS
                                  intro H locs hP hD hS
                                  refine g5_rs [(a_h, (oc1 e_wa e_le e_st e_fo e_lc a_l a_g a_b a_s a_p a_w e_gb a_bb)), (a_l, (arW G 6 f_l)), (a_k, (oc5 a_h a_j a_pt e_ln e_se e_lh ((e_br * (10 - z90)) / 10) (e_we ||| (1 <<< (z5 &&& 31))) (e_me ||| (1 <<< (z5 &&& 31))) e_ce (3 - e_wy) (e_ho - z77) 0)), (a_g, (oc6 6 5 a_gn e_g)), (a_gn, (arI G 30 f_g)), (a_as, (arI G 8 z16)), (a_lo, (oc3 e_cl a_hd a_sr a_cd)), (a_sr, (arI G n_sr f_sr)), (a_cd, (arI G n_cd f_cd)), (a_hd, (arI G n_hd f_hd)), (a_j, (oc2 a_as a_sk)), (a_sk, (arJ G 50 z83))] hP hD ?_
                                  clear hP hD
                                  intro hP hD
                                  exact W.vret hx hb hr (fun t ht hW => ⟨⟨[(a_k, (oc5 a_h a_j a_pt e_ln e_se e_lh ((e_br * (10 - z90)) / 10) (e_we ||| (1 <<< (z5 &&& 31))) (e_me ||| (1 <<< (z5 &&& 31))) e_ce (3 - e_wy) (e_ho - z77) 0)), (a_h, (oc1 e_wa e_le e_st e_fo e_lc a_l a_g a_b a_s a_p a_w e_gb a_bb)), (a_g, (oc6 6 5 a_gn e_g)), (a_gn, (arI G 30 f_g)), (a_j, (oc2 a_as a_sk)), (a_as, (arI G 8 z16)), (a_sk, (arJ G 50 z83)), (a_l, (arW G 6 f_l)), (a_lo, (oc3 e_cl a_hd a_sr a_cd)), (a_sr, (arI G n_sr f_sr)), (a_cd, (arI G n_cd f_cd)), (a_hd, (arI G n_hd f_hd))], rfl, Or.inr (⟨((e_br * (10 - z90)) / 10), (e_we ||| (1 <<< (z5 &&& 31))), (e_me ||| (1 <<< (z5 &&& 31))), (3 - e_wy), (e_ho - z77), z16, z83, ⟨by omega, by omega⟩, ⟨by omega, by omega⟩, ⟨by omega, by omega⟩, by rw [met_c hGF (by omega) hc1_14 rfl rfl hc4_20 e_f4, tn_3 hNS hV_79 (by omega) hV_92 rfl (by omega), nw_1 (so := z12) (by omega)], rfl⟩), by rw [ht]; exact hP.sub [2, 0, 3, 4, 10, 5, 11, 1, 6, 7, 8, 9] rfl, hD.sub [2, 0, 3, 4, 10, 5, 11, 1, 6, 7, 8, 9] (by decide +kernel) rfl⟩, hS.F ht⟩) hS.2.2 dX5_meetGlass_346
                              ·
                                have i_97 : z12.toInt = 0 := g5_neN (a := z12.toInt) (b := 0) rfl (by decide +kernel) c_97
                                refine lv_aload_n hx hb dX5_meetGlass_295 rfl (lv_at hl 8 rfl) ?_
                                refine va_get (D := G.1) (ci := 5) (v := .int e_wy) (C := RX5) (T := TX5) (N := 13) hx hb hts inG_X5 hown hK hP 2 rfl rfl 10 (by decide +kernel) (hts _ fl_X5_30) (fun _ h9 => h9) rfl dX5_meetGlass_296 ?_
                                refine lv_iconst (v := 1) hx hb dX5_meetGlass_299 (by decide +kernel) ?_
                                refine lv_ixor hx hb dX5_meetGlass_300 ?_
                                have hx_100 := (g_xor (w := e_wy) (by omega) (by omega)).1
                                refine W.eq (g2 := F0 m 301 ls [.int (e_wy ^^^ 1), .ref a_k]) rfl ?_
                                refine lv_goto (tgt := 325) hx hb dX5_meetGlass_301 (by decide +kernel) ?_
                                refine va_put (D := G.1) (ci := 5) (v := .int (e_wy ^^^ 1)) (ty := .int) (C := RX5) (T := TX5) (N := 13) hx hb hts inG_X5 tyX5 tyX5_ok nmX5 hown hK hP hD hS 2 rfl rfl 10 (by decide +kernel) (hts _ fl_X5_30) (fun _ h9 => h9) rfl (by decide +kernel) rfl rfl (Nat.le_of_ble_eq_true rfl) dX5_meetGlass_325 ?_
                                clear hP hD hS
                                intro H locs hP hD hS
                                refine g5_rs [(a_h, (oc1 e_wa e_le e_st e_fo e_lc a_l a_g a_b a_s a_p a_w e_gb a_bb)), (a_l, (arW G 6 f_l)), (a_k, (oc5 a_h a_j a_pt e_ln e_se e_lh ((e_br * (10 - z90)) / 10) e_we (e_me ||| (1 <<< (z5 &&& 31))) e_ce (e_wy ^^^ 1) (e_ho - z77) 1)), (a_g, (oc6 6 5 a_gn e_g)), (a_gn, (arI G 30 f_g)), (a_as, (arI G 8 z16)), (a_lo, (oc3 e_cl a_hd a_sr a_cd)), (a_sr, (arI G n_sr f_sr)), (a_cd, (arI G n_cd f_cd)), (a_hd, (arI G n_hd f_hd)), (a_j, (oc2 a_as a_sk)), (a_sk, (arJ G 50 z83))] hP hD ?_
                                clear hP hD
                                intro hP hD
                                refine lv_aload_n hx hb dX5_meetGlass_328 rfl (lv_at hl 8 rfl) ?_
                                refine lv_dup hx hb dX5_meetGlass_329 rfl ?_
                                refine va_get (D := G.1) (ci := 5) (v := .int e_we) (C := RX5) (T := TX5) (N := 13) hx hb hts inG_X5 hown hK hP 2 rfl rfl 7 (by decide +kernel) (hts _ fl_X5_49) (fun _ h9 => h9) rfl dX5_meetGlass_330 ?_
                                refine W.eq (g2 := F0 m 333 ls [.int e_we, .ref a_k]) rfl ?_
                                refine lv_iconst (v := 1) hx hb dX5_meetGlass_333 (by decide +kernel) ?_
                                refine lv_iload hx hb dX5_meetGlass_334 (lv_at hl 4 rfl) ?_
                                refine lv_ishl hx hb dX5_meetGlass_336 ?_
                                refine lv_ior hx hb dX5_meetGlass_337 ?_
                                refine va_put (D := G.1) (ci := 5) (v := .int (e_we ||| (1 <<< (z5 &&& 31)))) (ty := .int) (C := RX5) (T := TX5) (N := 13) hx hb hts inG_X5 tyX5 tyX5_ok nmX5 hown hK hP hD hS 2 rfl rfl 7 (by decide +kernel) (hts _ fl_X5_49) (fun _ h9 => h9) rfl (by decide +kernel) rfl rfl (Nat.le_of_ble_eq_true rfl) dX5_meetGlass_338 ?_
                                clear hP hD hS
                                intro H locs hP hD hS
                                refine g5_rs [(a_h, (oc1 e_wa e_le e_st e_fo e_lc a_l a_g a_b a_s a_p a_w e_gb a_bb)), (a_l, (arW G 6 f_l)), (a_k, (oc5 a_h a_j a_pt e_ln e_se e_lh ((e_br * (10 - z90)) / 10) (e_we ||| (1 <<< (z5 &&& 31))) (e_me ||| (1 <<< (z5 &&& 31))) e_ce (e_wy ^^^ 1) (e_ho - z77) 1)), (a_g, (oc6 6 5 a_gn e_g)), (a_gn, (arI G 30 f_g)), (a_as, (arI G 8 z16)), (a_lo, (oc3 e_cl a_hd a_sr a_cd)), (a_sr, (arI G n_sr f_sr)), (a_cd, (arI G n_cd f_cd)), (a_hd, (arI G n_hd f_hd)), (a_j, (oc2 a_as a_sk)), (a_sk, (arJ G 50 z83))] hP hD ?_
                                clear hP hD
                                intro hP hD
                                refine W.eq (g2 := F0 m 341 ls []) rfl ?_
                                refine lv_aload_n hx hb dX5_meetGlass_341 rfl (lv_at hl 8 rfl) ?_
                                refine lv_iconst (v := 0) hx hb dX5_meetGlass_342 (by decide +kernel) ?_
                                refine va_put (D := G.1) (ci := 5) (v := .int 0) (ty := .boolean) (C := RX5) (T := TX5) (N := 13) hx hb hts inG_X5 tyX5 tyX5_ok nmX5 hown hK hP hD hS 2 rfl rfl 12 (by decide +kernel) (hts _ fl_X5_56) (fun _ h9 => h9) rfl (by decide +kernel) rfl rfl (Nat.le_of_ble_eq_true rfl) dX5_meetGlass_343 ?_
                                clear hP hD hS
                                intro H locs hP hD hS
                                refine g5_rs [(a_h, (oc1 e_wa e_le e_st e_fo e_lc a_l a_g a_b a_s a_p a_w e_gb a_bb)), (a_l, (arW G 6 f_l)), (a_k, (oc5 a_h a_j a_pt e_ln e_se e_lh ((e_br * (10 - z90)) / 10) (e_we ||| (1 <<< (z5 &&& 31))) (e_me ||| (1 <<< (z5 &&& 31))) e_ce (e_wy ^^^ 1) (e_ho - z77) 0)), (a_g, (oc6 6 5 a_gn e_g)), (a_gn, (arI G 30 f_g)), (a_as, (arI G 8 z16)), (a_lo, (oc3 e_cl a_hd a_sr a_cd)), (a_sr, (arI G n_sr f_sr)), (a_cd, (arI G n_cd f_cd)), (a_hd, (arI G n_hd f_hd)), (a_j, (oc2 a_as a_sk)), (a_sk, (arJ G 50 z83))] hP hD ?_
                                clear hP hD
                                intro hP hD
                                exact W.vret hx hb hr (fun t ht hW => ⟨⟨[(a_k, (oc5 a_h a_j a_pt e_ln e_se e_lh ((e_br * (10 - z90)) / 10) (e_we ||| (1 <<< (z5 &&& 31))) (e_me ||| (1 <<< (z5 &&& 31))) e_ce (e_wy ^^^ 1) (e_ho - z77) 0)), (a_h, (oc1 e_wa e_le e_st e_fo e_lc a_l a_g a_b a_s a_p a_w e_gb a_bb)), (a_g, (oc6 6 5 a_gn e_g)), (a_gn, (arI G 30 f_g)), (a_j, (oc2 a_as a_sk)), (a_as, (arI G 8 z16)), (a_sk, (arJ G 50 z83)), (a_l, (arW G 6 f_l)), (a_lo, (oc3 e_cl a_hd a_sr a_cd)), (a_sr, (arI G n_sr f_sr)), (a_cd, (arI G n_cd f_cd)), (a_hd, (arI G n_hd f_hd))], rfl, Or.inr (⟨((e_br * (10 - z90)) / 10), (e_we ||| (1 <<< (z5 &&& 31))), (e_me ||| (1 <<< (z5 &&& 31))), (e_wy ^^^ 1), (e_ho - z77), z16, z83, ⟨by omega, by omega⟩, ⟨by omega, by omega⟩, ⟨by omega, by omega⟩, by rw [met_c hGF (by omega) hc1_14 rfl rfl hc4_20 e_f4, tn_3 hNS hV_79 (by omega) hV_92 rfl (by omega), nw_0 (so := z12) (by omega)], rfl⟩), by rw [ht]; exact hP.sub [2, 0, 3, 4, 10, 5, 11, 1, 6, 7, 8, 9] rfl, hD.sub [2, 0, 3, 4, 10, 5, 11, 1, 6, 7, 8, 9] (by decide +kernel) rfl⟩, hS.F ht⟩) hS.2.2 dX5_meetGlass_346
                            ·
                              have i_95 : ((e_br * (10 - z90)) / 10).toInt < e_le.toInt := g5_geN (a := ((e_br * (10 - z90)) / 10).toInt) (b := e_le.toInt) rfl rfl c_95
                              exact W.vret hx hb hr (fun t ht hW => ⟨⟨[(a_k, (oc5 a_h a_j a_pt e_ln e_se e_lh ((e_br * (10 - z90)) / 10) e_we (e_me ||| (1 <<< (z5 &&& 31))) e_ce e_wy e_ho 1)), (a_h, (oc1 e_wa e_le e_st e_fo e_lc a_l a_g a_b a_s a_p a_w e_gb a_bb)), (a_g, (oc6 6 5 a_gn e_g)), (a_gn, (arI G 30 f_g)), (a_j, (oc2 a_as a_sk)), (a_as, (arI G 8 z16)), (a_sk, (arJ G 50 z83)), (a_l, (arW G 6 f_l)), (a_lo, (oc3 e_cl a_hd a_sr a_cd)), (a_sr, (arI G n_sr f_sr)), (a_cd, (arI G n_cd f_cd)), (a_hd, (arI G n_hd f_hd))], rfl, Or.inl (⟨((e_br * (10 - z90)) / 10), (e_me ||| (1 <<< (z5 &&& 31))), z16, z83, ⟨by omega, by omega⟩, by rw [met_c hGF (by omega) hc1_14 rfl rfl hc4_20 e_f4, tn_2 hNS hV_79 (by omega) hV_92 rfl (by omega)]; exact ⟨rfl, rfl, rfl⟩, rfl⟩), by rw [ht]; exact hP.sub [2, 0, 3, 4, 10, 5, 11, 1, 6, 7, 8, 9] rfl, hD.sub [2, 0, 3, 4, 10, 5, 11, 1, 6, 7, 8, 9] (by decide +kernel) rfl⟩, hS.F ht⟩) hS.2.2 dX5_meetGlass_277
                        ·
                          have hJ9 := va_join (wr := [(a_h, (oc1 e_wa e_le e_st e_fo e_lc a_l a_g a_b a_s a_p a_w e_gb a_bb)), (a_l, (arW G 6 f_l)), (a_k, (oc5 a_h a_j a_pt e_ln e_se e_lh e_br e_we (e_me ||| (1 <<< (z5 &&& 31))) e_ce e_wy e_ho 1)), (a_g, (oc6 6 5 a_gn e_g)), (a_gn, (arI G 30 f_g))]) hP hD [3, 4, 5, 6, 7, 8, 9] [0, 1, 2, 10, 11] rfl rfl (by decide +kernel) (by decide +kernel) hk1 hFc hP1 hD1
                          clear hP hD hPc hDc hFc ht hvm hz1 hk1 hP1 hD1
                          obtain ⟨hP, hD⟩ := hJ9
                          refine g5_rs [(a_h, (oc1 e_wa e_le e_st e_fo e_lc a_l a_g a_b a_s a_p a_w e_gb a_bb)), (a_l, (arW G 6 f_l)), (a_k, (oc5 a_h a_j a_pt e_ln e_se e_lh e_br e_we (e_me ||| (1 <<< (z5 &&& 31))) e_ce e_wy e_ho 1)), (a_g, (oc6 6 5 a_gn e_g)), (a_gn, (arI G 30 f_g)), (a_j, (oc2 a_as a_sk)), (a_as, (arI G 8 z16)), (a_sk, (arJ G 50 z85)), (a_lo, (oc3 e_cl a_hd a_sr a_cd)), (a_sr, (arI G n_sr f_sr)), (a_cd, (arI G n_cd f_cd)), (a_hd, (arI G n_hd f_hd))] hP hD ?_
                          clear hP hD
                          intro hP hD
                          refine lv_if_eq (tgt := 238) hx hb dX5_meetGlass_223 (by decide +kernel) (fun c_101 => ?_) (fun c_101 => ?_)
                          ·
                            refine lv_aload_n hx hb dX5_meetGlass_238 rfl (lv_at hl 5 rfl) ?_
                            refine lv_iload_n hx hb dX5_meetGlass_239 rfl (lv_at hl 4 rfl) ?_
                            refine lv_iconst (v := 3) hx hb dX5_meetGlass_240 (by decide +kernel) ?_
                            obtain ⟨hPc, hDc, hFc⟩ := g5_sub3 (wc := [(a_g, (oc6 6 5 a_gn e_g)), (a_gn, (arI G 30 f_g))]) hP hD hS hA [3, 4] (by decide +kernel) rfl
                            refine va_calli (va_runV (As := [.int z5, .int 3]) (rest := []) ⟨hx, hb, hml, hown, hts⟩ (t_get_G l G a_g a_gn H.size e_g z5 3 f_g h_e_g) (cwV 2 hts gV_X5_107 rfl rfl rfl hv_X6_get ⟨Nat.le_of_ble_eq_true rfl, Nat.le_of_ble_eq_true rfl⟩) (g5_preV hPc hK hDc hN hT hS hFc (ci := 6) (q0 := 0) rfl rfl) rfl rfl hl.1 rfl (lv_room (Nat.le_of_ble_eq_true rfl)) dX5_meetGlass_241 ⟨Nat.le_of_ble_eq_true rfl, Nat.le_of_ble_eq_true rfl⟩) hS (fun q _ h => hFc q h) hFc (fun r u t H locs ht hvm hw hB hz1 hk1 hS => ?_)
                            obtain ⟨hP1, hD1⟩ := hB
                            have hP1 := g5_ht ht hP1
                            obtain ⟨z103, (i_102 : z103 = tget f_g e_g.toInt 5 z5.toInt (3 : Int32).toInt), y104, rfl⟩ := hw
                            have hJ9 := va_join (wr := [(a_h, (oc1 e_wa e_le e_st e_fo e_lc a_l a_g a_b a_s a_p a_w e_gb a_bb)), (a_l, (arW G 6 f_l)), (a_k, (oc5 a_h a_j a_pt e_ln e_se e_lh e_br e_we (e_me ||| (1 <<< (z5 &&& 31))) e_ce e_wy e_ho 1)), (a_j, (oc2 a_as a_sk)), (a_as, (arI G 8 z16)), (a_sk, (arJ G 50 z85)), (a_lo, (oc3 e_cl a_hd a_sr a_cd)), (a_sr, (arI G n_sr f_sr)), (a_cd, (arI G n_cd f_cd)), (a_hd, (arI G n_hd f_hd))]) hP hD [3, 4] [0, 1, 2, 5, 6, 7, 8, 9, 10, 11] rfl rfl (by decide +kernel) (by decide +kernel) hk1 hFc hP1 hD1
                            clear hP hD hPc hDc hFc ht hvm hz1 hk1 hP1 hD1
                            obtain ⟨hP, hD⟩ := hJ9
                            refine g5_rs [(a_h, (oc1 e_wa e_le e_st e_fo e_lc a_l a_g a_b a_s a_p a_w e_gb a_bb)), (a_l, (arW G 6 f_l)), (a_k, (oc5 a_h a_j a_pt e_ln e_se e_lh e_br e_we (e_me ||| (1 <<< (z5 &&& 31))) e_ce e_wy e_ho 1)), (a_j, (oc2 a_as a_sk)), (a_as, (arI G 8 z16)), (a_sk, (arJ G 50 z85)), (a_lo, (oc3 e_cl a_hd a_sr a_cd)), (a_sr, (arI G n_sr f_sr)), (a_cd, (arI G n_cd f_cd)), (a_hd, (arI G n_hd f_hd)), (a_g, (oc6 6 5 a_gn e_g)), (a_gn, (arI G 30 f_g))] hP hD ?_
                            clear hP hD
                            intro hP hD
                            refine g5_ti (v := z103) y104 ?_
                            have hc3_106 := gl_col (k := 3) e_qg i_2 i_102 (by decide +kernel) (by omega)
                            have hg_106 : 0 ≤ z103.toInt ∧ z103.toInt ≤ 10 := by rw [i_102]; exact (e_gk z5.toInt (by omega) (by omega)).2.2.2
                            have hV_105 : z103 = tellQ (toldW g_w 1 (askQ z5 e_ce e_ho e_wy (-1) e_ln e_br)) (f_ro (80 + 5 * z5.toInt.toNat + 3)) 10 := hc3_106.symm.trans (tell_n (tW_of e_w (by decide +kernel) i_84))
                            refine W.eq (g2 := F0 m 244 ls [.int z103]) rfl ?_
                            refine lv_istore (lv' := [(8, .int z103), (7, .int z77), (6, .ref a_lo), (5, .int z12), (4, .int z5), (3, .int z5), (2, .ref a_g), (1, .int z5), (0, .ref a_k)]) hx hb dX5_meetGlass_244 hl (by decide +kernel) rfl ?_
                            clear hl
                            intro ls hl
                            refine lv_aload_n hx hb dX5_meetGlass_246 rfl (lv_at hl 8 rfl) ?_
                            refine lv_aload_n hx hb dX5_meetGlass_247 rfl (lv_at hl 8 rfl) ?_
                            refine va_get (D := G.1) (ci := 5) (v := .int e_br) (C := RX5) (T := TX5) (N := 13) hx hb hts inG_X5 hown hK hP 2 rfl rfl 6 (by decide +kernel) (hts _ fl_X5_46) (fun _ h9 => h9) rfl dX5_meetGlass_248 ?_
                            refine lv_bipush (v := 10) hx hb dX5_meetGlass_251 (by decide +kernel) ?_
                            refine W.eq (g2 := F0 m 253 ls [.int 10, .int e_br, .ref a_k]) rfl ?_
                            refine lv_iload hx hb dX5_meetGlass_253 (lv_at hl 0 rfl) ?_
                            refine lv_isub hx hb dX5_meetGlass_255 ?_
                            have t_107 : (10 - z103).toInt = 10 - z103.toInt := g5_isub (a := 10) (b := z103.toInt) (by decide +kernel) (by rfl) (by omega) (by omega)
                            refine lv_imul hx hb dX5_meetGlass_256 ?_
                            refine lv_bipush (v := 10) hx hb dX5_meetGlass_257 (by decide +kernel) ?_
                            refine lv_idiv hx hb dX5_meetGlass_259 (by decide +kernel) ?_
                            have hb_108 : 0 ≤ ((e_br * (10 - z103)) / 10).toInt ∧ ((e_br * (10 - z103)) / 10).toInt ≤ 1000000 := g_dust (by omega) (by omega)
                            refine W.eq (g2 := F0 m 260 ls [.int ((e_br * (10 - z103)) / 10), .ref a_k]) rfl ?_
                            refine va_put (D := G.1) (ci := 5) (v := .int ((e_br * (10 - z103)) / 10)) (ty := .int) (C := RX5) (T := TX5) (N := 13) hx hb hts inG_X5 tyX5 tyX5_ok nmX5 hown hK hP hD hS 2 rfl rfl 6 (by decide +kernel) (hts _ fl_X5_46) (fun _ h9 => h9) rfl (by decide +kernel) rfl rfl (Nat.le_of_ble_eq_true rfl) dX5_meetGlass_260 ?_
                            clear hP hD hS
                            intro H locs hP hD hS
                            refine g5_rs [(a_h, (oc1 e_wa e_le e_st e_fo e_lc a_l a_g a_b a_s a_p a_w e_gb a_bb)), (a_l, (arW G 6 f_l)), (a_k, (oc5 a_h a_j a_pt e_ln e_se e_lh ((e_br * (10 - z103)) / 10) e_we (e_me ||| (1 <<< (z5 &&& 31))) e_ce e_wy e_ho 1)), (a_j, (oc2 a_as a_sk)), (a_as, (arI G 8 z16)), (a_sk, (arJ G 50 z85)), (a_lo, (oc3 e_cl a_hd a_sr a_cd)), (a_sr, (arI G n_sr f_sr)), (a_cd, (arI G n_cd f_cd)), (a_hd, (arI G n_hd f_hd)), (a_g, (oc6 6 5 a_gn e_g)), (a_gn, (arI G 30 f_g))] hP hD ?_
                            clear hP hD
                            intro hP hD
                            refine lv_aload_n hx hb dX5_meetGlass_263 rfl (lv_at hl 8 rfl) ?_
                            refine va_get (D := G.1) (ci := 5) (v := .int ((e_br * (10 - z103)) / 10)) (C := RX5) (T := TX5) (N := 13) hx hb hts inG_X5 hown hK hP 2 rfl rfl 6 (by decide +kernel) (hts _ fl_X5_46) (fun _ h9 => h9) rfl dX5_meetGlass_264 ?_
                            refine lv_aload_n hx hb dX5_meetGlass_267 rfl (lv_at hl 8 rfl) ?_
                            refine va_get (D := G.1) (ci := 5) (v := .ref a_h) (C := RX5) (T := TX5) (N := 13) hx hb hts inG_X5 hown hK hP 2 rfl rfl 0 (by decide +kernel) (hts _ fl_X5_22) (fun _ h9 => h9) rfl dX5_meetGlass_268 ?_
                            refine W.eq (g2 := F0 m 271 ls [.ref a_h, .int ((e_br * (10 - z103)) / 10)]) rfl ?_
                            refine va_get (D := G.1) (ci := 1) (v := .int e_le) (C := RX1) (T := TX1) (N := 13) hx hb hts inG_X1 hown hK hP 0 rfl rfl 1 (by decide +kernel) (hts _ fl_X5_138) (fun _ h9 => h9) rfl dX5_meetGlass_271 ?_
                            refine lv_icmp_ge (tgt := 278) hx hb dX5_meetGlass_274 (by decide +kernel) (fun c_109 => ?_) (fun c_109 => ?_)
                            ·
                              have i_109 : ((e_br * (10 - z103)) / 10).toInt ≥ e_le.toInt := g5_ge (a := ((e_br * (10 - z103)) / 10).toInt) (b := e_le.toInt) rfl rfl c_109
                              refine lv_aload_n hx hb dX5_meetGlass_278 rfl (lv_at hl 8 rfl) ?_
                              refine lv_dup hx hb dX5_meetGlass_279 rfl ?_
                              refine va_get (D := G.1) (ci := 5) (v := .int e_ho) (C := RX5) (T := TX5) (N := 13) hx hb hts inG_X5 hown hK hP 2 rfl rfl 11 (by decide +kernel) (hts _ fl_X5_33) (fun _ h9 => h9) rfl dX5_meetGlass_280 ?_
                              refine lv_iload hx hb dX5_meetGlass_283 (lv_at hl 1 rfl) ?_
                              refine W.eq (g2 := F0 m 285 ls [.int z77, .int e_ho, .ref a_k]) rfl ?_
                              refine lv_isub hx hb dX5_meetGlass_285 ?_
                              have t_110 : (e_ho - z77).toInt = e_ho.toInt - z77.toInt := g5_isub (a := e_ho.toInt) (b := z77.toInt) (by rfl) (by rfl) (by omega) (by omega)
                              refine va_put (D := G.1) (ci := 5) (v := .int (e_ho - z77)) (ty := .int) (C := RX5) (T := TX5) (N := 13) hx hb hts inG_X5 tyX5 tyX5_ok nmX5 hown hK hP hD hS 2 rfl rfl 11 (by decide +kernel) (hts _ fl_X5_33) (fun _ h9 => h9) rfl (by decide +kernel) rfl rfl (Nat.le_of_ble_eq_true rfl) dX5_meetGlass_286 ?_
                              clear hP hD hS
                              intro H locs hP hD hS
                              refine g5_rs [(a_h, (oc1 e_wa e_le e_st e_fo e_lc a_l a_g a_b a_s a_p a_w e_gb a_bb)), (a_l, (arW G 6 f_l)), (a_k, (oc5 a_h a_j a_pt e_ln e_se e_lh ((e_br * (10 - z103)) / 10) e_we (e_me ||| (1 <<< (z5 &&& 31))) e_ce e_wy (e_ho - z77) 1)), (a_j, (oc2 a_as a_sk)), (a_as, (arI G 8 z16)), (a_sk, (arJ G 50 z85)), (a_lo, (oc3 e_cl a_hd a_sr a_cd)), (a_sr, (arI G n_sr f_sr)), (a_cd, (arI G n_cd f_cd)), (a_hd, (arI G n_hd f_hd)), (a_g, (oc6 6 5 a_gn e_g)), (a_gn, (arI G 30 f_g))] hP hD ?_
                              clear hP hD
                              intro hP hD
                              refine lv_aload_n hx hb dX5_meetGlass_289 rfl (lv_at hl 8 rfl) ?_
                              refine lv_iload hx hb dX5_meetGlass_290 (lv_at hl 3 rfl) ?_
                              refine lv_if_ne (tgt := 304) hx hb dX5_meetGlass_292 (by decide +kernel) (fun c_111 => ?_) (fun c_111 => ?_)
                              ·
                                have n_111 : gNe (z12.toInt) (0) := g5_ne (a := z12.toInt) (b := 0) rfl (by decide +kernel) c_111
                                have i_111 : z12.toInt ≥ 1 := by have z := g5_ne (a := z12.toInt) (b := 0) (by rfl) (by decide +kernel) c_111; omega
                                refine lv_iload hx hb dX5_meetGlass_304 (lv_at hl 3 rfl) ?_
                                refine lv_iconst (v := 1) hx hb dX5_meetGlass_306 (by decide +kernel) ?_
                                refine lv_icmp_ne (tgt := 319) hx hb dX5_meetGlass_307 (by decide +kernel) (fun c_112 => ?_) (fun c_112 => ?_)
                                ·
                                  have i_112 : z12.toInt ≠ 1 := g5_ne (a := z12.toInt) (b := 1) rfl (by decide +kernel) c_112
                                  omega
                                ·
                                  have i_112 : z12.toInt = 1 := g5_neN (a := z12.toInt) (b := 1) rfl (by decide +kernel) c_112
                                  refine lv_iconst (v := 3) hx hb dX5_meetGlass_310 (by decide +kernel) ?_
                                  refine lv_aload_n hx hb dX5_meetGlass_311 rfl (lv_at hl 8 rfl) ?_
                                  refine va_get (D := G.1) (ci := 5) (v := .int e_wy) (C := RX5) (T := TX5) (N := 13) hx hb hts inG_X5 hown hK hP 2 rfl rfl 10 (by decide +kernel) (hts _ fl_X5_30) (fun _ h9 => h9) rfl dX5_meetGlass_312 ?_
                                  refine lv_isub hx hb dX5_meetGlass_315 ?_
                                  have t_113 : (3 - e_wy).toInt = 3 - e_wy.toInt := g5_isub (a := 3) (b := e_wy.toInt) (by decide +kernel) (by rfl) (by omega) (by omega)
                                  refine W.eq (g2 := F0 m 316 ls [.int (3 - e_wy), .ref a_k]) rfl ?_
                                  refine lv_goto (tgt := 325) hx hb dX5_meetGlass_316 (by decide +kernel) ?_
                                  refine va_put (D := G.1) (ci := 5) (v := .int (3 - e_wy)) (ty := .int) (C := RX5) (T := TX5) (N := 13) hx hb hts inG_X5 tyX5 tyX5_ok nmX5 hown hK hP hD hS 2 rfl rfl 10 (by decide +kernel) (hts _ fl_X5_30) (fun _ h9 => h9) rfl (by decide +kernel) rfl rfl (Nat.le_of_ble_eq_true rfl) dX5_meetGlass_325 ?_
                                  clear hP hD hS
                                  intro H locs hP hD hS
                                  refine g5_rs [(a_h, (oc1 e_wa e_le e_st e_fo e_lc a_l a_g a_b a_s a_p a_w e_gb a_bb)), (a_l, (arW G 6 f_l)), (a_k, (oc5 a_h a_j a_pt e_ln e_se e_lh ((e_br * (10 - z103)) / 10) e_we (e_me ||| (1 <<< (z5 &&& 31))) e_ce (3 - e_wy) (e_ho - z77) 1)), (a_j, (oc2 a_as a_sk)), (a_as, (arI G 8 z16)), (a_sk, (arJ G 50 z85)), (a_lo, (oc3 e_cl a_hd a_sr a_cd)), (a_sr, (arI G n_sr f_sr)), (a_cd, (arI G n_cd f_cd)), (a_hd, (arI G n_hd f_hd)), (a_g, (oc6 6 5 a_gn e_g)), (a_gn, (arI G 30 f_g))] hP hD ?_
                                  clear hP hD
                                  intro hP hD
                                  refine lv_aload_n hx hb dX5_meetGlass_328 rfl (lv_at hl 8 rfl) ?_
                                  refine lv_dup hx hb dX5_meetGlass_329 rfl ?_
                                  refine va_get (D := G.1) (ci := 5) (v := .int e_we) (C := RX5) (T := TX5) (N := 13) hx hb hts inG_X5 hown hK hP 2 rfl rfl 7 (by decide +kernel) (hts _ fl_X5_49) (fun _ h9 => h9) rfl dX5_meetGlass_330 ?_
                                  refine W.eq (g2 := F0 m 333 ls [.int e_we, .ref a_k]) rfl ?_
                                  refine lv_iconst (v := 1) hx hb dX5_meetGlass_333 (by decide +kernel) ?_
                                  refine lv_iload hx hb dX5_meetGlass_334 (lv_at hl 4 rfl) ?_
                                  refine lv_ishl hx hb dX5_meetGlass_336 ?_
                                  refine lv_ior hx hb dX5_meetGlass_337 ?_
                                  refine va_put (D := G.1) (ci := 5) (v := .int (e_we ||| (1 <<< (z5 &&& 31)))) (ty := .int) (C := RX5) (T := TX5) (N := 13) hx hb hts inG_X5 tyX5 tyX5_ok nmX5 hown hK hP hD hS 2 rfl rfl 7 (by decide +kernel) (hts _ fl_X5_49) (fun _ h9 => h9) rfl (by decide +kernel) rfl rfl (Nat.le_of_ble_eq_true rfl) dX5_meetGlass_338 ?_
                                  clear hP hD hS
                                  intro H locs hP hD hS
                                  refine g5_rs [(a_h, (oc1 e_wa e_le e_st e_fo e_lc a_l a_g a_b a_s a_p a_w e_gb a_bb)), (a_l, (arW G 6 f_l)), (a_k, (oc5 a_h a_j a_pt e_ln e_se e_lh ((e_br * (10 - z103)) / 10) (e_we ||| (1 <<< (z5 &&& 31))) (e_me ||| (1 <<< (z5 &&& 31))) e_ce (3 - e_wy) (e_ho - z77) 1)), (a_j, (oc2 a_as a_sk)), (a_as, (arI G 8 z16)), (a_sk, (arJ G 50 z85)), (a_lo, (oc3 e_cl a_hd a_sr a_cd)), (a_sr, (arI G n_sr f_sr)), (a_cd, (arI G n_cd f_cd)), (a_hd, (arI G n_hd f_hd)), (a_g, (oc6 6 5 a_gn e_g)), (a_gn, (arI G 30 f_g))] hP hD ?_
                                  clear hP hD
                                  intro hP hD
                                  refine W.eq (g2 := F0 m 341 ls []) rfl ?_
                                  refine lv_aload_n hx hb dX5_meetGlass_341 rfl (lv_at hl 8 rfl) ?_
                                  refine lv_iconst (v := 0) hx hb dX5_meetGlass_342 (by decide +kernel) ?_
                                  refine va_put (D := G.1) (ci := 5) (v := .int 0) (ty := .boolean) (C := RX5) (T := TX5) (N := 13) hx hb hts inG_X5 tyX5 tyX5_ok nmX5 hown hK hP hD hS 2 rfl rfl 12 (by decide +kernel) (hts _ fl_X5_56) (fun _ h9 => h9) rfl (by decide +kernel) rfl rfl (Nat.le_of_ble_eq_true rfl) dX5_meetGlass_343 ?_
                                  clear hP hD hS
                                  intro H locs hP hD hS
                                  refine g5_rs [(a_h, (oc1 e_wa e_le e_st e_fo e_lc a_l a_g a_b a_s a_p a_w e_gb a_bb)), (a_l, (arW G 6 f_l)), (a_k, (oc5 a_h a_j a_pt e_ln e_se e_lh ((e_br * (10 - z103)) / 10) (e_we ||| (1 <<< (z5 &&& 31))) (e_me ||| (1 <<< (z5 &&& 31))) e_ce (3 - e_wy) (e_ho - z77) 0)), (a_j, (oc2 a_as a_sk)), (a_as, (arI G 8 z16)), (a_sk, (arJ G 50 z85)), (a_lo, (oc3 e_cl a_hd a_sr a_cd)), (a_sr, (arI G n_sr f_sr)), (a_cd, (arI G n_cd f_cd)), (a_hd, (arI G n_hd f_hd)), (a_g, (oc6 6 5 a_gn e_g)), (a_gn, (arI G 30 f_g))] hP hD ?_
                                  clear hP hD
                                  intro hP hD
                                  exact W.vret hx hb hr (fun t ht hW => ⟨⟨[(a_k, (oc5 a_h a_j a_pt e_ln e_se e_lh ((e_br * (10 - z103)) / 10) (e_we ||| (1 <<< (z5 &&& 31))) (e_me ||| (1 <<< (z5 &&& 31))) e_ce (3 - e_wy) (e_ho - z77) 0)), (a_h, (oc1 e_wa e_le e_st e_fo e_lc a_l a_g a_b a_s a_p a_w e_gb a_bb)), (a_g, (oc6 6 5 a_gn e_g)), (a_gn, (arI G 30 f_g)), (a_j, (oc2 a_as a_sk)), (a_as, (arI G 8 z16)), (a_sk, (arJ G 50 z85)), (a_l, (arW G 6 f_l)), (a_lo, (oc3 e_cl a_hd a_sr a_cd)), (a_sr, (arI G n_sr f_sr)), (a_cd, (arI G n_cd f_cd)), (a_hd, (arI G n_hd f_hd))], rfl, Or.inr (⟨((e_br * (10 - z103)) / 10), (e_we ||| (1 <<< (z5 &&& 31))), (e_me ||| (1 <<< (z5 &&& 31))), (3 - e_wy), (e_ho - z77), z16, z85, ⟨by omega, by omega⟩, ⟨by omega, by omega⟩, ⟨by omega, by omega⟩, by rw [met_c hGF (by omega) hc1_14 rfl rfl hc4_20 e_f4, tn_3 hNS hV_79 (by omega) hV_105 rfl (by omega), nw_1 (so := z12) (by omega)], rfl⟩), by rw [ht]; exact hP.sub [2, 0, 10, 11, 3, 4, 5, 1, 6, 7, 8, 9] rfl, hD.sub [2, 0, 10, 11, 3, 4, 5, 1, 6, 7, 8, 9] (by decide +kernel) rfl⟩, hS.F ht⟩) hS.2.2 dX5_meetGlass_346
                              ·
                                have i_111 : z12.toInt = 0 := g5_neN (a := z12.toInt) (b := 0) rfl (by decide +kernel) c_111
                                refine lv_aload_n hx hb dX5_meetGlass_295 rfl (lv_at hl 8 rfl) ?_
                                refine va_get (D := G.1) (ci := 5) (v := .int e_wy) (C := RX5) (T := TX5) (N := 13) hx hb hts inG_X5 hown hK hP 2 rfl rfl 10 (by decide +kernel) (hts _ fl_X5_30) (fun _ h9 => h9) rfl dX5_meetGlass_296 ?_
                                refine lv_iconst (v := 1) hx hb dX5_meetGlass_299 (by decide +kernel) ?_
                                refine lv_ixor hx hb dX5_meetGlass_300 ?_
                                have hx_114 := (g_xor (w := e_wy) (by omega) (by omega)).1
                                refine W.eq (g2 := F0 m 301 ls [.int (e_wy ^^^ 1), .ref a_k]) rfl ?_
                                refine lv_goto (tgt := 325) hx hb dX5_meetGlass_301 (by decide +kernel) ?_
                                refine va_put (D := G.1) (ci := 5) (v := .int (e_wy ^^^ 1)) (ty := .int) (C := RX5) (T := TX5) (N := 13) hx hb hts inG_X5 tyX5 tyX5_ok nmX5 hown hK hP hD hS 2 rfl rfl 10 (by decide +kernel) (hts _ fl_X5_30) (fun _ h9 => h9) rfl (by decide +kernel) rfl rfl (Nat.le_of_ble_eq_true rfl) dX5_meetGlass_325 ?_
                                clear hP hD hS
                                intro H locs hP hD hS
                                refine g5_rs [(a_h, (oc1 e_wa e_le e_st e_fo e_lc a_l a_g a_b a_s a_p a_w e_gb a_bb)), (a_l, (arW G 6 f_l)), (a_k, (oc5 a_h a_j a_pt e_ln e_se e_lh ((e_br * (10 - z103)) / 10) e_we (e_me ||| (1 <<< (z5 &&& 31))) e_ce (e_wy ^^^ 1) (e_ho - z77) 1)), (a_j, (oc2 a_as a_sk)), (a_as, (arI G 8 z16)), (a_sk, (arJ G 50 z85)), (a_lo, (oc3 e_cl a_hd a_sr a_cd)), (a_sr, (arI G n_sr f_sr)), (a_cd, (arI G n_cd f_cd)), (a_hd, (arI G n_hd f_hd)), (a_g, (oc6 6 5 a_gn e_g)), (a_gn, (arI G 30 f_g))] hP hD ?_
                                clear hP hD
                                intro hP hD
                                refine lv_aload_n hx hb dX5_meetGlass_328 rfl (lv_at hl 8 rfl) ?_
                                refine lv_dup hx hb dX5_meetGlass_329 rfl ?_
                                refine va_get (D := G.1) (ci := 5) (v := .int e_we) (C := RX5) (T := TX5) (N := 13) hx hb hts inG_X5 hown hK hP 2 rfl rfl 7 (by decide +kernel) (hts _ fl_X5_49) (fun _ h9 => h9) rfl dX5_meetGlass_330 ?_
                                refine W.eq (g2 := F0 m 333 ls [.int e_we, .ref a_k]) rfl ?_
                                refine lv_iconst (v := 1) hx hb dX5_meetGlass_333 (by decide +kernel) ?_
                                refine lv_iload hx hb dX5_meetGlass_334 (lv_at hl 4 rfl) ?_
                                refine lv_ishl hx hb dX5_meetGlass_336 ?_
                                refine lv_ior hx hb dX5_meetGlass_337 ?_
                                refine va_put (D := G.1) (ci := 5) (v := .int (e_we ||| (1 <<< (z5 &&& 31)))) (ty := .int) (C := RX5) (T := TX5) (N := 13) hx hb hts inG_X5 tyX5 tyX5_ok nmX5 hown hK hP hD hS 2 rfl rfl 7 (by decide +kernel) (hts _ fl_X5_49) (fun _ h9 => h9) rfl (by decide +kernel) rfl rfl (Nat.le_of_ble_eq_true rfl) dX5_meetGlass_338 ?_
                                clear hP hD hS
                                intro H locs hP hD hS
                                refine g5_rs [(a_h, (oc1 e_wa e_le e_st e_fo e_lc a_l a_g a_b a_s a_p a_w e_gb a_bb)), (a_l, (arW G 6 f_l)), (a_k, (oc5 a_h a_j a_pt e_ln e_se e_lh ((e_br * (10 - z103)) / 10) (e_we ||| (1 <<< (z5 &&& 31))) (e_me ||| (1 <<< (z5 &&& 31))) e_ce (e_wy ^^^ 1) (e_ho - z77) 1)), (a_j, (oc2 a_as a_sk)), (a_as, (arI G 8 z16)), (a_sk, (arJ G 50 z85)), (a_lo, (oc3 e_cl a_hd a_sr a_cd)), (a_sr, (arI G n_sr f_sr)), (a_cd, (arI G n_cd f_cd)), (a_hd, (arI G n_hd f_hd)), (a_g, (oc6 6 5 a_gn e_g)), (a_gn, (arI G 30 f_g))] hP hD ?_
                                clear hP hD
                                intro hP hD
                                refine W.eq (g2 := F0 m 341 ls []) rfl ?_
                                refine lv_aload_n hx hb dX5_meetGlass_341 rfl (lv_at hl 8 rfl) ?_
                                refine lv_iconst (v := 0) hx hb dX5_meetGlass_342 (by decide +kernel) ?_
                                refine va_put (D := G.1) (ci := 5) (v := .int 0) (ty := .boolean) (C := RX5) (T := TX5) (N := 13) hx hb hts inG_X5 tyX5 tyX5_ok nmX5 hown hK hP hD hS 2 rfl rfl 12 (by decide +kernel) (hts _ fl_X5_56) (fun _ h9 => h9) rfl (by decide +kernel) rfl rfl (Nat.le_of_ble_eq_true rfl) dX5_meetGlass_343 ?_
                                clear hP hD hS
                                intro H locs hP hD hS
                                refine g5_rs [(a_h, (oc1 e_wa e_le e_st e_fo e_lc a_l a_g a_b a_s a_p a_w e_gb a_bb)), (a_l, (arW G 6 f_l)), (a_k, (oc5 a_h a_j a_pt e_ln e_se e_lh ((e_br * (10 - z103)) / 10) (e_we ||| (1 <<< (z5 &&& 31))) (e_me ||| (1 <<< (z5 &&& 31))) e_ce (e_wy ^^^ 1) (e_ho - z77) 0)), (a_j, (oc2 a_as a_sk)), (a_as, (arI G 8 z16)), (a_sk, (arJ G 50 z85)), (a_lo, (oc3 e_cl a_hd a_sr a_cd)), (a_sr, (arI G n_sr f_sr)), (a_cd, (arI G n_cd f_cd)), (a_hd, (arI G n_hd f_hd)), (a_g, (oc6 6 5 a_gn e_g)), (a_gn, (arI G 30 f_g))] hP hD ?_
                                clear hP hD
                                intro hP hD
                                exact W.vret hx hb hr (fun t ht hW => ⟨⟨[(a_k, (oc5 a_h a_j a_pt e_ln e_se e_lh ((e_br * (10 - z103)) / 10) (e_we ||| (1 <<< (z5 &&& 31))) (e_me ||| (1 <<< (z5 &&& 31))) e_ce (e_wy ^^^ 1) (e_ho - z77) 0)), (a_h, (oc1 e_wa e_le e_st e_fo e_lc a_l a_g a_b a_s a_p a_w e_gb a_bb)), (a_g, (oc6 6 5 a_gn e_g)), (a_gn, (arI G 30 f_g)), (a_j, (oc2 a_as a_sk)), (a_as, (arI G 8 z16)), (a_sk, (arJ G 50 z85)), (a_l, (arW G 6 f_l)), (a_lo, (oc3 e_cl a_hd a_sr a_cd)), (a_sr, (arI G n_sr f_sr)), (a_cd, (arI G n_cd f_cd)), (a_hd, (arI G n_hd f_hd))], rfl, Or.inr (⟨((e_br * (10 - z103)) / 10), (e_we ||| (1 <<< (z5 &&& 31))), (e_me ||| (1 <<< (z5 &&& 31))), (e_wy ^^^ 1), (e_ho - z77), z16, z85, ⟨by omega, by omega⟩, ⟨by omega, by omega⟩, ⟨by omega, by omega⟩, by rw [met_c hGF (by omega) hc1_14 rfl rfl hc4_20 e_f4, tn_3 hNS hV_79 (by omega) hV_105 rfl (by omega), nw_0 (so := z12) (by omega)], rfl⟩), by rw [ht]; exact hP.sub [2, 0, 10, 11, 3, 4, 5, 1, 6, 7, 8, 9] rfl, hD.sub [2, 0, 10, 11, 3, 4, 5, 1, 6, 7, 8, 9] (by decide +kernel) rfl⟩, hS.F ht⟩) hS.2.2 dX5_meetGlass_346
                            ·
                              have i_109 : ((e_br * (10 - z103)) / 10).toInt < e_le.toInt := g5_geN (a := ((e_br * (10 - z103)) / 10).toInt) (b := e_le.toInt) rfl rfl c_109
                              exact W.vret hx hb hr (fun t ht hW => ⟨⟨[(a_k, (oc5 a_h a_j a_pt e_ln e_se e_lh ((e_br * (10 - z103)) / 10) e_we (e_me ||| (1 <<< (z5 &&& 31))) e_ce e_wy e_ho 1)), (a_h, (oc1 e_wa e_le e_st e_fo e_lc a_l a_g a_b a_s a_p a_w e_gb a_bb)), (a_g, (oc6 6 5 a_gn e_g)), (a_gn, (arI G 30 f_g)), (a_j, (oc2 a_as a_sk)), (a_as, (arI G 8 z16)), (a_sk, (arJ G 50 z85)), (a_l, (arW G 6 f_l)), (a_lo, (oc3 e_cl a_hd a_sr a_cd)), (a_sr, (arI G n_sr f_sr)), (a_cd, (arI G n_cd f_cd)), (a_hd, (arI G n_hd f_hd))], rfl, Or.inl (⟨((e_br * (10 - z103)) / 10), (e_me ||| (1 <<< (z5 &&& 31))), z16, z85, ⟨by omega, by omega⟩, by rw [met_c hGF (by omega) hc1_14 rfl rfl hc4_20 e_f4, tn_2 hNS hV_79 (by omega) hV_105 rfl (by omega)]; exact ⟨rfl, rfl, rfl⟩, rfl⟩), by rw [ht]; exact hP.sub [2, 0, 10, 11, 3, 4, 5, 1, 6, 7, 8, 9] rfl, hD.sub [2, 0, 10, 11, 3, 4, 5, 1, 6, 7, 8, 9] (by decide +kernel) rfl⟩, hS.F ht⟩) hS.2.2 dX5_meetGlass_277
                          ·
                            exact absurd c_101 (by decide +kernel)
                      ·
                        have i_81 : z77.toInt > e_ho.toInt := g5_leN (a := z77.toInt) (b := e_ho.toInt) rfl rfl c_81
                        exact W.vret hx hb hr (fun t ht hW => ⟨⟨[(a_k, (oc5 a_h a_j a_pt e_ln e_se e_lh e_br e_we (e_me ||| (1 <<< (z5 &&& 31))) e_ce e_wy e_ho 1)), (a_h, (oc1 e_wa e_le e_st e_fo e_lc a_l a_g a_b a_s a_p a_w e_gb a_bb)), (a_g, (oc6 6 5 a_gn e_g)), (a_gn, (arI G 30 f_g)), (a_j, (oc2 a_as a_sk)), (a_as, (arI G 8 z16)), (a_sk, (arJ G 50 z33)), (a_l, (arW G 6 f_l)), (a_lo, (oc3 e_cl a_hd a_sr a_cd)), (a_sr, (arI G n_sr f_sr)), (a_cd, (arI G n_cd f_cd)), (a_hd, (arI G n_hd f_hd))], rfl, Or.inl (⟨e_br, (e_me ||| (1 <<< (z5 &&& 31))), z16, z33, h_e_br, by rw [met_c hGF (by omega) hc1_14 rfl rfl hc4_20 e_f4, tn_1 hNS hV_79 (by omega)]; exact ⟨rfl, rfl, rfl⟩, rfl⟩), by rw [ht]; exact hP.sub [2, 0, 10, 11, 3, 4, 5, 1, 6, 7, 8, 9] rfl, hD.sub [2, 0, 10, 11, 3, 4, 5, 1, 6, 7, 8, 9] (by decide +kernel) rfl⟩, hS.F ht⟩) hS.2.2 dX5_meetGlass_212
                    ·
                      exact absurd c_75 (by decide +kernel)
                ·
                  have i_29 : z12.toInt ≥ 2 := g5_ltN (a := z12.toInt) (b := 2) rfl (by decide +kernel) c_29
                  refine lv_iload hx hb dX5_meetGlass_156 (lv_at hl 1 rfl) ?_
                  refine lv_iconst (v := 2) hx hb dX5_meetGlass_158 (by decide +kernel) ?_
                  refine lv_isub hx hb dX5_meetGlass_159 ?_
                  have t_115 : (z12 - 2).toInt = z12.toInt - 2 := g5_isub (a := z12.toInt) (b := 2) (by rfl) (by decide +kernel) (by omega) (by omega)
                  refine lv_aload_n hx hb dX5_meetGlass_160 rfl (lv_at hl 6 rfl) ?_
                  refine W.eq (g2 := F0 m 161 ls [.ref a_k, .int (z12 - 2)]) rfl ?_
                  refine va_get (D := G.1) (ci := 5) (v := .int e_wy) (C := RX5) (T := TX5) (N := 13) hx hb hts inG_X5 hown hK hP 2 rfl rfl 10 (by decide +kernel) (hts _ fl_X5_30) (fun _ h9 => h9) rfl dX5_meetGlass_161 ?_
                  refine lv_iconst (v := 2) hx hb dX5_meetGlass_164 (by decide +kernel) ?_
                  refine lv_ixor hx hb dX5_meetGlass_165 ?_
                  have hx_116 := (g_xor (w := e_wy) (by omega) (by omega)).2
                  refine lv_icmp_eq (tgt := 170) hx hb dX5_meetGlass_166 (by decide +kernel) (fun c_117 => ?_) (fun c_117 => ?_)
                  ·
                    have i_117 : (z12.toInt - 2) = (e_wy ^^^ 2).toInt := by have z := g5_eq (a := (z12 - 2).toInt) (b := (e_wy ^^^ 2).toInt) (by rfl) (by rfl) c_117; omega
                    have hNS : ¬ (isQ z18 e_ho ∨ toldW g_w 2 (askQ z5 e_ce e_ho e_wy (-1) e_ln e_br) ≠ none ∨ (2 ≤ z12.toInt ∧ e_wy.toInt ≠ z12.toInt % 4)) := ns_of (fun q9 => by unfold isQ at q9; unfold gNe at *; omega) (tW_of e_w (by decide +kernel) i_24) (fun q9 => by have q8 := wr_of (so := z12) (wy := e_wy) ⟨by omega, by omega⟩ ⟨by omega, by omega⟩; unfold gNe at *; omega)
                    refine lv_aload_n hx hb dX5_meetGlass_170 rfl (lv_at hl 6 rfl) ?_
                    refine va_get (D := G.1) (ci := 5) (v := .ref a_j) (C := RX5) (T := TX5) (N := 13) hx hb hts inG_X5 hown hK hP 2 rfl rfl 1 (by decide +kernel) (hts _ fl_X5_12) (fun _ h9 => h9) rfl dX5_meetGlass_171 ?_
                    refine lv_aload hx hb dX5_meetGlass_174 (lv_at hl 0 rfl) ?_
                    refine lv_iconst (v := 0) hx hb dX5_meetGlass_176 (by decide +kernel) ?_
                    refine W.eq (g2 := F0 m 177 ls [.int 0, .ref a_lo, .ref a_j]) rfl ?_
                    obtain ⟨hPc, hDc, hFc⟩ := g5_sub3 (wc := [(a_j, (oc2 a_as a_sk)), (a_as, (arI G 8 z16)), (a_sk, (arJ G 50 z25)), (a_lo, (oc3 e_cl a_hd a_sr a_cd)), (a_sr, (arI G n_sr f_sr)), (a_cd, (arI G n_cd f_cd)), (a_hd, (arI G n_hd f_hd))]) hP hD hS hA [5, 6, 7, 8, 9, 10, 11] (by decide +kernel) rfl
                    refine va_calli (va_runV (As := [.ref a_lo, .int 0]) (rest := []) ⟨hx, hb, hml, hown, hts⟩ (j_isHeldX l G a_j a_as a_sk a_lo a_sr a_cd a_hd H.size 0 e_cl z16 z25 f_sr f_cd f_hd (askQ z5 e_ce e_ho e_wy (-1) e_ln e_br) g_L n_sr n_cd n_hd h_e_cl (e_hn) (e_hs) (e_hk) (e_c) (i_15) (e_lw) (e_lv)) (cwV 2 hts gV_X5_124 rfl rfl rfl hv_X2_isHeld ⟨Nat.le_of_ble_eq_true rfl, Nat.le_of_ble_eq_true rfl⟩) (g5_preV hPc hK hDc hN hT hS hFc (ci := 2) (q0 := 0) rfl rfl) rfl rfl hl.1 rfl (lv_room (Nat.le_of_ble_eq_true rfl)) dX5_meetGlass_177 ⟨Nat.le_of_ble_eq_true rfl, Nat.le_of_ble_eq_true rfl⟩) hS (fun q _ h => hFc q h) hFc (fun r u t H locs ht hvm hw hB hz1 hk1 hS => ?_)
                    obtain ⟨hP1, hD1⟩ := hB
                    have hP1 := g5_ht ht hP1
                    rcases hw with ⟨z119, (i_118 : ∃ v : Int64, toldX g_L (0 : Int32).toInt (askQ z5 e_ce e_ho e_wy (-1) e_ln e_br) = some v ∧ ((0 : Int32).toInt < 2 → z119 0 = v)), rfl, rfl⟩ | ⟨z121, (i_120 : toldX g_L (0 : Int32).toInt (askQ z5 e_ce e_ho e_wy (-1) e_ln e_br) = none), rfl, rfl⟩
                    ·
                      have hJ9 := va_join (wr := [(a_h, (oc1 e_wa e_le e_st e_fo e_lc a_l a_g a_b a_s a_p a_w e_gb a_bb)), (a_l, (arW G 6 f_l)), (a_k, (oc5 a_h a_j a_pt e_ln e_se e_lh e_br e_we (e_me ||| (1 <<< (z5 &&& 31))) e_ce e_wy e_ho 1)), (a_g, (oc6 6 5 a_gn e_g)), (a_gn, (arI G 30 f_g))]) hP hD [5, 6, 7, 8, 9, 10, 11] [0, 1, 2, 3, 4] rfl rfl (by decide +kernel) (by decide +kernel) hk1 hFc hP1 hD1
                      clear hP hD hPc hDc hFc ht hvm hz1 hk1 hP1 hD1
                      obtain ⟨hP, hD⟩ := hJ9
                      refine g5_rs [(a_h, (oc1 e_wa e_le e_st e_fo e_lc a_l a_g a_b a_s a_p a_w e_gb a_bb)), (a_l, (arW G 6 f_l)), (a_k, (oc5 a_h a_j a_pt e_ln e_se e_lh e_br e_we (e_me ||| (1 <<< (z5 &&& 31))) e_ce e_wy e_ho 1)), (a_g, (oc6 6 5 a_gn e_g)), (a_gn, (arI G 30 f_g)), (a_j, (oc2 a_as a_sk)), (a_as, (arI G 8 z16)), (a_sk, (arJ G 50 z119)), (a_lo, (oc3 e_cl a_hd a_sr a_cd)), (a_sr, (arI G n_sr f_sr)), (a_cd, (arI G n_cd f_cd)), (a_hd, (arI G n_hd f_hd))] hP hD ?_
                      clear hP hD
                      intro hP hD
                      obtain ⟨v0_122, ht_122, hv_122⟩ := i_118
                      have hw_122 := hv_122 (by decide +kernel)
                      refine lv_if_eq (tgt := 195) hx hb dX5_meetGlass_180 (by decide +kernel) (fun c_123 => ?_) (fun c_123 => ?_)
                      ·
                        exact absurd c_123 (by decide +kernel)
                      ·
                        refine lv_aload_n hx hb dX5_meetGlass_183 rfl (lv_at hl 6 rfl) ?_
                        refine va_get (D := G.1) (ci := 5) (v := .ref a_j) (C := RX5) (T := TX5) (N := 13) hx hb hts inG_X5 hown hK hP 2 rfl rfl 1 (by decide +kernel) (hts _ fl_X5_12) (fun _ h9 => h9) rfl dX5_meetGlass_184 ?_
                        refine lv_bipush (v := 23) hx hb dX5_meetGlass_187 (by decide +kernel) ?_
                        obtain ⟨hPc, hDc, hFc⟩ := g5_sub3 (wc := [(a_j, (oc2 a_as a_sk)), (a_sk, (arJ G 50 z119))]) hP hD hS hA [5, 7] (by decide +kernel) rfl
                        refine va_calli (va_runV (As := [.int 23]) (rest := []) ⟨hx, hb, hml, hown, hts⟩ (j_toldX l G a_j a_sk a_as H.size 23 z119 ⟨by decide, by decide⟩) (cwV 1 hts gV_X5_134 rfl rfl rfl hv_X2_toldUpTo ⟨Nat.le_of_ble_eq_true rfl, Nat.le_of_ble_eq_true rfl⟩) (g5_preV hPc hK hDc hN hT hS hFc (ci := 2) (q0 := 0) rfl rfl) rfl rfl hl.1 rfl (lv_room (Nat.le_of_ble_eq_true rfl)) dX5_meetGlass_189 ⟨Nat.le_of_ble_eq_true rfl, Nat.le_of_ble_eq_true rfl⟩) hS (fun q _ h => hFc q h) hFc (fun r u t H locs ht hvm hw hB hz1 hk1 hS => ?_)
                        obtain ⟨hP1, hD1⟩ := hB
                        have hP1 := g5_ht ht hP1
                        obtain ⟨z126, (i_124 : 0 ≤ z126.toInt ∧ z126.toInt ≤ (23 : Int32).toInt), (i_125 : z126 = clampQ (z119 0) (23 : Int32)), y127, rfl⟩ := hw
                        have hJ9 := va_join (wr := [(a_h, (oc1 e_wa e_le e_st e_fo e_lc a_l a_g a_b a_s a_p a_w e_gb a_bb)), (a_l, (arW G 6 f_l)), (a_k, (oc5 a_h a_j a_pt e_ln e_se e_lh e_br e_we (e_me ||| (1 <<< (z5 &&& 31))) e_ce e_wy e_ho 1)), (a_g, (oc6 6 5 a_gn e_g)), (a_gn, (arI G 30 f_g)), (a_as, (arI G 8 z16)), (a_lo, (oc3 e_cl a_hd a_sr a_cd)), (a_sr, (arI G n_sr f_sr)), (a_cd, (arI G n_cd f_cd)), (a_hd, (arI G n_hd f_hd))]) hP hD [5, 7] [0, 1, 2, 3, 4, 6, 8, 9, 10, 11] rfl rfl (by decide +kernel) (by decide +kernel) hk1 hFc hP1 hD1
                        clear hP hD hPc hDc hFc ht hvm hz1 hk1 hP1 hD1
                        obtain ⟨hP, hD⟩ := hJ9
                        refine g5_rs [(a_h, (oc1 e_wa e_le e_st e_fo e_lc a_l a_g a_b a_s a_p a_w e_gb a_bb)), (a_l, (arW G 6 f_l)), (a_k, (oc5 a_h a_j a_pt e_ln e_se e_lh e_br e_we (e_me ||| (1 <<< (z5 &&& 31))) e_ce e_wy e_ho 1)), (a_g, (oc6 6 5 a_gn e_g)), (a_gn, (arI G 30 f_g)), (a_as, (arI G 8 z16)), (a_lo, (oc3 e_cl a_hd a_sr a_cd)), (a_sr, (arI G n_sr f_sr)), (a_cd, (arI G n_cd f_cd)), (a_hd, (arI G n_hd f_hd)), (a_j, (oc2 a_as a_sk)), (a_sk, (arJ G 50 z119))] hP hD ?_
                        clear hP hD
                        intro hP hD
                        refine g5_ti (v := z126) y127 ?_
                        refine W.eq (g2 := F0 m 192 ls [.int z126]) rfl ?_
                        refine lv_goto (tgt := 201) hx hb dX5_meetGlass_192 (by decide +kernel) ?_
                        have hV_128 : z126 = tellQ (toldW g_w 0 (askQ z5 e_ce e_ho e_wy (-1) e_ln e_br)) (f_ro (80 + 5 * z5.toInt.toNat + 2)) 23 := tell_s (tW_of e_w (by decide +kernel) ht_122) (by rw [i_125, hw_122])
                        have hr_128 : 0 ≤ z126.toInt ∧ z126.toInt ≤ 23 := ⟨by omega, by have zk : (23 : Int32).toInt = 23 := (by decide +kernel); omega⟩
                        refine lv_istore (lv' := [(7, .int z126), (6, .ref a_lo), (5, .int z12), (4, .int z5), (3, .int z5), (2, .ref a_g), (1, .int z5), (0, .ref a_k)]) hx hb dX5_meetGlass_201 hl (by decide +kernel) rfl ?_
                        clear hl
                        intro ls hl
                        refine lv_iload hx hb dX5_meetGlass_203 (lv_at hl 0 rfl) ?_
                        refine lv_aload_n hx hb dX5_meetGlass_205 rfl (lv_at hl 7 rfl) ?_
                        refine va_get (D := G.1) (ci := 5) (v := .int e_ho) (C := RX5) (T := TX5) (N := 13) hx hb hts inG_X5 hown hK hP 2 rfl rfl 11 (by decide +kernel) (hts _ fl_X5_33) (fun _ h9 => h9) rfl dX5_meetGlass_206 ?_
                        refine W.eq (g2 := F0 m 209 ls [.int e_ho, .int z126]) rfl ?_
                        refine lv_icmp_le (tgt := 213) hx hb dX5_meetGlass_209 (by decide +kernel) (fun c_129 => ?_) (fun c_129 => ?_)
                        ·
                          have i_129 : z126.toInt ≤ e_ho.toInt := g5_le (a := z126.toInt) (b := e_ho.toInt) rfl rfl c_129
                          refine lv_aload_n hx hb dX5_meetGlass_213 rfl (lv_at hl 7 rfl) ?_
                          refine va_get (D := G.1) (ci := 5) (v := .ref a_j) (C := RX5) (T := TX5) (N := 13) hx hb hts inG_X5 hown hK hP 2 rfl rfl 1 (by decide +kernel) (hts _ fl_X5_12) (fun _ h9 => h9) rfl dX5_meetGlass_214 ?_
                          refine lv_aload hx hb dX5_meetGlass_217 (lv_at hl 1 rfl) ?_
                          refine lv_iconst (v := 1) hx hb dX5_meetGlass_219 (by decide +kernel) ?_
                          refine W.eq (g2 := F0 m 220 ls [.int 1, .ref a_lo, .ref a_j]) rfl ?_
                          obtain ⟨hPc, hDc, hFc⟩ := g5_sub3 (wc := [(a_j, (oc2 a_as a_sk)), (a_as, (arI G 8 z16)), (a_sk, (arJ G 50 z119)), (a_lo, (oc3 e_cl a_hd a_sr a_cd)), (a_sr, (arI G n_sr f_sr)), (a_cd, (arI G n_cd f_cd)), (a_hd, (arI G n_hd f_hd))]) hP hD hS hA [10, 5, 11, 6, 7, 8, 9] (by decide +kernel) rfl
                          refine va_calli (va_runV (As := [.ref a_lo, .int 1]) (rest := []) ⟨hx, hb, hml, hown, hts⟩ (j_isHeldX l G a_j a_as a_sk a_lo a_sr a_cd a_hd H.size 1 e_cl z16 z119 f_sr f_cd f_hd (askQ z5 e_ce e_ho e_wy (-1) e_ln e_br) g_L n_sr n_cd n_hd h_e_cl (e_hn) (e_hs) (e_hk) (e_c) (i_15) (e_lw) (e_lv)) (cwV 2 hts gV_X5_124 rfl rfl rfl hv_X2_isHeld ⟨Nat.le_of_ble_eq_true rfl, Nat.le_of_ble_eq_true rfl⟩) (g5_preV hPc hK hDc hN hT hS hFc (ci := 2) (q0 := 0) rfl rfl) rfl rfl hl.1 rfl (lv_room (Nat.le_of_ble_eq_true rfl)) dX5_meetGlass_220 ⟨Nat.le_of_ble_eq_true rfl, Nat.le_of_ble_eq_true rfl⟩) hS (fun q _ h => hFc q h) hFc (fun r u t H locs ht hvm hw hB hz1 hk1 hS => ?_)
                          obtain ⟨hP1, hD1⟩ := hB
                          have hP1 := g5_ht ht hP1
                          rcases hw with ⟨z131, (i_130 : ∃ v : Int64, toldX g_L (1 : Int32).toInt (askQ z5 e_ce e_ho e_wy (-1) e_ln e_br) = some v ∧ ((1 : Int32).toInt < 2 → z131 0 = v)), rfl, rfl⟩ | ⟨z133, (i_132 : toldX g_L (1 : Int32).toInt (askQ z5 e_ce e_ho e_wy (-1) e_ln e_br) = none), rfl, rfl⟩
                          ·
                            have hJ9 := va_join (wr := [(a_h, (oc1 e_wa e_le e_st e_fo e_lc a_l a_g a_b a_s a_p a_w e_gb a_bb)), (a_l, (arW G 6 f_l)), (a_k, (oc5 a_h a_j a_pt e_ln e_se e_lh e_br e_we (e_me ||| (1 <<< (z5 &&& 31))) e_ce e_wy e_ho 1)), (a_g, (oc6 6 5 a_gn e_g)), (a_gn, (arI G 30 f_g))]) hP hD [10, 5, 11, 6, 7, 8, 9] [0, 1, 2, 3, 4] rfl rfl (by decide +kernel) (by decide +kernel) hk1 hFc hP1 hD1
                            clear hP hD hPc hDc hFc ht hvm hz1 hk1 hP1 hD1
                            obtain ⟨hP, hD⟩ := hJ9
                            refine g5_rs [(a_h, (oc1 e_wa e_le e_st e_fo e_lc a_l a_g a_b a_s a_p a_w e_gb a_bb)), (a_l, (arW G 6 f_l)), (a_k, (oc5 a_h a_j a_pt e_ln e_se e_lh e_br e_we (e_me ||| (1 <<< (z5 &&& 31))) e_ce e_wy e_ho 1)), (a_g, (oc6 6 5 a_gn e_g)), (a_gn, (arI G 30 f_g)), (a_j, (oc2 a_as a_sk)), (a_as, (arI G 8 z16)), (a_sk, (arJ G 50 z131)), (a_lo, (oc3 e_cl a_hd a_sr a_cd)), (a_sr, (arI G n_sr f_sr)), (a_cd, (arI G n_cd f_cd)), (a_hd, (arI G n_hd f_hd))] hP hD ?_
                            clear hP hD
                            intro hP hD
                            obtain ⟨v1_134, ht_134, hv_134⟩ := i_130
                            have hw_134 := hv_134 (by decide +kernel)
                            refine lv_if_eq (tgt := 238) hx hb dX5_meetGlass_223 (by decide +kernel) (fun c_135 => ?_) (fun c_135 => ?_)
                            ·
                              exact absurd c_135 (by decide +kernel)
                            ·
                              refine lv_aload_n hx hb dX5_meetGlass_226 rfl (lv_at hl 7 rfl) ?_
                              refine va_get (D := G.1) (ci := 5) (v := .ref a_j) (C := RX5) (T := TX5) (N := 13) hx hb hts inG_X5 hown hK hP 2 rfl rfl 1 (by decide +kernel) (hts _ fl_X5_12) (fun _ h9 => h9) rfl dX5_meetGlass_227 ?_
                              refine lv_bipush (v := 10) hx hb dX5_meetGlass_230 (by decide +kernel) ?_
                              obtain ⟨hPc, hDc, hFc⟩ := g5_sub3 (wc := [(a_j, (oc2 a_as a_sk)), (a_sk, (arJ G 50 z131))]) hP hD hS hA [5, 7] (by decide +kernel) rfl
                              refine va_calli (va_runV (As := [.int 10]) (rest := []) ⟨hx, hb, hml, hown, hts⟩ (j_toldX l G a_j a_sk a_as H.size 10 z131 ⟨by decide, by decide⟩) (cwV 1 hts gV_X5_134 rfl rfl rfl hv_X2_toldUpTo ⟨Nat.le_of_ble_eq_true rfl, Nat.le_of_ble_eq_true rfl⟩) (g5_preV hPc hK hDc hN hT hS hFc (ci := 2) (q0 := 0) rfl rfl) rfl rfl hl.1 rfl (lv_room (Nat.le_of_ble_eq_true rfl)) dX5_meetGlass_232 ⟨Nat.le_of_ble_eq_true rfl, Nat.le_of_ble_eq_true rfl⟩) hS (fun q _ h => hFc q h) hFc (fun r u t H locs ht hvm hw hB hz1 hk1 hS => ?_)
                              obtain ⟨hP1, hD1⟩ := hB
                              have hP1 := g5_ht ht hP1
                              obtain ⟨z138, (i_136 : 0 ≤ z138.toInt ∧ z138.toInt ≤ (10 : Int32).toInt), (i_137 : z138 = clampQ (z131 0) (10 : Int32)), y139, rfl⟩ := hw
                              have hJ9 := va_join (wr := [(a_h, (oc1 e_wa e_le e_st e_fo e_lc a_l a_g a_b a_s a_p a_w e_gb a_bb)), (a_l, (arW G 6 f_l)), (a_k, (oc5 a_h a_j a_pt e_ln e_se e_lh e_br e_we (e_me ||| (1 <<< (z5 &&& 31))) e_ce e_wy e_ho 1)), (a_g, (oc6 6 5 a_gn e_g)), (a_gn, (arI G 30 f_g)), (a_as, (arI G 8 z16)), (a_lo, (oc3 e_cl a_hd a_sr a_cd)), (a_sr, (arI G n_sr f_sr)), (a_cd, (arI G n_cd f_cd)), (a_hd, (arI G n_hd f_hd))]) hP hD [5, 7] [0, 1, 2, 3, 4, 6, 8, 9, 10, 11] rfl rfl (by decide +kernel) (by decide +kernel) hk1 hFc hP1 hD1
                              clear hP hD hPc hDc hFc ht hvm hz1 hk1 hP1 hD1
                              obtain ⟨hP, hD⟩ := hJ9
                              refine g5_rs [(a_h, (oc1 e_wa e_le e_st e_fo e_lc a_l a_g a_b a_s a_p a_w e_gb a_bb)), (a_l, (arW G 6 f_l)), (a_k, (oc5 a_h a_j a_pt e_ln e_se e_lh e_br e_we (e_me ||| (1 <<< (z5 &&& 31))) e_ce e_wy e_ho 1)), (a_g, (oc6 6 5 a_gn e_g)), (a_gn, (arI G 30 f_g)), (a_as, (arI G 8 z16)), (a_lo, (oc3 e_cl a_hd a_sr a_cd)), (a_sr, (arI G n_sr f_sr)), (a_cd, (arI G n_cd f_cd)), (a_hd, (arI G n_hd f_hd)), (a_j, (oc2 a_as a_sk)), (a_sk, (arJ G 50 z131))] hP hD ?_
                              clear hP hD
                              intro hP hD
                              refine g5_ti (v := z138) y139 ?_
                              refine W.eq (g2 := F0 m 235 ls [.int z138]) rfl ?_
                              refine lv_goto (tgt := 244) hx hb dX5_meetGlass_235 (by decide +kernel) ?_
                              have hV_140 : z138 = tellQ (toldW g_w 1 (askQ z5 e_ce e_ho e_wy (-1) e_ln e_br)) (f_ro (80 + 5 * z5.toInt.toNat + 3)) 10 := tell_s (tW_of e_w (by decide +kernel) ht_134) (by rw [i_137, hw_134])
                              have hr_140 : 0 ≤ z138.toInt ∧ z138.toInt ≤ 10 := ⟨by omega, by have zk : (10 : Int32).toInt = 10 := (by decide +kernel); omega⟩
                              refine lv_istore (lv' := [(8, .int z138), (7, .int z126), (6, .ref a_lo), (5, .int z12), (4, .int z5), (3, .int z5), (2, .ref a_g), (1, .int z5), (0, .ref a_k)]) hx hb dX5_meetGlass_244 hl (by decide +kernel) rfl ?_
                              clear hl
                              intro ls hl
                              refine lv_aload_n hx hb dX5_meetGlass_246 rfl (lv_at hl 8 rfl) ?_
                              refine lv_aload_n hx hb dX5_meetGlass_247 rfl (lv_at hl 8 rfl) ?_
                              refine va_get (D := G.1) (ci := 5) (v := .int e_br) (C := RX5) (T := TX5) (N := 13) hx hb hts inG_X5 hown hK hP 2 rfl rfl 6 (by decide +kernel) (hts _ fl_X5_46) (fun _ h9 => h9) rfl dX5_meetGlass_248 ?_
                              refine W.eq (g2 := F0 m 251 ls [.int e_br, .ref a_k]) rfl ?_
                              refine lv_bipush (v := 10) hx hb dX5_meetGlass_251 (by decide +kernel) ?_
                              refine lv_iload hx hb dX5_meetGlass_253 (lv_at hl 0 rfl) ?_
                              refine lv_isub hx hb dX5_meetGlass_255 ?_
                              have t_141 : (10 - z138).toInt = 10 - z138.toInt := g5_isub (a := 10) (b := z138.toInt) (by decide +kernel) (by rfl) (by omega) (by omega)
                              refine lv_imul hx hb dX5_meetGlass_256 ?_
                              refine lv_bipush (v := 10) hx hb dX5_meetGlass_257 (by decide +kernel) ?_
                              refine W.eq (g2 := F0 m 259 ls [.int 10, .int (e_br * (10 - z138)), .ref a_k]) rfl ?_
                              refine lv_idiv hx hb dX5_meetGlass_259 (by decide +kernel) ?_
                              have hb_142 : 0 ≤ ((e_br * (10 - z138)) / 10).toInt ∧ ((e_br * (10 - z138)) / 10).toInt ≤ 1000000 := g_dust (by omega) (by omega)
                              refine va_put (D := G.1) (ci := 5) (v := .int ((e_br * (10 - z138)) / 10)) (ty := .int) (C := RX5) (T := TX5) (N := 13) hx hb hts inG_X5 tyX5 tyX5_ok nmX5 hown hK hP hD hS 2 rfl rfl 6 (by decide +kernel) (hts _ fl_X5_46) (fun _ h9 => h9) rfl (by decide +kernel) rfl rfl (Nat.le_of_ble_eq_true rfl) dX5_meetGlass_260 ?_
                              clear hP hD hS
                              intro H locs hP hD hS
                              refine g5_rs [(a_h, (oc1 e_wa e_le e_st e_fo e_lc a_l a_g a_b a_s a_p a_w e_gb a_bb)), (a_l, (arW G 6 f_l)), (a_k, (oc5 a_h a_j a_pt e_ln e_se e_lh ((e_br * (10 - z138)) / 10) e_we (e_me ||| (1 <<< (z5 &&& 31))) e_ce e_wy e_ho 1)), (a_g, (oc6 6 5 a_gn e_g)), (a_gn, (arI G 30 f_g)), (a_as, (arI G 8 z16)), (a_lo, (oc3 e_cl a_hd a_sr a_cd)), (a_sr, (arI G n_sr f_sr)), (a_cd, (arI G n_cd f_cd)), (a_hd, (arI G n_hd f_hd)), (a_j, (oc2 a_as a_sk)), (a_sk, (arJ G 50 z131))] hP hD ?_
                              clear hP hD
                              intro hP hD
                              refine lv_aload_n hx hb dX5_meetGlass_263 rfl (lv_at hl 8 rfl) ?_
                              refine va_get (D := G.1) (ci := 5) (v := .int ((e_br * (10 - z138)) / 10)) (C := RX5) (T := TX5) (N := 13) hx hb hts inG_X5 hown hK hP 2 rfl rfl 6 (by decide +kernel) (hts _ fl_X5_46) (fun _ h9 => h9) rfl dX5_meetGlass_264 ?_
                              refine lv_aload_n hx hb dX5_meetGlass_267 rfl (lv_at hl 8 rfl) ?_
                              refine W.eq (g2 := F0 m 268 ls [.ref a_k, .int ((e_br * (10 - z138)) / 10)]) rfl ?_
                              refine va_get (D := G.1) (ci := 5) (v := .ref a_h) (C := RX5) (T := TX5) (N := 13) hx hb hts inG_X5 hown hK hP 2 rfl rfl 0 (by decide +kernel) (hts _ fl_X5_22) (fun _ h9 => h9) rfl dX5_meetGlass_268 ?_
                              refine va_get (D := G.1) (ci := 1) (v := .int e_le) (C := RX1) (T := TX1) (N := 13) hx hb hts inG_X1 hown hK hP 0 rfl rfl 1 (by decide +kernel) (hts _ fl_X5_138) (fun _ h9 => h9) rfl dX5_meetGlass_271 ?_
                              refine lv_icmp_ge (tgt := 278) hx hb dX5_meetGlass_274 (by decide +kernel) (fun c_143 => ?_) (fun c_143 => ?_)
                              ·
                                have i_143 : ((e_br * (10 - z138)) / 10).toInt ≥ e_le.toInt := g5_ge (a := ((e_br * (10 - z138)) / 10).toInt) (b := e_le.toInt) rfl rfl c_143
                                refine lv_aload_n hx hb dX5_meetGlass_278 rfl (lv_at hl 8 rfl) ?_
                                refine lv_dup hx hb dX5_meetGlass_279 rfl ?_
                                refine va_get (D := G.1) (ci := 5) (v := .int e_ho) (C := RX5) (T := TX5) (N := 13) hx hb hts inG_X5 hown hK hP 2 rfl rfl 11 (by decide +kernel) (hts _ fl_X5_33) (fun _ h9 => h9) rfl dX5_meetGlass_280 ?_
                                refine lv_iload hx hb dX5_meetGlass_283 (lv_at hl 1 rfl) ?_
                                refine W.eq (g2 := F0 m 285 ls [.int z126, .int e_ho, .ref a_k]) rfl ?_
                                refine lv_isub hx hb dX5_meetGlass_285 ?_
                                have t_144 : (e_ho - z126).toInt = e_ho.toInt - z126.toInt := g5_isub (a := e_ho.toInt) (b := z126.toInt) (by rfl) (by rfl) (by omega) (by omega)
                                refine va_put (D := G.1) (ci := 5) (v := .int (e_ho - z126)) (ty := .int) (C := RX5) (T := TX5) (N := 13) hx hb hts inG_X5 tyX5 tyX5_ok nmX5 hown hK hP hD hS 2 rfl rfl 11 (by decide +kernel) (hts _ fl_X5_33) (fun _ h9 => h9) rfl (by decide +kernel) rfl rfl (Nat.le_of_ble_eq_true rfl) dX5_meetGlass_286 ?_
                                clear hP hD hS
                                intro H locs hP hD hS
                                refine g5_rs [(a_h, (oc1 e_wa e_le e_st e_fo e_lc a_l a_g a_b a_s a_p a_w e_gb a_bb)), (a_l, (arW G 6 f_l)), (a_k, (oc5 a_h a_j a_pt e_ln e_se e_lh ((e_br * (10 - z138)) / 10) e_we (e_me ||| (1 <<< (z5 &&& 31))) e_ce e_wy (e_ho - z126) 1)), (a_g, (oc6 6 5 a_gn e_g)), (a_gn, (arI G 30 f_g)), (a_as, (arI G 8 z16)), (a_lo, (oc3 e_cl a_hd a_sr a_cd)), (a_sr, (arI G n_sr f_sr)), (a_cd, (arI G n_cd f_cd)), (a_hd, (arI G n_hd f_hd)), (a_j, (oc2 a_as a_sk)), (a_sk, (arJ G 50 z131))] hP hD ?_
                                clear hP hD
                                intro hP hD
                                refine lv_aload_n hx hb dX5_meetGlass_289 rfl (lv_at hl 8 rfl) ?_
                                refine lv_iload hx hb dX5_meetGlass_290 (lv_at hl 3 rfl) ?_
                                refine lv_if_ne (tgt := 304) hx hb dX5_meetGlass_292 (by decide +kernel) (fun c_145 => ?_) (fun c_145 => ?_)
                                ·
                                  have n_145 : gNe (z12.toInt) (0) := g5_ne (a := z12.toInt) (b := 0) rfl (by decide +kernel) c_145
                                  refine lv_iload hx hb dX5_meetGlass_304 (lv_at hl 3 rfl) ?_
                                  refine lv_iconst (v := 1) hx hb dX5_meetGlass_306 (by decide +kernel) ?_
                                  refine lv_icmp_ne (tgt := 319) hx hb dX5_meetGlass_307 (by decide +kernel) (fun c_146 => ?_) (fun c_146 => ?_)
                                  ·
                                    have n_146 : gNe (z12.toInt) (1) := g5_ne (a := z12.toInt) (b := 1) rfl (by decide +kernel) c_146
                                    refine lv_aload_n hx hb dX5_meetGlass_319 rfl (lv_at hl 8 rfl) ?_
                                    refine va_get (D := G.1) (ci := 5) (v := .int e_wy) (C := RX5) (T := TX5) (N := 13) hx hb hts inG_X5 hown hK hP 2 rfl rfl 10 (by decide +kernel) (hts _ fl_X5_30) (fun _ h9 => h9) rfl dX5_meetGlass_320 ?_
                                    refine lv_iconst (v := 2) hx hb dX5_meetGlass_323 (by decide +kernel) ?_
                                    refine lv_ixor hx hb dX5_meetGlass_324 ?_
                                    have hx_147 := (g_xor (w := e_wy) (by omega) (by omega)).2
                                    refine W.eq (g2 := F0 m 325 ls [.int (e_wy ^^^ 2), .ref a_k]) rfl ?_
                                    refine va_put (D := G.1) (ci := 5) (v := .int (e_wy ^^^ 2)) (ty := .int) (C := RX5) (T := TX5) (N := 13) hx hb hts inG_X5 tyX5 tyX5_ok nmX5 hown hK hP hD hS 2 rfl rfl 10 (by decide +kernel) (hts _ fl_X5_30) (fun _ h9 => h9) rfl (by decide +kernel) rfl rfl (Nat.le_of_ble_eq_true rfl) dX5_meetGlass_325 ?_
                                    clear hP hD hS
                                    intro H locs hP hD hS
                                    refine g5_rs [(a_h, (oc1 e_wa e_le e_st e_fo e_lc a_l a_g a_b a_s a_p a_w e_gb a_bb)), (a_l, (arW G 6 f_l)), (a_k, (oc5 a_h a_j a_pt e_ln e_se e_lh ((e_br * (10 - z138)) / 10) e_we (e_me ||| (1 <<< (z5 &&& 31))) e_ce (e_wy ^^^ 2) (e_ho - z126) 1)), (a_g, (oc6 6 5 a_gn e_g)), (a_gn, (arI G 30 f_g)), (a_as, (arI G 8 z16)), (a_lo, (oc3 e_cl a_hd a_sr a_cd)), (a_sr, (arI G n_sr f_sr)), (a_cd, (arI G n_cd f_cd)), (a_hd, (arI G n_hd f_hd)), (a_j, (oc2 a_as a_sk)), (a_sk, (arJ G 50 z131))] hP hD ?_
                                    clear hP hD
                                    intro hP hD
                                    refine lv_aload_n hx hb dX5_meetGlass_328 rfl (lv_at hl 8 rfl) ?_
                                    refine lv_dup hx hb dX5_meetGlass_329 rfl ?_
                                    refine va_get (D := G.1) (ci := 5) (v := .int e_we) (C := RX5) (T := TX5) (N := 13) hx hb hts inG_X5 hown hK hP 2 rfl rfl 7 (by decide +kernel) (hts _ fl_X5_49) (fun _ h9 => h9) rfl dX5_meetGlass_330 ?_
                                    refine lv_iconst (v := 1) hx hb dX5_meetGlass_333 (by decide +kernel) ?_
                                    refine W.eq (g2 := F0 m 334 ls [.int 1, .int e_we, .ref a_k]) rfl ?_
                                    refine lv_iload hx hb dX5_meetGlass_334 (lv_at hl 4 rfl) ?_
                                    refine lv_ishl hx hb dX5_meetGlass_336 ?_
                                    refine lv_ior hx hb dX5_meetGlass_337 ?_
                                    refine va_put (D := G.1) (ci := 5) (v := .int (e_we ||| (1 <<< (z5 &&& 31)))) (ty := .int) (C := RX5) (T := TX5) (N := 13) hx hb hts inG_X5 tyX5 tyX5_ok nmX5 hown hK hP hD hS 2 rfl rfl 7 (by decide +kernel) (hts _ fl_X5_49) (fun _ h9 => h9) rfl (by decide +kernel) rfl rfl (Nat.le_of_ble_eq_true rfl) dX5_meetGlass_338 ?_
                                    clear hP hD hS
                                    intro H locs hP hD hS
                                    refine g5_rs [(a_h, (oc1 e_wa e_le e_st e_fo e_lc a_l a_g a_b a_s a_p a_w e_gb a_bb)), (a_l, (arW G 6 f_l)), (a_k, (oc5 a_h a_j a_pt e_ln e_se e_lh ((e_br * (10 - z138)) / 10) (e_we ||| (1 <<< (z5 &&& 31))) (e_me ||| (1 <<< (z5 &&& 31))) e_ce (e_wy ^^^ 2) (e_ho - z126) 1)), (a_g, (oc6 6 5 a_gn e_g)), (a_gn, (arI G 30 f_g)), (a_as, (arI G 8 z16)), (a_lo, (oc3 e_cl a_hd a_sr a_cd)), (a_sr, (arI G n_sr f_sr)), (a_cd, (arI G n_cd f_cd)), (a_hd, (arI G n_hd f_hd)), (a_j, (oc2 a_as a_sk)), (a_sk, (arJ G 50 z131))] hP hD ?_
                                    clear hP hD
                                    intro hP hD
                                    refine lv_aload_n hx hb dX5_meetGlass_341 rfl (lv_at hl 8 rfl) ?_
                                    refine W.eq (g2 := F0 m 342 ls [.ref a_k]) rfl ?_
                                    refine lv_iconst (v := 0) hx hb dX5_meetGlass_342 (by decide +kernel) ?_
                                    refine va_put (D := G.1) (ci := 5) (v := .int 0) (ty := .boolean) (C := RX5) (T := TX5) (N := 13) hx hb hts inG_X5 tyX5 tyX5_ok nmX5 hown hK hP hD hS 2 rfl rfl 12 (by decide +kernel) (hts _ fl_X5_56) (fun _ h9 => h9) rfl (by decide +kernel) rfl rfl (Nat.le_of_ble_eq_true rfl) dX5_meetGlass_343 ?_
                                    clear hP hD hS
                                    intro H locs hP hD hS
                                    refine g5_rs [(a_h, (oc1 e_wa e_le e_st e_fo e_lc a_l a_g a_b a_s a_p a_w e_gb a_bb)), (a_l, (arW G 6 f_l)), (a_k, (oc5 a_h a_j a_pt e_ln e_se e_lh ((e_br * (10 - z138)) / 10) (e_we ||| (1 <<< (z5 &&& 31))) (e_me ||| (1 <<< (z5 &&& 31))) e_ce (e_wy ^^^ 2) (e_ho - z126) 0)), (a_g, (oc6 6 5 a_gn e_g)), (a_gn, (arI G 30 f_g)), (a_as, (arI G 8 z16)), (a_lo, (oc3 e_cl a_hd a_sr a_cd)), (a_sr, (arI G n_sr f_sr)), (a_cd, (arI G n_cd f_cd)), (a_hd, (arI G n_hd f_hd)), (a_j, (oc2 a_as a_sk)), (a_sk, (arJ G 50 z131))] hP hD ?_
                                    clear hP hD
                                    intro hP hD
                                    exact W.vret hx hb hr (fun t ht hW => ⟨⟨[(a_k, (oc5 a_h a_j a_pt e_ln e_se e_lh ((e_br * (10 - z138)) / 10) (e_we ||| (1 <<< (z5 &&& 31))) (e_me ||| (1 <<< (z5 &&& 31))) e_ce (e_wy ^^^ 2) (e_ho - z126) 0)), (a_h, (oc1 e_wa e_le e_st e_fo e_lc a_l a_g a_b a_s a_p a_w e_gb a_bb)), (a_g, (oc6 6 5 a_gn e_g)), (a_gn, (arI G 30 f_g)), (a_j, (oc2 a_as a_sk)), (a_as, (arI G 8 z16)), (a_sk, (arJ G 50 z131)), (a_l, (arW G 6 f_l)), (a_lo, (oc3 e_cl a_hd a_sr a_cd)), (a_sr, (arI G n_sr f_sr)), (a_cd, (arI G n_cd f_cd)), (a_hd, (arI G n_hd f_hd))], rfl, Or.inr (⟨((e_br * (10 - z138)) / 10), (e_we ||| (1 <<< (z5 &&& 31))), (e_me ||| (1 <<< (z5 &&& 31))), (e_wy ^^^ 2), (e_ho - z126), z16, z131, ⟨by omega, by omega⟩, ⟨by omega, by omega⟩, ⟨by omega, by omega⟩, by rw [met_c hGF (by omega) hc1_14 rfl rfl hc4_20 e_f4, tn_3 hNS hV_128 (by omega) hV_140 rfl (by omega), nw_2 (so := z12) (by first | omega | (unfold gNe at *; omega)) (by first | omega | (unfold gNe at *; omega))], rfl⟩), by rw [ht]; exact hP.sub [2, 0, 3, 4, 10, 5, 11, 1, 6, 7, 8, 9] rfl, hD.sub [2, 0, 3, 4, 10, 5, 11, 1, 6, 7, 8, 9] (by decide +kernel) rfl⟩, hS.F ht⟩) hS.2.2 dX5_meetGlass_346
                                  ·
                                    have i_146 : z12.toInt = 1 := g5_neN (a := z12.toInt) (b := 1) rfl (by decide +kernel) c_146
                                    omega
                                ·
                                  have i_145 : z12.toInt = 0 := g5_neN (a := z12.toInt) (b := 0) rfl (by decide +kernel) c_145
                                  omega
                              ·
                                have i_143 : ((e_br * (10 - z138)) / 10).toInt < e_le.toInt := g5_geN (a := ((e_br * (10 - z138)) / 10).toInt) (b := e_le.toInt) rfl rfl c_143
                                exact W.vret hx hb hr (fun t ht hW => ⟨⟨[(a_k, (oc5 a_h a_j a_pt e_ln e_se e_lh ((e_br * (10 - z138)) / 10) e_we (e_me ||| (1 <<< (z5 &&& 31))) e_ce e_wy e_ho 1)), (a_h, (oc1 e_wa e_le e_st e_fo e_lc a_l a_g a_b a_s a_p a_w e_gb a_bb)), (a_g, (oc6 6 5 a_gn e_g)), (a_gn, (arI G 30 f_g)), (a_j, (oc2 a_as a_sk)), (a_as, (arI G 8 z16)), (a_sk, (arJ G 50 z131)), (a_l, (arW G 6 f_l)), (a_lo, (oc3 e_cl a_hd a_sr a_cd)), (a_sr, (arI G n_sr f_sr)), (a_cd, (arI G n_cd f_cd)), (a_hd, (arI G n_hd f_hd))], rfl, Or.inl (⟨((e_br * (10 - z138)) / 10), (e_me ||| (1 <<< (z5 &&& 31))), z16, z131, ⟨by omega, by omega⟩, by rw [met_c hGF (by omega) hc1_14 rfl rfl hc4_20 e_f4, tn_2 hNS hV_128 (by omega) hV_140 rfl (by omega)]; exact ⟨rfl, rfl, rfl⟩, rfl⟩), by rw [ht]; exact hP.sub [2, 0, 3, 4, 10, 5, 11, 1, 6, 7, 8, 9] rfl, hD.sub [2, 0, 3, 4, 10, 5, 11, 1, 6, 7, 8, 9] (by decide +kernel) rfl⟩, hS.F ht⟩) hS.2.2 dX5_meetGlass_277
                          ·
                            have hJ9 := va_join (wr := [(a_h, (oc1 e_wa e_le e_st e_fo e_lc a_l a_g a_b a_s a_p a_w e_gb a_bb)), (a_l, (arW G 6 f_l)), (a_k, (oc5 a_h a_j a_pt e_ln e_se e_lh e_br e_we (e_me ||| (1 <<< (z5 &&& 31))) e_ce e_wy e_ho 1)), (a_g, (oc6 6 5 a_gn e_g)), (a_gn, (arI G 30 f_g))]) hP hD [10, 5, 11, 6, 7, 8, 9] [0, 1, 2, 3, 4] rfl rfl (by decide +kernel) (by decide +kernel) hk1 hFc hP1 hD1
                            clear hP hD hPc hDc hFc ht hvm hz1 hk1 hP1 hD1
                            obtain ⟨hP, hD⟩ := hJ9
                            refine g5_rs [(a_h, (oc1 e_wa e_le e_st e_fo e_lc a_l a_g a_b a_s a_p a_w e_gb a_bb)), (a_l, (arW G 6 f_l)), (a_k, (oc5 a_h a_j a_pt e_ln e_se e_lh e_br e_we (e_me ||| (1 <<< (z5 &&& 31))) e_ce e_wy e_ho 1)), (a_g, (oc6 6 5 a_gn e_g)), (a_gn, (arI G 30 f_g)), (a_j, (oc2 a_as a_sk)), (a_as, (arI G 8 z16)), (a_sk, (arJ G 50 z133)), (a_lo, (oc3 e_cl a_hd a_sr a_cd)), (a_sr, (arI G n_sr f_sr)), (a_cd, (arI G n_cd f_cd)), (a_hd, (arI G n_hd f_hd))] hP hD ?_
                            clear hP hD
                            intro hP hD
                            refine lv_if_eq (tgt := 238) hx hb dX5_meetGlass_223 (by decide +kernel) (fun c_148 => ?_) (fun c_148 => ?_)
                            ·
                              refine lv_aload_n hx hb dX5_meetGlass_238 rfl (lv_at hl 5 rfl) ?_
                              refine lv_iload_n hx hb dX5_meetGlass_239 rfl (lv_at hl 4 rfl) ?_
                              refine lv_iconst (v := 3) hx hb dX5_meetGlass_240 (by decide +kernel) ?_
                              obtain ⟨hPc, hDc, hFc⟩ := g5_sub3 (wc := [(a_g, (oc6 6 5 a_gn e_g)), (a_gn, (arI G 30 f_g))]) hP hD hS hA [3, 4] (by decide +kernel) rfl
                              refine va_calli (va_runV (As := [.int z5, .int 3]) (rest := []) ⟨hx, hb, hml, hown, hts⟩ (t_get_G l G a_g a_gn H.size e_g z5 3 f_g h_e_g) (cwV 2 hts gV_X5_107 rfl rfl rfl hv_X6_get ⟨Nat.le_of_ble_eq_true rfl, Nat.le_of_ble_eq_true rfl⟩) (g5_preV hPc hK hDc hN hT hS hFc (ci := 6) (q0 := 0) rfl rfl) rfl rfl hl.1 rfl (lv_room (Nat.le_of_ble_eq_true rfl)) dX5_meetGlass_241 ⟨Nat.le_of_ble_eq_true rfl, Nat.le_of_ble_eq_true rfl⟩) hS (fun q _ h => hFc q h) hFc (fun r u t H locs ht hvm hw hB hz1 hk1 hS => ?_)
                              obtain ⟨hP1, hD1⟩ := hB
                              have hP1 := g5_ht ht hP1
                              obtain ⟨z150, (i_149 : z150 = tget f_g e_g.toInt 5 z5.toInt (3 : Int32).toInt), y151, rfl⟩ := hw
                              have hJ9 := va_join (wr := [(a_h, (oc1 e_wa e_le e_st e_fo e_lc a_l a_g a_b a_s a_p a_w e_gb a_bb)), (a_l, (arW G 6 f_l)), (a_k, (oc5 a_h a_j a_pt e_ln e_se e_lh e_br e_we (e_me ||| (1 <<< (z5 &&& 31))) e_ce e_wy e_ho 1)), (a_j, (oc2 a_as a_sk)), (a_as, (arI G 8 z16)), (a_sk, (arJ G 50 z133)), (a_lo, (oc3 e_cl a_hd a_sr a_cd)), (a_sr, (arI G n_sr f_sr)), (a_cd, (arI G n_cd f_cd)), (a_hd, (arI G n_hd f_hd))]) hP hD [3, 4] [0, 1, 2, 5, 6, 7, 8, 9, 10, 11] rfl rfl (by decide +kernel) (by decide +kernel) hk1 hFc hP1 hD1
                              clear hP hD hPc hDc hFc ht hvm hz1 hk1 hP1 hD1
                              obtain ⟨hP, hD⟩ := hJ9
                              refine g5_rs [(a_h, (oc1 e_wa e_le e_st e_fo e_lc a_l a_g a_b a_s a_p a_w e_gb a_bb)), (a_l, (arW G 6 f_l)), (a_k, (oc5 a_h a_j a_pt e_ln e_se e_lh e_br e_we (e_me ||| (1 <<< (z5 &&& 31))) e_ce e_wy e_ho 1)), (a_j, (oc2 a_as a_sk)), (a_as, (arI G 8 z16)), (a_sk, (arJ G 50 z133)), (a_lo, (oc3 e_cl a_hd a_sr a_cd)), (a_sr, (arI G n_sr f_sr)), (a_cd, (arI G n_cd f_cd)), (a_hd, (arI G n_hd f_hd)), (a_g, (oc6 6 5 a_gn e_g)), (a_gn, (arI G 30 f_g))] hP hD ?_
                              clear hP hD
                              intro hP hD
                              refine g5_ti (v := z150) y151 ?_
                              have hc3_153 := gl_col (k := 3) e_qg i_2 i_149 (by decide +kernel) (by omega)
                              have hg_153 : 0 ≤ z150.toInt ∧ z150.toInt ≤ 10 := by rw [i_149]; exact (e_gk z5.toInt (by omega) (by omega)).2.2.2
                              have hV_152 : z150 = tellQ (toldW g_w 1 (askQ z5 e_ce e_ho e_wy (-1) e_ln e_br)) (f_ro (80 + 5 * z5.toInt.toNat + 3)) 10 := hc3_153.symm.trans (tell_n (tW_of e_w (by decide +kernel) i_132))
                              refine W.eq (g2 := F0 m 244 ls [.int z150]) rfl ?_
                              refine lv_istore (lv' := [(8, .int z150), (7, .int z126), (6, .ref a_lo), (5, .int z12), (4, .int z5), (3, .int z5), (2, .ref a_g), (1, .int z5), (0, .ref a_k)]) hx hb dX5_meetGlass_244 hl (by decide +kernel) rfl ?_
                              clear hl
                              intro ls hl
                              refine lv_aload_n hx hb dX5_meetGlass_246 rfl (lv_at hl 8 rfl) ?_
                              refine lv_aload_n hx hb dX5_meetGlass_247 rfl (lv_at hl 8 rfl) ?_
                              refine va_get (D := G.1) (ci := 5) (v := .int e_br) (C := RX5) (T := TX5) (N := 13) hx hb hts inG_X5 hown hK hP 2 rfl rfl 6 (by decide +kernel) (hts _ fl_X5_46) (fun _ h9 => h9) rfl dX5_meetGlass_248 ?_
                              refine lv_bipush (v := 10) hx hb dX5_meetGlass_251 (by decide +kernel) ?_
                              refine W.eq (g2 := F0 m 253 ls [.int 10, .int e_br, .ref a_k]) rfl ?_
                              refine lv_iload hx hb dX5_meetGlass_253 (lv_at hl 0 rfl) ?_
                              refine lv_isub hx hb dX5_meetGlass_255 ?_
                              have t_154 : (10 - z150).toInt = 10 - z150.toInt := g5_isub (a := 10) (b := z150.toInt) (by decide +kernel) (by rfl) (by omega) (by omega)
                              refine lv_imul hx hb dX5_meetGlass_256 ?_
                              refine lv_bipush (v := 10) hx hb dX5_meetGlass_257 (by decide +kernel) ?_
                              refine lv_idiv hx hb dX5_meetGlass_259 (by decide +kernel) ?_
                              have hb_155 : 0 ≤ ((e_br * (10 - z150)) / 10).toInt ∧ ((e_br * (10 - z150)) / 10).toInt ≤ 1000000 := g_dust (by omega) (by omega)
                              refine W.eq (g2 := F0 m 260 ls [.int ((e_br * (10 - z150)) / 10), .ref a_k]) rfl ?_
                              refine va_put (D := G.1) (ci := 5) (v := .int ((e_br * (10 - z150)) / 10)) (ty := .int) (C := RX5) (T := TX5) (N := 13) hx hb hts inG_X5 tyX5 tyX5_ok nmX5 hown hK hP hD hS 2 rfl rfl 6 (by decide +kernel) (hts _ fl_X5_46) (fun _ h9 => h9) rfl (by decide +kernel) rfl rfl (Nat.le_of_ble_eq_true rfl) dX5_meetGlass_260 ?_
                              clear hP hD hS
                              intro H locs hP hD hS
                              refine g5_rs [(a_h, (oc1 e_wa e_le e_st e_fo e_lc a_l a_g a_b a_s a_p a_w e_gb a_bb)), (a_l, (arW G 6 f_l)), (a_k, (oc5 a_h a_j a_pt e_ln e_se e_lh ((e_br * (10 - z150)) / 10) e_we (e_me ||| (1 <<< (z5 &&& 31))) e_ce e_wy e_ho 1)), (a_j, (oc2 a_as a_sk)), (a_as, (arI G 8 z16)), (a_sk, (arJ G 50 z133)), (a_lo, (oc3 e_cl a_hd a_sr a_cd)), (a_sr, (arI G n_sr f_sr)), (a_cd, (arI G n_cd f_cd)), (a_hd, (arI G n_hd f_hd)), (a_g, (oc6 6 5 a_gn e_g)), (a_gn, (arI G 30 f_g))] hP hD ?_
                              clear hP hD
                              intro hP hD
                              refine lv_aload_n hx hb dX5_meetGlass_263 rfl (lv_at hl 8 rfl) ?_
                              refine va_get (D := G.1) (ci := 5) (v := .int ((e_br * (10 - z150)) / 10)) (C := RX5) (T := TX5) (N := 13) hx hb hts inG_X5 hown hK hP 2 rfl rfl 6 (by decide +kernel) (hts _ fl_X5_46) (fun _ h9 => h9) rfl dX5_meetGlass_264 ?_
                              refine lv_aload_n hx hb dX5_meetGlass_267 rfl (lv_at hl 8 rfl) ?_
                              refine va_get (D := G.1) (ci := 5) (v := .ref a_h) (C := RX5) (T := TX5) (N := 13) hx hb hts inG_X5 hown hK hP 2 rfl rfl 0 (by decide +kernel) (hts _ fl_X5_22) (fun _ h9 => h9) rfl dX5_meetGlass_268 ?_
                              refine W.eq (g2 := F0 m 271 ls [.ref a_h, .int ((e_br * (10 - z150)) / 10)]) rfl ?_
                              refine va_get (D := G.1) (ci := 1) (v := .int e_le) (C := RX1) (T := TX1) (N := 13) hx hb hts inG_X1 hown hK hP 0 rfl rfl 1 (by decide +kernel) (hts _ fl_X5_138) (fun _ h9 => h9) rfl dX5_meetGlass_271 ?_
                              refine lv_icmp_ge (tgt := 278) hx hb dX5_meetGlass_274 (by decide +kernel) (fun c_156 => ?_) (fun c_156 => ?_)
                              ·
                                have i_156 : ((e_br * (10 - z150)) / 10).toInt ≥ e_le.toInt := g5_ge (a := ((e_br * (10 - z150)) / 10).toInt) (b := e_le.toInt) rfl rfl c_156
                                refine lv_aload_n hx hb dX5_meetGlass_278 rfl (lv_at hl 8 rfl) ?_
                                refine lv_dup hx hb dX5_meetGlass_279 rfl ?_
                                refine va_get (D := G.1) (ci := 5) (v := .int e_ho) (C := RX5) (T := TX5) (N := 13) hx hb hts inG_X5 hown hK hP 2 rfl rfl 11 (by decide +kernel) (hts _ fl_X5_33) (fun _ h9 => h9) rfl dX5_meetGlass_280 ?_
                                refine lv_iload hx hb dX5_meetGlass_283 (lv_at hl 1 rfl) ?_
                                refine W.eq (g2 := F0 m 285 ls [.int z126, .int e_ho, .ref a_k]) rfl ?_
                                refine lv_isub hx hb dX5_meetGlass_285 ?_
                                have t_157 : (e_ho - z126).toInt = e_ho.toInt - z126.toInt := g5_isub (a := e_ho.toInt) (b := z126.toInt) (by rfl) (by rfl) (by omega) (by omega)
                                refine va_put (D := G.1) (ci := 5) (v := .int (e_ho - z126)) (ty := .int) (C := RX5) (T := TX5) (N := 13) hx hb hts inG_X5 tyX5 tyX5_ok nmX5 hown hK hP hD hS 2 rfl rfl 11 (by decide +kernel) (hts _ fl_X5_33) (fun _ h9 => h9) rfl (by decide +kernel) rfl rfl (Nat.le_of_ble_eq_true rfl) dX5_meetGlass_286 ?_
                                clear hP hD hS
                                intro H locs hP hD hS
                                refine g5_rs [(a_h, (oc1 e_wa e_le e_st e_fo e_lc a_l a_g a_b a_s a_p a_w e_gb a_bb)), (a_l, (arW G 6 f_l)), (a_k, (oc5 a_h a_j a_pt e_ln e_se e_lh ((e_br * (10 - z150)) / 10) e_we (e_me ||| (1 <<< (z5 &&& 31))) e_ce e_wy (e_ho - z126) 1)), (a_j, (oc2 a_as a_sk)), (a_as, (arI G 8 z16)), (a_sk, (arJ G 50 z133)), (a_lo, (oc3 e_cl a_hd a_sr a_cd)), (a_sr, (arI G n_sr f_sr)), (a_cd, (arI G n_cd f_cd)), (a_hd, (arI G n_hd f_hd)), (a_g, (oc6 6 5 a_gn e_g)), (a_gn, (arI G 30 f_g))] hP hD ?_
                                clear hP hD
                                intro hP hD
                                refine lv_aload_n hx hb dX5_meetGlass_289 rfl (lv_at hl 8 rfl) ?_
                                refine lv_iload hx hb dX5_meetGlass_290 (lv_at hl 3 rfl) ?_
                                refine lv_if_ne (tgt := 304) hx hb dX5_meetGlass_292 (by decide +kernel) (fun c_158 => ?_) (fun c_158 => ?_)
                                ·
                                  have n_158 : gNe (z12.toInt) (0) := g5_ne (a := z12.toInt) (b := 0) rfl (by decide +kernel) c_158
                                  refine lv_iload hx hb dX5_meetGlass_304 (lv_at hl 3 rfl) ?_
                                  refine lv_iconst (v := 1) hx hb dX5_meetGlass_306 (by decide +kernel) ?_
                                  refine lv_icmp_ne (tgt := 319) hx hb dX5_meetGlass_307 (by decide +kernel) (fun c_159 => ?_) (fun c_159 => ?_)
                                  ·
                                    have n_159 : gNe (z12.toInt) (1) := g5_ne (a := z12.toInt) (b := 1) rfl (by decide +kernel) c_159
                                    refine lv_aload_n hx hb dX5_meetGlass_319 rfl (lv_at hl 8 rfl) ?_
                                    refine va_get (D := G.1) (ci := 5) (v := .int e_wy) (C := RX5) (T := TX5) (N := 13) hx hb hts inG_X5 hown hK hP 2 rfl rfl 10 (by decide +kernel) (hts _ fl_X5_30) (fun _ h9 => h9) rfl dX5_meetGlass_320 ?_
                                    refine lv_iconst (v := 2) hx hb dX5_meetGlass_323 (by decide +kernel) ?_
                                    refine lv_ixor hx hb dX5_meetGlass_324 ?_
                                    have hx_160 := (g_xor (w := e_wy) (by omega) (by omega)).2
                                    refine W.eq (g2 := F0 m 325 ls [.int (e_wy ^^^ 2), .ref a_k]) rfl ?_
                                    refine va_put (D := G.1) (ci := 5) (v := .int (e_wy ^^^ 2)) (ty := .int) (C := RX5) (T := TX5) (N := 13) hx hb hts inG_X5 tyX5 tyX5_ok nmX5 hown hK hP hD hS 2 rfl rfl 10 (by decide +kernel) (hts _ fl_X5_30) (fun _ h9 => h9) rfl (by decide +kernel) rfl rfl (Nat.le_of_ble_eq_true rfl) dX5_meetGlass_325 ?_
                                    clear hP hD hS
                                    intro H locs hP hD hS
                                    refine g5_rs [(a_h, (oc1 e_wa e_le e_st e_fo e_lc a_l a_g a_b a_s a_p a_w e_gb a_bb)), (a_l, (arW G 6 f_l)), (a_k, (oc5 a_h a_j a_pt e_ln e_se e_lh ((e_br * (10 - z150)) / 10) e_we (e_me ||| (1 <<< (z5 &&& 31))) e_ce (e_wy ^^^ 2) (e_ho - z126) 1)), (a_j, (oc2 a_as a_sk)), (a_as, (arI G 8 z16)), (a_sk, (arJ G 50 z133)), (a_lo, (oc3 e_cl a_hd a_sr a_cd)), (a_sr, (arI G n_sr f_sr)), (a_cd, (arI G n_cd f_cd)), (a_hd, (arI G n_hd f_hd)), (a_g, (oc6 6 5 a_gn e_g)), (a_gn, (arI G 30 f_g))] hP hD ?_
                                    clear hP hD
                                    intro hP hD
                                    refine lv_aload_n hx hb dX5_meetGlass_328 rfl (lv_at hl 8 rfl) ?_
                                    refine lv_dup hx hb dX5_meetGlass_329 rfl ?_
                                    refine va_get (D := G.1) (ci := 5) (v := .int e_we) (C := RX5) (T := TX5) (N := 13) hx hb hts inG_X5 hown hK hP 2 rfl rfl 7 (by decide +kernel) (hts _ fl_X5_49) (fun _ h9 => h9) rfl dX5_meetGlass_330 ?_
                                    refine lv_iconst (v := 1) hx hb dX5_meetGlass_333 (by decide +kernel) ?_
                                    refine W.eq (g2 := F0 m 334 ls [.int 1, .int e_we, .ref a_k]) rfl ?_
                                    refine lv_iload hx hb dX5_meetGlass_334 (lv_at hl 4 rfl) ?_
                                    refine lv_ishl hx hb dX5_meetGlass_336 ?_
                                    refine lv_ior hx hb dX5_meetGlass_337 ?_
                                    refine va_put (D := G.1) (ci := 5) (v := .int (e_we ||| (1 <<< (z5 &&& 31)))) (ty := .int) (C := RX5) (T := TX5) (N := 13) hx hb hts inG_X5 tyX5 tyX5_ok nmX5 hown hK hP hD hS 2 rfl rfl 7 (by decide +kernel) (hts _ fl_X5_49) (fun _ h9 => h9) rfl (by decide +kernel) rfl rfl (Nat.le_of_ble_eq_true rfl) dX5_meetGlass_338 ?_
                                    clear hP hD hS
                                    intro H locs hP hD hS
                                    refine g5_rs [(a_h, (oc1 e_wa e_le e_st e_fo e_lc a_l a_g a_b a_s a_p a_w e_gb a_bb)), (a_l, (arW G 6 f_l)), (a_k, (oc5 a_h a_j a_pt e_ln e_se e_lh ((e_br * (10 - z150)) / 10) (e_we ||| (1 <<< (z5 &&& 31))) (e_me ||| (1 <<< (z5 &&& 31))) e_ce (e_wy ^^^ 2) (e_ho - z126) 1)), (a_j, (oc2 a_as a_sk)), (a_as, (arI G 8 z16)), (a_sk, (arJ G 50 z133)), (a_lo, (oc3 e_cl a_hd a_sr a_cd)), (a_sr, (arI G n_sr f_sr)), (a_cd, (arI G n_cd f_cd)), (a_hd, (arI G n_hd f_hd)), (a_g, (oc6 6 5 a_gn e_g)), (a_gn, (arI G 30 f_g))] hP hD ?_
                                    clear hP hD
                                    intro hP hD
                                    refine lv_aload_n hx hb dX5_meetGlass_341 rfl (lv_at hl 8 rfl) ?_
                                    refine W.eq (g2 := F0 m 342 ls [.ref a_k]) rfl ?_
                                    refine lv_iconst (v := 0) hx hb dX5_meetGlass_342 (by decide +kernel) ?_
                                    refine va_put (D := G.1) (ci := 5) (v := .int 0) (ty := .boolean) (C := RX5) (T := TX5) (N := 13) hx hb hts inG_X5 tyX5 tyX5_ok nmX5 hown hK hP hD hS 2 rfl rfl 12 (by decide +kernel) (hts _ fl_X5_56) (fun _ h9 => h9) rfl (by decide +kernel) rfl rfl (Nat.le_of_ble_eq_true rfl) dX5_meetGlass_343 ?_
                                    clear hP hD hS
                                    intro H locs hP hD hS
                                    refine g5_rs [(a_h, (oc1 e_wa e_le e_st e_fo e_lc a_l a_g a_b a_s a_p a_w e_gb a_bb)), (a_l, (arW G 6 f_l)), (a_k, (oc5 a_h a_j a_pt e_ln e_se e_lh ((e_br * (10 - z150)) / 10) (e_we ||| (1 <<< (z5 &&& 31))) (e_me ||| (1 <<< (z5 &&& 31))) e_ce (e_wy ^^^ 2) (e_ho - z126) 0)), (a_j, (oc2 a_as a_sk)), (a_as, (arI G 8 z16)), (a_sk, (arJ G 50 z133)), (a_lo, (oc3 e_cl a_hd a_sr a_cd)), (a_sr, (arI G n_sr f_sr)), (a_cd, (arI G n_cd f_cd)), (a_hd, (arI G n_hd f_hd)), (a_g, (oc6 6 5 a_gn e_g)), (a_gn, (arI G 30 f_g))] hP hD ?_
                                    clear hP hD
                                    intro hP hD
                                    exact W.vret hx hb hr (fun t ht hW => ⟨⟨[(a_k, (oc5 a_h a_j a_pt e_ln e_se e_lh ((e_br * (10 - z150)) / 10) (e_we ||| (1 <<< (z5 &&& 31))) (e_me ||| (1 <<< (z5 &&& 31))) e_ce (e_wy ^^^ 2) (e_ho - z126) 0)), (a_h, (oc1 e_wa e_le e_st e_fo e_lc a_l a_g a_b a_s a_p a_w e_gb a_bb)), (a_g, (oc6 6 5 a_gn e_g)), (a_gn, (arI G 30 f_g)), (a_j, (oc2 a_as a_sk)), (a_as, (arI G 8 z16)), (a_sk, (arJ G 50 z133)), (a_l, (arW G 6 f_l)), (a_lo, (oc3 e_cl a_hd a_sr a_cd)), (a_sr, (arI G n_sr f_sr)), (a_cd, (arI G n_cd f_cd)), (a_hd, (arI G n_hd f_hd))], rfl, Or.inr (⟨((e_br * (10 - z150)) / 10), (e_we ||| (1 <<< (z5 &&& 31))), (e_me ||| (1 <<< (z5 &&& 31))), (e_wy ^^^ 2), (e_ho - z126), z16, z133, ⟨by omega, by omega⟩, ⟨by omega, by omega⟩, ⟨by omega, by omega⟩, by rw [met_c hGF (by omega) hc1_14 rfl rfl hc4_20 e_f4, tn_3 hNS hV_128 (by omega) hV_152 rfl (by omega), nw_2 (so := z12) (by first | omega | (unfold gNe at *; omega)) (by first | omega | (unfold gNe at *; omega))], rfl⟩), by rw [ht]; exact hP.sub [2, 0, 10, 11, 3, 4, 5, 1, 6, 7, 8, 9] rfl, hD.sub [2, 0, 10, 11, 3, 4, 5, 1, 6, 7, 8, 9] (by decide +kernel) rfl⟩, hS.F ht⟩) hS.2.2 dX5_meetGlass_346
                                  ·
                                    have i_159 : z12.toInt = 1 := g5_neN (a := z12.toInt) (b := 1) rfl (by decide +kernel) c_159
                                    omega
                                ·
                                  have i_158 : z12.toInt = 0 := g5_neN (a := z12.toInt) (b := 0) rfl (by decide +kernel) c_158
                                  omega
                              ·
                                have i_156 : ((e_br * (10 - z150)) / 10).toInt < e_le.toInt := g5_geN (a := ((e_br * (10 - z150)) / 10).toInt) (b := e_le.toInt) rfl rfl c_156
                                exact W.vret hx hb hr (fun t ht hW => ⟨⟨[(a_k, (oc5 a_h a_j a_pt e_ln e_se e_lh ((e_br * (10 - z150)) / 10) e_we (e_me ||| (1 <<< (z5 &&& 31))) e_ce e_wy e_ho 1)), (a_h, (oc1 e_wa e_le e_st e_fo e_lc a_l a_g a_b a_s a_p a_w e_gb a_bb)), (a_g, (oc6 6 5 a_gn e_g)), (a_gn, (arI G 30 f_g)), (a_j, (oc2 a_as a_sk)), (a_as, (arI G 8 z16)), (a_sk, (arJ G 50 z133)), (a_l, (arW G 6 f_l)), (a_lo, (oc3 e_cl a_hd a_sr a_cd)), (a_sr, (arI G n_sr f_sr)), (a_cd, (arI G n_cd f_cd)), (a_hd, (arI G n_hd f_hd))], rfl, Or.inl (⟨((e_br * (10 - z150)) / 10), (e_me ||| (1 <<< (z5 &&& 31))), z16, z133, ⟨by omega, by omega⟩, by rw [met_c hGF (by omega) hc1_14 rfl rfl hc4_20 e_f4, tn_2 hNS hV_128 (by omega) hV_152 rfl (by omega)]; exact ⟨rfl, rfl, rfl⟩, rfl⟩), by rw [ht]; exact hP.sub [2, 0, 10, 11, 3, 4, 5, 1, 6, 7, 8, 9] rfl, hD.sub [2, 0, 10, 11, 3, 4, 5, 1, 6, 7, 8, 9] (by decide +kernel) rfl⟩, hS.F ht⟩) hS.2.2 dX5_meetGlass_277
                            ·
                              exact absurd c_148 (by decide +kernel)
                        ·
                          have i_129 : z126.toInt > e_ho.toInt := g5_leN (a := z126.toInt) (b := e_ho.toInt) rfl rfl c_129
                          exact W.vret hx hb hr (fun t ht hW => ⟨⟨[(a_k, (oc5 a_h a_j a_pt e_ln e_se e_lh e_br e_we (e_me ||| (1 <<< (z5 &&& 31))) e_ce e_wy e_ho 1)), (a_h, (oc1 e_wa e_le e_st e_fo e_lc a_l a_g a_b a_s a_p a_w e_gb a_bb)), (a_g, (oc6 6 5 a_gn e_g)), (a_gn, (arI G 30 f_g)), (a_j, (oc2 a_as a_sk)), (a_as, (arI G 8 z16)), (a_sk, (arJ G 50 z119)), (a_l, (arW G 6 f_l)), (a_lo, (oc3 e_cl a_hd a_sr a_cd)), (a_sr, (arI G n_sr f_sr)), (a_cd, (arI G n_cd f_cd)), (a_hd, (arI G n_hd f_hd))], rfl, Or.inl (⟨e_br, (e_me ||| (1 <<< (z5 &&& 31))), z16, z119, h_e_br, by rw [met_c hGF (by omega) hc1_14 rfl rfl hc4_20 e_f4, tn_1 hNS hV_128 (by omega)]; exact ⟨rfl, rfl, rfl⟩, rfl⟩), by rw [ht]; exact hP.sub [2, 0, 3, 4, 10, 5, 11, 1, 6, 7, 8, 9] rfl, hD.sub [2, 0, 3, 4, 10, 5, 11, 1, 6, 7, 8, 9] (by decide +kernel) rfl⟩, hS.F ht⟩) hS.2.2 dX5_meetGlass_212
                    ·
                      have hJ9 := va_join (wr := [(a_h, (oc1 e_wa e_le e_st e_fo e_lc a_l a_g a_b a_s a_p a_w e_gb a_bb)), (a_l, (arW G 6 f_l)), (a_k, (oc5 a_h a_j a_pt e_ln e_se e_lh e_br e_we (e_me ||| (1 <<< (z5 &&& 31))) e_ce e_wy e_ho 1)), (a_g, (oc6 6 5 a_gn e_g)), (a_gn, (arI G 30 f_g))]) hP hD [5, 6, 7, 8, 9, 10, 11] [0, 1, 2, 3, 4] rfl rfl (by decide +kernel) (by decide +kernel) hk1 hFc hP1 hD1
                      clear hP hD hPc hDc hFc ht hvm hz1 hk1 hP1 hD1
                      obtain ⟨hP, hD⟩ := hJ9
                      refine g5_rs [(a_h, (oc1 e_wa e_le e_st e_fo e_lc a_l a_g a_b a_s a_p a_w e_gb a_bb)), (a_l, (arW G 6 f_l)), (a_k, (oc5 a_h a_j a_pt e_ln e_se e_lh e_br e_we (e_me ||| (1 <<< (z5 &&& 31))) e_ce e_wy e_ho 1)), (a_g, (oc6 6 5 a_gn e_g)), (a_gn, (arI G 30 f_g)), (a_j, (oc2 a_as a_sk)), (a_as, (arI G 8 z16)), (a_sk, (arJ G 50 z121)), (a_lo, (oc3 e_cl a_hd a_sr a_cd)), (a_sr, (arI G n_sr f_sr)), (a_cd, (arI G n_cd f_cd)), (a_hd, (arI G n_hd f_hd))] hP hD ?_
                      clear hP hD
                      intro hP hD
                      refine lv_if_eq (tgt := 195) hx hb dX5_meetGlass_180 (by decide +kernel) (fun c_161 => ?_) (fun c_161 => ?_)
                      ·
                        refine lv_aload_n hx hb dX5_meetGlass_195 rfl (lv_at hl 4 rfl) ?_
                        refine lv_iload_n hx hb dX5_meetGlass_196 rfl (lv_at hl 3 rfl) ?_
                        refine lv_iconst (v := 2) hx hb dX5_meetGlass_197 (by decide +kernel) ?_
                        obtain ⟨hPc, hDc, hFc⟩ := g5_sub3 (wc := [(a_g, (oc6 6 5 a_gn e_g)), (a_gn, (arI G 30 f_g))]) hP hD hS hA [3, 4] (by decide +kernel) rfl
                        refine va_calli (va_runV (As := [.int z5, .int 2]) (rest := []) ⟨hx, hb, hml, hown, hts⟩ (t_get_G l G a_g a_gn H.size e_g z5 2 f_g h_e_g) (cwV 2 hts gV_X5_107 rfl rfl rfl hv_X6_get ⟨Nat.le_of_ble_eq_true rfl, Nat.le_of_ble_eq_true rfl⟩) (g5_preV hPc hK hDc hN hT hS hFc (ci := 6) (q0 := 0) rfl rfl) rfl rfl hl.1 rfl (lv_room (Nat.le_of_ble_eq_true rfl)) dX5_meetGlass_198 ⟨Nat.le_of_ble_eq_true rfl, Nat.le_of_ble_eq_true rfl⟩) hS (fun q _ h => hFc q h) hFc (fun r u t H locs ht hvm hw hB hz1 hk1 hS => ?_)
                        obtain ⟨hP1, hD1⟩ := hB
                        have hP1 := g5_ht ht hP1
                        obtain ⟨z163, (i_162 : z163 = tget f_g e_g.toInt 5 z5.toInt (2 : Int32).toInt), y164, rfl⟩ := hw
                        have hJ9 := va_join (wr := [(a_h, (oc1 e_wa e_le e_st e_fo e_lc a_l a_g a_b a_s a_p a_w e_gb a_bb)), (a_l, (arW G 6 f_l)), (a_k, (oc5 a_h a_j a_pt e_ln e_se e_lh e_br e_we (e_me ||| (1 <<< (z5 &&& 31))) e_ce e_wy e_ho 1)), (a_j, (oc2 a_as a_sk)), (a_as, (arI G 8 z16)), (a_sk, (arJ G 50 z121)), (a_lo, (oc3 e_cl a_hd a_sr a_cd)), (a_sr, (arI G n_sr f_sr)), (a_cd, (arI G n_cd f_cd)), (a_hd, (arI G n_hd f_hd))]) hP hD [3, 4] [0, 1, 2, 5, 6, 7, 8, 9, 10, 11] rfl rfl (by decide +kernel) (by decide +kernel) hk1 hFc hP1 hD1
                        clear hP hD hPc hDc hFc ht hvm hz1 hk1 hP1 hD1
                        obtain ⟨hP, hD⟩ := hJ9
                        refine g5_rs [(a_h, (oc1 e_wa e_le e_st e_fo e_lc a_l a_g a_b a_s a_p a_w e_gb a_bb)), (a_l, (arW G 6 f_l)), (a_k, (oc5 a_h a_j a_pt e_ln e_se e_lh e_br e_we (e_me ||| (1 <<< (z5 &&& 31))) e_ce e_wy e_ho 1)), (a_j, (oc2 a_as a_sk)), (a_as, (arI G 8 z16)), (a_sk, (arJ G 50 z121)), (a_lo, (oc3 e_cl a_hd a_sr a_cd)), (a_sr, (arI G n_sr f_sr)), (a_cd, (arI G n_cd f_cd)), (a_hd, (arI G n_hd f_hd)), (a_g, (oc6 6 5 a_gn e_g)), (a_gn, (arI G 30 f_g))] hP hD ?_
                        clear hP hD
                        intro hP hD
                        refine g5_ti (v := z163) y164 ?_
                        have hc2_166 := gl_col (k := 2) e_qg i_2 i_162 (by decide +kernel) (by omega)
                        have hg_166 : 0 ≤ z163.toInt ∧ z163.toInt ≤ 23 := by rw [i_162]; exact (e_gk z5.toInt (by omega) (by omega)).2.2.1
                        have hV_165 : z163 = tellQ (toldW g_w 0 (askQ z5 e_ce e_ho e_wy (-1) e_ln e_br)) (f_ro (80 + 5 * z5.toInt.toNat + 2)) 23 := hc2_166.symm.trans (tell_n (tW_of e_w (by decide +kernel) i_120))
                        refine W.eq (g2 := F0 m 201 ls [.int z163]) rfl ?_
                        refine lv_istore (lv' := [(7, .int z163), (6, .ref a_lo), (5, .int z12), (4, .int z5), (3, .int z5), (2, .ref a_g), (1, .int z5), (0, .ref a_k)]) hx hb dX5_meetGlass_201 hl (by decide +kernel) rfl ?_
                        clear hl
                        intro ls hl
                        refine lv_iload hx hb dX5_meetGlass_203 (lv_at hl 0 rfl) ?_
                        refine lv_aload_n hx hb dX5_meetGlass_205 rfl (lv_at hl 7 rfl) ?_
                        refine va_get (D := G.1) (ci := 5) (v := .int e_ho) (C := RX5) (T := TX5) (N := 13) hx hb hts inG_X5 hown hK hP 2 rfl rfl 11 (by decide +kernel) (hts _ fl_X5_33) (fun _ h9 => h9) rfl dX5_meetGlass_206 ?_
                        refine lv_icmp_le (tgt := 213) hx hb dX5_meetGlass_209 (by decide +kernel) (fun c_167 => ?_) (fun c_167 => ?_)
                        ·
                          have i_167 : z163.toInt ≤ e_ho.toInt := g5_le (a := z163.toInt) (b := e_ho.toInt) rfl rfl c_167
                          refine lv_aload_n hx hb dX5_meetGlass_213 rfl (lv_at hl 7 rfl) ?_
                          refine va_get (D := G.1) (ci := 5) (v := .ref a_j) (C := RX5) (T := TX5) (N := 13) hx hb hts inG_X5 hown hK hP 2 rfl rfl 1 (by decide +kernel) (hts _ fl_X5_12) (fun _ h9 => h9) rfl dX5_meetGlass_214 ?_
                          refine lv_aload hx hb dX5_meetGlass_217 (lv_at hl 1 rfl) ?_
                          refine lv_iconst (v := 1) hx hb dX5_meetGlass_219 (by decide +kernel) ?_
                          refine W.eq (g2 := F0 m 220 ls [.int 1, .ref a_lo, .ref a_j]) rfl ?_
                          obtain ⟨hPc, hDc, hFc⟩ := g5_sub3 (wc := [(a_j, (oc2 a_as a_sk)), (a_as, (arI G 8 z16)), (a_sk, (arJ G 50 z121)), (a_lo, (oc3 e_cl a_hd a_sr a_cd)), (a_sr, (arI G n_sr f_sr)), (a_cd, (arI G n_cd f_cd)), (a_hd, (arI G n_hd f_hd))]) hP hD hS hA [3, 4, 5, 6, 7, 8, 9] (by decide +kernel) rfl
                          refine va_calli (va_runV (As := [.ref a_lo, .int 1]) (rest := []) ⟨hx, hb, hml, hown, hts⟩ (j_isHeldX l G a_j a_as a_sk a_lo a_sr a_cd a_hd H.size 1 e_cl z16 z121 f_sr f_cd f_hd (askQ z5 e_ce e_ho e_wy (-1) e_ln e_br) g_L n_sr n_cd n_hd h_e_cl (e_hn) (e_hs) (e_hk) (e_c) (i_15) (e_lw) (e_lv)) (cwV 2 hts gV_X5_124 rfl rfl rfl hv_X2_isHeld ⟨Nat.le_of_ble_eq_true rfl, Nat.le_of_ble_eq_true rfl⟩) (g5_preV hPc hK hDc hN hT hS hFc (ci := 2) (q0 := 0) rfl rfl) rfl rfl hl.1 rfl (lv_room (Nat.le_of_ble_eq_true rfl)) dX5_meetGlass_220 ⟨Nat.le_of_ble_eq_true rfl, Nat.le_of_ble_eq_true rfl⟩) hS (fun q _ h => hFc q h) hFc (fun r u t H locs ht hvm hw hB hz1 hk1 hS => ?_)
                          obtain ⟨hP1, hD1⟩ := hB
                          have hP1 := g5_ht ht hP1
                          rcases hw with ⟨z169, (i_168 : ∃ v : Int64, toldX g_L (1 : Int32).toInt (askQ z5 e_ce e_ho e_wy (-1) e_ln e_br) = some v ∧ ((1 : Int32).toInt < 2 → z169 0 = v)), rfl, rfl⟩ | ⟨z171, (i_170 : toldX g_L (1 : Int32).toInt (askQ z5 e_ce e_ho e_wy (-1) e_ln e_br) = none), rfl, rfl⟩
                          ·
                            have hJ9 := va_join (wr := [(a_h, (oc1 e_wa e_le e_st e_fo e_lc a_l a_g a_b a_s a_p a_w e_gb a_bb)), (a_l, (arW G 6 f_l)), (a_k, (oc5 a_h a_j a_pt e_ln e_se e_lh e_br e_we (e_me ||| (1 <<< (z5 &&& 31))) e_ce e_wy e_ho 1)), (a_g, (oc6 6 5 a_gn e_g)), (a_gn, (arI G 30 f_g))]) hP hD [3, 4, 5, 6, 7, 8, 9] [0, 1, 2, 10, 11] rfl rfl (by decide +kernel) (by decide +kernel) hk1 hFc hP1 hD1
                            clear hP hD hPc hDc hFc ht hvm hz1 hk1 hP1 hD1
                            obtain ⟨hP, hD⟩ := hJ9
                            refine g5_rs [(a_h, (oc1 e_wa e_le e_st e_fo e_lc a_l a_g a_b a_s a_p a_w e_gb a_bb)), (a_l, (arW G 6 f_l)), (a_k, (oc5 a_h a_j a_pt e_ln e_se e_lh e_br e_we (e_me ||| (1 <<< (z5 &&& 31))) e_ce e_wy e_ho 1)), (a_g, (oc6 6 5 a_gn e_g)), (a_gn, (arI G 30 f_g)), (a_j, (oc2 a_as a_sk)), (a_as, (arI G 8 z16)), (a_sk, (arJ G 50 z169)), (a_lo, (oc3 e_cl a_hd a_sr a_cd)), (a_sr, (arI G n_sr f_sr)), (a_cd, (arI G n_cd f_cd)), (a_hd, (arI G n_hd f_hd))] hP hD ?_
                            clear hP hD
                            intro hP hD
                            obtain ⟨v1_172, ht_172, hv_172⟩ := i_168
                            have hw_172 := hv_172 (by decide +kernel)
                            refine lv_if_eq (tgt := 238) hx hb dX5_meetGlass_223 (by decide +kernel) (fun c_173 => ?_) (fun c_173 => ?_)
                            ·
                              exact absurd c_173 (by decide +kernel)
                            ·
                              refine lv_aload_n hx hb dX5_meetGlass_226 rfl (lv_at hl 7 rfl) ?_
                              refine va_get (D := G.1) (ci := 5) (v := .ref a_j) (C := RX5) (T := TX5) (N := 13) hx hb hts inG_X5 hown hK hP 2 rfl rfl 1 (by decide +kernel) (hts _ fl_X5_12) (fun _ h9 => h9) rfl dX5_meetGlass_227 ?_
                              refine lv_bipush (v := 10) hx hb dX5_meetGlass_230 (by decide +kernel) ?_
                              obtain ⟨hPc, hDc, hFc⟩ := g5_sub3 (wc := [(a_j, (oc2 a_as a_sk)), (a_sk, (arJ G 50 z169))]) hP hD hS hA [5, 7] (by decide +kernel) rfl
                              refine va_calli (va_runV (As := [.int 10]) (rest := []) ⟨hx, hb, hml, hown, hts⟩ (j_toldX l G a_j a_sk a_as H.size 10 z169 ⟨by decide, by decide⟩) (cwV 1 hts gV_X5_134 rfl rfl rfl hv_X2_toldUpTo ⟨Nat.le_of_ble_eq_true rfl, Nat.le_of_ble_eq_true rfl⟩) (g5_preV hPc hK hDc hN hT hS hFc (ci := 2) (q0 := 0) rfl rfl) rfl rfl hl.1 rfl (lv_room (Nat.le_of_ble_eq_true rfl)) dX5_meetGlass_232 ⟨Nat.le_of_ble_eq_true rfl, Nat.le_of_ble_eq_true rfl⟩) hS (fun q _ h => hFc q h) hFc (fun r u t H locs ht hvm hw hB hz1 hk1 hS => ?_)
                              obtain ⟨hP1, hD1⟩ := hB
                              have hP1 := g5_ht ht hP1
                              obtain ⟨z176, (i_174 : 0 ≤ z176.toInt ∧ z176.toInt ≤ (10 : Int32).toInt), (i_175 : z176 = clampQ (z169 0) (10 : Int32)), y177, rfl⟩ := hw
                              have hJ9 := va_join (wr := [(a_h, (oc1 e_wa e_le e_st e_fo e_lc a_l a_g a_b a_s a_p a_w e_gb a_bb)), (a_l, (arW G 6 f_l)), (a_k, (oc5 a_h a_j a_pt e_ln e_se e_lh e_br e_we (e_me ||| (1 <<< (z5 &&& 31))) e_ce e_wy e_ho 1)), (a_g, (oc6 6 5 a_gn e_g)), (a_gn, (arI G 30 f_g)), (a_as, (arI G 8 z16)), (a_lo, (oc3 e_cl a_hd a_sr a_cd)), (a_sr, (arI G n_sr f_sr)), (a_cd, (arI G n_cd f_cd)), (a_hd, (arI G n_hd f_hd))]) hP hD [5, 7] [0, 1, 2, 3, 4, 6, 8, 9, 10, 11] rfl rfl (by decide +kernel) (by decide +kernel) hk1 hFc hP1 hD1
                              clear hP hD hPc hDc hFc ht hvm hz1 hk1 hP1 hD1
                              obtain ⟨hP, hD⟩ := hJ9
                              refine g5_rs [(a_h, (oc1 e_wa e_le e_st e_fo e_lc a_l a_g a_b a_s a_p a_w e_gb a_bb)), (a_l, (arW G 6 f_l)), (a_k, (oc5 a_h a_j a_pt e_ln e_se e_lh e_br e_we (e_me ||| (1 <<< (z5 &&& 31))) e_ce e_wy e_ho 1)), (a_g, (oc6 6 5 a_gn e_g)), (a_gn, (arI G 30 f_g)), (a_as, (arI G 8 z16)), (a_lo, (oc3 e_cl a_hd a_sr a_cd)), (a_sr, (arI G n_sr f_sr)), (a_cd, (arI G n_cd f_cd)), (a_hd, (arI G n_hd f_hd)), (a_j, (oc2 a_as a_sk)), (a_sk, (arJ G 50 z169))] hP hD ?_
                              clear hP hD
                              intro hP hD
                              refine g5_ti (v := z176) y177 ?_
                              refine W.eq (g2 := F0 m 235 ls [.int z176]) rfl ?_
                              refine lv_goto (tgt := 244) hx hb dX5_meetGlass_235 (by decide +kernel) ?_
                              have hV_178 : z176 = tellQ (toldW g_w 1 (askQ z5 e_ce e_ho e_wy (-1) e_ln e_br)) (f_ro (80 + 5 * z5.toInt.toNat + 3)) 10 := tell_s (tW_of e_w (by decide +kernel) ht_172) (by rw [i_175, hw_172])
                              have hr_178 : 0 ≤ z176.toInt ∧ z176.toInt ≤ 10 := ⟨by omega, by have zk : (10 : Int32).toInt = 10 := (by decide +kernel); omega⟩
                              refine lv_istore (lv' := [(8, .int z176), (7, .int z163), (6, .ref a_lo), (5, .int z12), (4, .int z5), (3, .int z5), (2, .ref a_g), (1, .int z5), (0, .ref a_k)]) hx hb dX5_meetGlass_244 hl (by decide +kernel) rfl ?_
                              clear hl
                              intro ls hl
                              refine lv_aload_n hx hb dX5_meetGlass_246 rfl (lv_at hl 8 rfl) ?_
                              refine lv_aload_n hx hb dX5_meetGlass_247 rfl (lv_at hl 8 rfl) ?_
                              refine va_get (D := G.1) (ci := 5) (v := .int e_br) (C := RX5) (T := TX5) (N := 13) hx hb hts inG_X5 hown hK hP 2 rfl rfl 6 (by decide +kernel) (hts _ fl_X5_46) (fun _ h9 => h9) rfl dX5_meetGlass_248 ?_
                              refine W.eq (g2 := F0 m 251 ls [.int e_br, .ref a_k]) rfl ?_
                              refine lv_bipush (v := 10) hx hb dX5_meetGlass_251 (by decide +kernel) ?_
                              refine lv_iload hx hb dX5_meetGlass_253 (lv_at hl 0 rfl) ?_
                              refine lv_isub hx hb dX5_meetGlass_255 ?_
                              have t_179 : (10 - z176).toInt = 10 - z176.toInt := g5_isub (a := 10) (b := z176.toInt) (by decide +kernel) (by rfl) (by omega) (by omega)
                              refine lv_imul hx hb dX5_meetGlass_256 ?_
                              refine lv_bipush (v := 10) hx hb dX5_meetGlass_257 (by decide +kernel) ?_
                              refine W.eq (g2 := F0 m 259 ls [.int 10, .int (e_br * (10 - z176)), .ref a_k]) rfl ?_
                              refine lv_idiv hx hb dX5_meetGlass_259 (by decide +kernel) ?_
                              have hb_180 : 0 ≤ ((e_br * (10 - z176)) / 10).toInt ∧ ((e_br * (10 - z176)) / 10).toInt ≤ 1000000 := g_dust (by omega) (by omega)
                              refine va_put (D := G.1) (ci := 5) (v := .int ((e_br * (10 - z176)) / 10)) (ty := .int) (C := RX5) (T := TX5) (N := 13) hx hb hts inG_X5 tyX5 tyX5_ok nmX5 hown hK hP hD hS 2 rfl rfl 6 (by decide +kernel) (hts _ fl_X5_46) (fun _ h9 => h9) rfl (by decide +kernel) rfl rfl (Nat.le_of_ble_eq_true rfl) dX5_meetGlass_260 ?_
                              clear hP hD hS
                              intro H locs hP hD hS
                              refine g5_rs [(a_h, (oc1 e_wa e_le e_st e_fo e_lc a_l a_g a_b a_s a_p a_w e_gb a_bb)), (a_l, (arW G 6 f_l)), (a_k, (oc5 a_h a_j a_pt e_ln e_se e_lh ((e_br * (10 - z176)) / 10) e_we (e_me ||| (1 <<< (z5 &&& 31))) e_ce e_wy e_ho 1)), (a_g, (oc6 6 5 a_gn e_g)), (a_gn, (arI G 30 f_g)), (a_as, (arI G 8 z16)), (a_lo, (oc3 e_cl a_hd a_sr a_cd)), (a_sr, (arI G n_sr f_sr)), (a_cd, (arI G n_cd f_cd)), (a_hd, (arI G n_hd f_hd)), (a_j, (oc2 a_as a_sk)), (a_sk, (arJ G 50 z169))] hP hD ?_
                              clear hP hD
                              intro hP hD
                              refine lv_aload_n hx hb dX5_meetGlass_263 rfl (lv_at hl 8 rfl) ?_
                              refine va_get (D := G.1) (ci := 5) (v := .int ((e_br * (10 - z176)) / 10)) (C := RX5) (T := TX5) (N := 13) hx hb hts inG_X5 hown hK hP 2 rfl rfl 6 (by decide +kernel) (hts _ fl_X5_46) (fun _ h9 => h9) rfl dX5_meetGlass_264 ?_
                              refine lv_aload_n hx hb dX5_meetGlass_267 rfl (lv_at hl 8 rfl) ?_
                              refine W.eq (g2 := F0 m 268 ls [.ref a_k, .int ((e_br * (10 - z176)) / 10)]) rfl ?_
                              refine va_get (D := G.1) (ci := 5) (v := .ref a_h) (C := RX5) (T := TX5) (N := 13) hx hb hts inG_X5 hown hK hP 2 rfl rfl 0 (by decide +kernel) (hts _ fl_X5_22) (fun _ h9 => h9) rfl dX5_meetGlass_268 ?_
                              refine va_get (D := G.1) (ci := 1) (v := .int e_le) (C := RX1) (T := TX1) (N := 13) hx hb hts inG_X1 hown hK hP 0 rfl rfl 1 (by decide +kernel) (hts _ fl_X5_138) (fun _ h9 => h9) rfl dX5_meetGlass_271 ?_
                              refine lv_icmp_ge (tgt := 278) hx hb dX5_meetGlass_274 (by decide +kernel) (fun c_181 => ?_) (fun c_181 => ?_)
                              ·
                                have i_181 : ((e_br * (10 - z176)) / 10).toInt ≥ e_le.toInt := g5_ge (a := ((e_br * (10 - z176)) / 10).toInt) (b := e_le.toInt) rfl rfl c_181
                                refine lv_aload_n hx hb dX5_meetGlass_278 rfl (lv_at hl 8 rfl) ?_
                                refine lv_dup hx hb dX5_meetGlass_279 rfl ?_
                                refine va_get (D := G.1) (ci := 5) (v := .int e_ho) (C := RX5) (T := TX5) (N := 13) hx hb hts inG_X5 hown hK hP 2 rfl rfl 11 (by decide +kernel) (hts _ fl_X5_33) (fun _ h9 => h9) rfl dX5_meetGlass_280 ?_
                                refine lv_iload hx hb dX5_meetGlass_283 (lv_at hl 1 rfl) ?_
                                refine W.eq (g2 := F0 m 285 ls [.int z163, .int e_ho, .ref a_k]) rfl ?_
                                refine lv_isub hx hb dX5_meetGlass_285 ?_
                                have t_182 : (e_ho - z163).toInt = e_ho.toInt - z163.toInt := g5_isub (a := e_ho.toInt) (b := z163.toInt) (by rfl) (by rfl) (by omega) (by omega)
                                refine va_put (D := G.1) (ci := 5) (v := .int (e_ho - z163)) (ty := .int) (C := RX5) (T := TX5) (N := 13) hx hb hts inG_X5 tyX5 tyX5_ok nmX5 hown hK hP hD hS 2 rfl rfl 11 (by decide +kernel) (hts _ fl_X5_33) (fun _ h9 => h9) rfl (by decide +kernel) rfl rfl (Nat.le_of_ble_eq_true rfl) dX5_meetGlass_286 ?_
                                clear hP hD hS
                                intro H locs hP hD hS
                                refine g5_rs [(a_h, (oc1 e_wa e_le e_st e_fo e_lc a_l a_g a_b a_s a_p a_w e_gb a_bb)), (a_l, (arW G 6 f_l)), (a_k, (oc5 a_h a_j a_pt e_ln e_se e_lh ((e_br * (10 - z176)) / 10) e_we (e_me ||| (1 <<< (z5 &&& 31))) e_ce e_wy (e_ho - z163) 1)), (a_g, (oc6 6 5 a_gn e_g)), (a_gn, (arI G 30 f_g)), (a_as, (arI G 8 z16)), (a_lo, (oc3 e_cl a_hd a_sr a_cd)), (a_sr, (arI G n_sr f_sr)), (a_cd, (arI G n_cd f_cd)), (a_hd, (arI G n_hd f_hd)), (a_j, (oc2 a_as a_sk)), (a_sk, (arJ G 50 z169))] hP hD ?_
                                clear hP hD
                                intro hP hD
                                refine lv_aload_n hx hb dX5_meetGlass_289 rfl (lv_at hl 8 rfl) ?_
                                refine lv_iload hx hb dX5_meetGlass_290 (lv_at hl 3 rfl) ?_
                                refine lv_if_ne (tgt := 304) hx hb dX5_meetGlass_292 (by decide +kernel) (fun c_183 => ?_) (fun c_183 => ?_)
                                ·
                                  have n_183 : gNe (z12.toInt) (0) := g5_ne (a := z12.toInt) (b := 0) rfl (by decide +kernel) c_183
                                  refine lv_iload hx hb dX5_meetGlass_304 (lv_at hl 3 rfl) ?_
                                  refine lv_iconst (v := 1) hx hb dX5_meetGlass_306 (by decide +kernel) ?_
                                  refine lv_icmp_ne (tgt := 319) hx hb dX5_meetGlass_307 (by decide +kernel) (fun c_184 => ?_) (fun c_184 => ?_)
                                  ·
                                    have n_184 : gNe (z12.toInt) (1) := g5_ne (a := z12.toInt) (b := 1) rfl (by decide +kernel) c_184
                                    refine lv_aload_n hx hb dX5_meetGlass_319 rfl (lv_at hl 8 rfl) ?_
                                    refine va_get (D := G.1) (ci := 5) (v := .int e_wy) (C := RX5) (T := TX5) (N := 13) hx hb hts inG_X5 hown hK hP 2 rfl rfl 10 (by decide +kernel) (hts _ fl_X5_30) (fun _ h9 => h9) rfl dX5_meetGlass_320 ?_
                                    refine lv_iconst (v := 2) hx hb dX5_meetGlass_323 (by decide +kernel) ?_
                                    refine lv_ixor hx hb dX5_meetGlass_324 ?_
                                    have hx_185 := (g_xor (w := e_wy) (by omega) (by omega)).2
                                    refine W.eq (g2 := F0 m 325 ls [.int (e_wy ^^^ 2), .ref a_k]) rfl ?_
                                    refine va_put (D := G.1) (ci := 5) (v := .int (e_wy ^^^ 2)) (ty := .int) (C := RX5) (T := TX5) (N := 13) hx hb hts inG_X5 tyX5 tyX5_ok nmX5 hown hK hP hD hS 2 rfl rfl 10 (by decide +kernel) (hts _ fl_X5_30) (fun _ h9 => h9) rfl (by decide +kernel) rfl rfl (Nat.le_of_ble_eq_true rfl) dX5_meetGlass_325 ?_
                                    clear hP hD hS
                                    intro H locs hP hD hS
                                    refine g5_rs [(a_h, (oc1 e_wa e_le e_st e_fo e_lc a_l a_g a_b a_s a_p a_w e_gb a_bb)), (a_l, (arW G 6 f_l)), (a_k, (oc5 a_h a_j a_pt e_ln e_se e_lh ((e_br * (10 - z176)) / 10) e_we (e_me ||| (1 <<< (z5 &&& 31))) e_ce (e_wy ^^^ 2) (e_ho - z163) 1)), (a_g, (oc6 6 5 a_gn e_g)), (a_gn, (arI G 30 f_g)), (a_as, (arI G 8 z16)), (a_lo, (oc3 e_cl a_hd a_sr a_cd)), (a_sr, (arI G n_sr f_sr)), (a_cd, (arI G n_cd f_cd)), (a_hd, (arI G n_hd f_hd)), (a_j, (oc2 a_as a_sk)), (a_sk, (arJ G 50 z169))] hP hD ?_
                                    clear hP hD
                                    intro hP hD
                                    refine lv_aload_n hx hb dX5_meetGlass_328 rfl (lv_at hl 8 rfl) ?_
                                    refine lv_dup hx hb dX5_meetGlass_329 rfl ?_
                                    refine va_get (D := G.1) (ci := 5) (v := .int e_we) (C := RX5) (T := TX5) (N := 13) hx hb hts inG_X5 hown hK hP 2 rfl rfl 7 (by decide +kernel) (hts _ fl_X5_49) (fun _ h9 => h9) rfl dX5_meetGlass_330 ?_
                                    refine lv_iconst (v := 1) hx hb dX5_meetGlass_333 (by decide +kernel) ?_
                                    refine W.eq (g2 := F0 m 334 ls [.int 1, .int e_we, .ref a_k]) rfl ?_
                                    refine lv_iload hx hb dX5_meetGlass_334 (lv_at hl 4 rfl) ?_
                                    refine lv_ishl hx hb dX5_meetGlass_336 ?_
                                    refine lv_ior hx hb dX5_meetGlass_337 ?_
                                    refine va_put (D := G.1) (ci := 5) (v := .int (e_we ||| (1 <<< (z5 &&& 31)))) (ty := .int) (C := RX5) (T := TX5) (N := 13) hx hb hts inG_X5 tyX5 tyX5_ok nmX5 hown hK hP hD hS 2 rfl rfl 7 (by decide +kernel) (hts _ fl_X5_49) (fun _ h9 => h9) rfl (by decide +kernel) rfl rfl (Nat.le_of_ble_eq_true rfl) dX5_meetGlass_338 ?_
                                    clear hP hD hS
                                    intro H locs hP hD hS
                                    refine g5_rs [(a_h, (oc1 e_wa e_le e_st e_fo e_lc a_l a_g a_b a_s a_p a_w e_gb a_bb)), (a_l, (arW G 6 f_l)), (a_k, (oc5 a_h a_j a_pt e_ln e_se e_lh ((e_br * (10 - z176)) / 10) (e_we ||| (1 <<< (z5 &&& 31))) (e_me ||| (1 <<< (z5 &&& 31))) e_ce (e_wy ^^^ 2) (e_ho - z163) 1)), (a_g, (oc6 6 5 a_gn e_g)), (a_gn, (arI G 30 f_g)), (a_as, (arI G 8 z16)), (a_lo, (oc3 e_cl a_hd a_sr a_cd)), (a_sr, (arI G n_sr f_sr)), (a_cd, (arI G n_cd f_cd)), (a_hd, (arI G n_hd f_hd)), (a_j, (oc2 a_as a_sk)), (a_sk, (arJ G 50 z169))] hP hD ?_
                                    clear hP hD
                                    intro hP hD
                                    refine lv_aload_n hx hb dX5_meetGlass_341 rfl (lv_at hl 8 rfl) ?_
                                    refine W.eq (g2 := F0 m 342 ls [.ref a_k]) rfl ?_
                                    refine lv_iconst (v := 0) hx hb dX5_meetGlass_342 (by decide +kernel) ?_
                                    refine va_put (D := G.1) (ci := 5) (v := .int 0) (ty := .boolean) (C := RX5) (T := TX5) (N := 13) hx hb hts inG_X5 tyX5 tyX5_ok nmX5 hown hK hP hD hS 2 rfl rfl 12 (by decide +kernel) (hts _ fl_X5_56) (fun _ h9 => h9) rfl (by decide +kernel) rfl rfl (Nat.le_of_ble_eq_true rfl) dX5_meetGlass_343 ?_
                                    clear hP hD hS
                                    intro H locs hP hD hS
                                    refine g5_rs [(a_h, (oc1 e_wa e_le e_st e_fo e_lc a_l a_g a_b a_s a_p a_w e_gb a_bb)), (a_l, (arW G 6 f_l)), (a_k, (oc5 a_h a_j a_pt e_ln e_se e_lh ((e_br * (10 - z176)) / 10) (e_we ||| (1 <<< (z5 &&& 31))) (e_me ||| (1 <<< (z5 &&& 31))) e_ce (e_wy ^^^ 2) (e_ho - z163) 0)), (a_g, (oc6 6 5 a_gn e_g)), (a_gn, (arI G 30 f_g)), (a_as, (arI G 8 z16)), (a_lo, (oc3 e_cl a_hd a_sr a_cd)), (a_sr, (arI G n_sr f_sr)), (a_cd, (arI G n_cd f_cd)), (a_hd, (arI G n_hd f_hd)), (a_j, (oc2 a_as a_sk)), (a_sk, (arJ G 50 z169))] hP hD ?_
                                    clear hP hD
                                    intro hP hD
                                    exact W.vret hx hb hr (fun t ht hW => ⟨⟨[(a_k, (oc5 a_h a_j a_pt e_ln e_se e_lh ((e_br * (10 - z176)) / 10) (e_we ||| (1 <<< (z5 &&& 31))) (e_me ||| (1 <<< (z5 &&& 31))) e_ce (e_wy ^^^ 2) (e_ho - z163) 0)), (a_h, (oc1 e_wa e_le e_st e_fo e_lc a_l a_g a_b a_s a_p a_w e_gb a_bb)), (a_g, (oc6 6 5 a_gn e_g)), (a_gn, (arI G 30 f_g)), (a_j, (oc2 a_as a_sk)), (a_as, (arI G 8 z16)), (a_sk, (arJ G 50 z169)), (a_l, (arW G 6 f_l)), (a_lo, (oc3 e_cl a_hd a_sr a_cd)), (a_sr, (arI G n_sr f_sr)), (a_cd, (arI G n_cd f_cd)), (a_hd, (arI G n_hd f_hd))], rfl, Or.inr (⟨((e_br * (10 - z176)) / 10), (e_we ||| (1 <<< (z5 &&& 31))), (e_me ||| (1 <<< (z5 &&& 31))), (e_wy ^^^ 2), (e_ho - z163), z16, z169, ⟨by omega, by omega⟩, ⟨by omega, by omega⟩, ⟨by omega, by omega⟩, by rw [met_c hGF (by omega) hc1_14 rfl rfl hc4_20 e_f4, tn_3 hNS hV_165 (by omega) hV_178 rfl (by omega), nw_2 (so := z12) (by first | omega | (unfold gNe at *; omega)) (by first | omega | (unfold gNe at *; omega))], rfl⟩), by rw [ht]; exact hP.sub [2, 0, 3, 4, 10, 5, 11, 1, 6, 7, 8, 9] rfl, hD.sub [2, 0, 3, 4, 10, 5, 11, 1, 6, 7, 8, 9] (by decide +kernel) rfl⟩, hS.F ht⟩) hS.2.2 dX5_meetGlass_346
                                  ·
                                    have i_184 : z12.toInt = 1 := g5_neN (a := z12.toInt) (b := 1) rfl (by decide +kernel) c_184
                                    omega
                                ·
                                  have i_183 : z12.toInt = 0 := g5_neN (a := z12.toInt) (b := 0) rfl (by decide +kernel) c_183
                                  omega
                              ·
                                have i_181 : ((e_br * (10 - z176)) / 10).toInt < e_le.toInt := g5_geN (a := ((e_br * (10 - z176)) / 10).toInt) (b := e_le.toInt) rfl rfl c_181
                                exact W.vret hx hb hr (fun t ht hW => ⟨⟨[(a_k, (oc5 a_h a_j a_pt e_ln e_se e_lh ((e_br * (10 - z176)) / 10) e_we (e_me ||| (1 <<< (z5 &&& 31))) e_ce e_wy e_ho 1)), (a_h, (oc1 e_wa e_le e_st e_fo e_lc a_l a_g a_b a_s a_p a_w e_gb a_bb)), (a_g, (oc6 6 5 a_gn e_g)), (a_gn, (arI G 30 f_g)), (a_j, (oc2 a_as a_sk)), (a_as, (arI G 8 z16)), (a_sk, (arJ G 50 z169)), (a_l, (arW G 6 f_l)), (a_lo, (oc3 e_cl a_hd a_sr a_cd)), (a_sr, (arI G n_sr f_sr)), (a_cd, (arI G n_cd f_cd)), (a_hd, (arI G n_hd f_hd))], rfl, Or.inl (⟨((e_br * (10 - z176)) / 10), (e_me ||| (1 <<< (z5 &&& 31))), z16, z169, ⟨by omega, by omega⟩, by rw [met_c hGF (by omega) hc1_14 rfl rfl hc4_20 e_f4, tn_2 hNS hV_165 (by omega) hV_178 rfl (by omega)]; exact ⟨rfl, rfl, rfl⟩, rfl⟩), by rw [ht]; exact hP.sub [2, 0, 3, 4, 10, 5, 11, 1, 6, 7, 8, 9] rfl, hD.sub [2, 0, 3, 4, 10, 5, 11, 1, 6, 7, 8, 9] (by decide +kernel) rfl⟩, hS.F ht⟩) hS.2.2 dX5_meetGlass_277
                          ·
                            have hJ9 := va_join (wr := [(a_h, (oc1 e_wa e_le e_st e_fo e_lc a_l a_g a_b a_s a_p a_w e_gb a_bb)), (a_l, (arW G 6 f_l)), (a_k, (oc5 a_h a_j a_pt e_ln e_se e_lh e_br e_we (e_me ||| (1 <<< (z5 &&& 31))) e_ce e_wy e_ho 1)), (a_g, (oc6 6 5 a_gn e_g)), (a_gn, (arI G 30 f_g))]) hP hD [3, 4, 5, 6, 7, 8, 9] [0, 1, 2, 10, 11] rfl rfl (by decide +kernel) (by decide +kernel) hk1 hFc hP1 hD1
                            clear hP hD hPc hDc hFc ht hvm hz1 hk1 hP1 hD1
                            obtain ⟨hP, hD⟩ := hJ9
                            refine g5_rs [(a_h, (oc1 e_wa e_le e_st e_fo e_lc a_l a_g a_b a_s a_p a_w e_gb a_bb)), (a_l, (arW G 6 f_l)), (a_k, (oc5 a_h a_j a_pt e_ln e_se e_lh e_br e_we (e_me ||| (1 <<< (z5 &&& 31))) e_ce e_wy e_ho 1)), (a_g, (oc6 6 5 a_gn e_g)), (a_gn, (arI G 30 f_g)), (a_j, (oc2 a_as a_sk)), (a_as, (arI G 8 z16)), (a_sk, (arJ G 50 z171)), (a_lo, (oc3 e_cl a_hd a_sr a_cd)), (a_sr, (arI G n_sr f_sr)), (a_cd, (arI G n_cd f_cd)), (a_hd, (arI G n_hd f_hd))] hP hD ?_
                            clear hP hD
                            intro hP hD
                            refine lv_if_eq (tgt := 238) hx hb dX5_meetGlass_223 (by decide +kernel) (fun c_186 => ?_) (fun c_186 => ?_)
                            ·
                              refine lv_aload_n hx hb dX5_meetGlass_238 rfl (lv_at hl 5 rfl) ?_
                              refine lv_iload_n hx hb dX5_meetGlass_239 rfl (lv_at hl 4 rfl) ?_
                              refine lv_iconst (v := 3) hx hb dX5_meetGlass_240 (by decide +kernel) ?_
                              obtain ⟨hPc, hDc, hFc⟩ := g5_sub3 (wc := [(a_g, (oc6 6 5 a_gn e_g)), (a_gn, (arI G 30 f_g))]) hP hD hS hA [3, 4] (by decide +kernel) rfl
                              refine va_calli (va_runV (As := [.int z5, .int 3]) (rest := []) ⟨hx, hb, hml, hown, hts⟩ (t_get_G l G a_g a_gn H.size e_g z5 3 f_g h_e_g) (cwV 2 hts gV_X5_107 rfl rfl rfl hv_X6_get ⟨Nat.le_of_ble_eq_true rfl, Nat.le_of_ble_eq_true rfl⟩) (g5_preV hPc hK hDc hN hT hS hFc (ci := 6) (q0 := 0) rfl rfl) rfl rfl hl.1 rfl (lv_room (Nat.le_of_ble_eq_true rfl)) dX5_meetGlass_241 ⟨Nat.le_of_ble_eq_true rfl, Nat.le_of_ble_eq_true rfl⟩) hS (fun q _ h => hFc q h) hFc (fun r u t H locs ht hvm hw hB hz1 hk1 hS => ?_)
                              obtain ⟨hP1, hD1⟩ := hB
                              have hP1 := g5_ht ht hP1
                              obtain ⟨z188, (i_187 : z188 = tget f_g e_g.toInt 5 z5.toInt (3 : Int32).toInt), y189, rfl⟩ := hw
                              have hJ9 := va_join (wr := [(a_h, (oc1 e_wa e_le e_st e_fo e_lc a_l a_g a_b a_s a_p a_w e_gb a_bb)), (a_l, (arW G 6 f_l)), (a_k, (oc5 a_h a_j a_pt e_ln e_se e_lh e_br e_we (e_me ||| (1 <<< (z5 &&& 31))) e_ce e_wy e_ho 1)), (a_j, (oc2 a_as a_sk)), (a_as, (arI G 8 z16)), (a_sk, (arJ G 50 z171)), (a_lo, (oc3 e_cl a_hd a_sr a_cd)), (a_sr, (arI G n_sr f_sr)), (a_cd, (arI G n_cd f_cd)), (a_hd, (arI G n_hd f_hd))]) hP hD [3, 4] [0, 1, 2, 5, 6, 7, 8, 9, 10, 11] rfl rfl (by decide +kernel) (by decide +kernel) hk1 hFc hP1 hD1
                              clear hP hD hPc hDc hFc ht hvm hz1 hk1 hP1 hD1
                              obtain ⟨hP, hD⟩ := hJ9
                              refine g5_rs [(a_h, (oc1 e_wa e_le e_st e_fo e_lc a_l a_g a_b a_s a_p a_w e_gb a_bb)), (a_l, (arW G 6 f_l)), (a_k, (oc5 a_h a_j a_pt e_ln e_se e_lh e_br e_we (e_me ||| (1 <<< (z5 &&& 31))) e_ce e_wy e_ho 1)), (a_j, (oc2 a_as a_sk)), (a_as, (arI G 8 z16)), (a_sk, (arJ G 50 z171)), (a_lo, (oc3 e_cl a_hd a_sr a_cd)), (a_sr, (arI G n_sr f_sr)), (a_cd, (arI G n_cd f_cd)), (a_hd, (arI G n_hd f_hd)), (a_g, (oc6 6 5 a_gn e_g)), (a_gn, (arI G 30 f_g))] hP hD ?_
                              clear hP hD
                              intro hP hD
                              refine g5_ti (v := z188) y189 ?_
                              have hc3_191 := gl_col (k := 3) e_qg i_2 i_187 (by decide +kernel) (by omega)
                              have hg_191 : 0 ≤ z188.toInt ∧ z188.toInt ≤ 10 := by rw [i_187]; exact (e_gk z5.toInt (by omega) (by omega)).2.2.2
                              have hV_190 : z188 = tellQ (toldW g_w 1 (askQ z5 e_ce e_ho e_wy (-1) e_ln e_br)) (f_ro (80 + 5 * z5.toInt.toNat + 3)) 10 := hc3_191.symm.trans (tell_n (tW_of e_w (by decide +kernel) i_170))
                              refine W.eq (g2 := F0 m 244 ls [.int z188]) rfl ?_
                              refine lv_istore (lv' := [(8, .int z188), (7, .int z163), (6, .ref a_lo), (5, .int z12), (4, .int z5), (3, .int z5), (2, .ref a_g), (1, .int z5), (0, .ref a_k)]) hx hb dX5_meetGlass_244 hl (by decide +kernel) rfl ?_
                              clear hl
                              intro ls hl
                              refine lv_aload_n hx hb dX5_meetGlass_246 rfl (lv_at hl 8 rfl) ?_
                              refine lv_aload_n hx hb dX5_meetGlass_247 rfl (lv_at hl 8 rfl) ?_
                              refine va_get (D := G.1) (ci := 5) (v := .int e_br) (C := RX5) (T := TX5) (N := 13) hx hb hts inG_X5 hown hK hP 2 rfl rfl 6 (by decide +kernel) (hts _ fl_X5_46) (fun _ h9 => h9) rfl dX5_meetGlass_248 ?_
                              refine lv_bipush (v := 10) hx hb dX5_meetGlass_251 (by decide +kernel) ?_
                              refine W.eq (g2 := F0 m 253 ls [.int 10, .int e_br, .ref a_k]) rfl ?_
                              refine lv_iload hx hb dX5_meetGlass_253 (lv_at hl 0 rfl) ?_
                              refine lv_isub hx hb dX5_meetGlass_255 ?_
                              have t_192 : (10 - z188).toInt = 10 - z188.toInt := g5_isub (a := 10) (b := z188.toInt) (by decide +kernel) (by rfl) (by omega) (by omega)
                              refine lv_imul hx hb dX5_meetGlass_256 ?_
                              refine lv_bipush (v := 10) hx hb dX5_meetGlass_257 (by decide +kernel) ?_
                              refine lv_idiv hx hb dX5_meetGlass_259 (by decide +kernel) ?_
                              have hb_193 : 0 ≤ ((e_br * (10 - z188)) / 10).toInt ∧ ((e_br * (10 - z188)) / 10).toInt ≤ 1000000 := g_dust (by omega) (by omega)
                              refine W.eq (g2 := F0 m 260 ls [.int ((e_br * (10 - z188)) / 10), .ref a_k]) rfl ?_
                              refine va_put (D := G.1) (ci := 5) (v := .int ((e_br * (10 - z188)) / 10)) (ty := .int) (C := RX5) (T := TX5) (N := 13) hx hb hts inG_X5 tyX5 tyX5_ok nmX5 hown hK hP hD hS 2 rfl rfl 6 (by decide +kernel) (hts _ fl_X5_46) (fun _ h9 => h9) rfl (by decide +kernel) rfl rfl (Nat.le_of_ble_eq_true rfl) dX5_meetGlass_260 ?_
                              clear hP hD hS
                              intro H locs hP hD hS
                              refine g5_rs [(a_h, (oc1 e_wa e_le e_st e_fo e_lc a_l a_g a_b a_s a_p a_w e_gb a_bb)), (a_l, (arW G 6 f_l)), (a_k, (oc5 a_h a_j a_pt e_ln e_se e_lh ((e_br * (10 - z188)) / 10) e_we (e_me ||| (1 <<< (z5 &&& 31))) e_ce e_wy e_ho 1)), (a_j, (oc2 a_as a_sk)), (a_as, (arI G 8 z16)), (a_sk, (arJ G 50 z171)), (a_lo, (oc3 e_cl a_hd a_sr a_cd)), (a_sr, (arI G n_sr f_sr)), (a_cd, (arI G n_cd f_cd)), (a_hd, (arI G n_hd f_hd)), (a_g, (oc6 6 5 a_gn e_g)), (a_gn, (arI G 30 f_g))] hP hD ?_
                              clear hP hD
                              intro hP hD
                              refine lv_aload_n hx hb dX5_meetGlass_263 rfl (lv_at hl 8 rfl) ?_
                              refine va_get (D := G.1) (ci := 5) (v := .int ((e_br * (10 - z188)) / 10)) (C := RX5) (T := TX5) (N := 13) hx hb hts inG_X5 hown hK hP 2 rfl rfl 6 (by decide +kernel) (hts _ fl_X5_46) (fun _ h9 => h9) rfl dX5_meetGlass_264 ?_
                              refine lv_aload_n hx hb dX5_meetGlass_267 rfl (lv_at hl 8 rfl) ?_
                              refine va_get (D := G.1) (ci := 5) (v := .ref a_h) (C := RX5) (T := TX5) (N := 13) hx hb hts inG_X5 hown hK hP 2 rfl rfl 0 (by decide +kernel) (hts _ fl_X5_22) (fun _ h9 => h9) rfl dX5_meetGlass_268 ?_
                              refine W.eq (g2 := F0 m 271 ls [.ref a_h, .int ((e_br * (10 - z188)) / 10)]) rfl ?_
                              refine va_get (D := G.1) (ci := 1) (v := .int e_le) (C := RX1) (T := TX1) (N := 13) hx hb hts inG_X1 hown hK hP 0 rfl rfl 1 (by decide +kernel) (hts _ fl_X5_138) (fun _ h9 => h9) rfl dX5_meetGlass_271 ?_
                              refine lv_icmp_ge (tgt := 278) hx hb dX5_meetGlass_274 (by decide +kernel) (fun c_194 => ?_) (fun c_194 => ?_)
                              ·
                                have i_194 : ((e_br * (10 - z188)) / 10).toInt ≥ e_le.toInt := g5_ge (a := ((e_br * (10 - z188)) / 10).toInt) (b := e_le.toInt) rfl rfl c_194
                                refine lv_aload_n hx hb dX5_meetGlass_278 rfl (lv_at hl 8 rfl) ?_
                                refine lv_dup hx hb dX5_meetGlass_279 rfl ?_
                                refine va_get (D := G.1) (ci := 5) (v := .int e_ho) (C := RX5) (T := TX5) (N := 13) hx hb hts inG_X5 hown hK hP 2 rfl rfl 11 (by decide +kernel) (hts _ fl_X5_33) (fun _ h9 => h9) rfl dX5_meetGlass_280 ?_
                                refine lv_iload hx hb dX5_meetGlass_283 (lv_at hl 1 rfl) ?_
                                refine W.eq (g2 := F0 m 285 ls [.int z163, .int e_ho, .ref a_k]) rfl ?_
                                refine lv_isub hx hb dX5_meetGlass_285 ?_
                                have t_195 : (e_ho - z163).toInt = e_ho.toInt - z163.toInt := g5_isub (a := e_ho.toInt) (b := z163.toInt) (by rfl) (by rfl) (by omega) (by omega)
                                refine va_put (D := G.1) (ci := 5) (v := .int (e_ho - z163)) (ty := .int) (C := RX5) (T := TX5) (N := 13) hx hb hts inG_X5 tyX5 tyX5_ok nmX5 hown hK hP hD hS 2 rfl rfl 11 (by decide +kernel) (hts _ fl_X5_33) (fun _ h9 => h9) rfl (by decide +kernel) rfl rfl (Nat.le_of_ble_eq_true rfl) dX5_meetGlass_286 ?_
                                clear hP hD hS
                                intro H locs hP hD hS
                                refine g5_rs [(a_h, (oc1 e_wa e_le e_st e_fo e_lc a_l a_g a_b a_s a_p a_w e_gb a_bb)), (a_l, (arW G 6 f_l)), (a_k, (oc5 a_h a_j a_pt e_ln e_se e_lh ((e_br * (10 - z188)) / 10) e_we (e_me ||| (1 <<< (z5 &&& 31))) e_ce e_wy (e_ho - z163) 1)), (a_j, (oc2 a_as a_sk)), (a_as, (arI G 8 z16)), (a_sk, (arJ G 50 z171)), (a_lo, (oc3 e_cl a_hd a_sr a_cd)), (a_sr, (arI G n_sr f_sr)), (a_cd, (arI G n_cd f_cd)), (a_hd, (arI G n_hd f_hd)), (a_g, (oc6 6 5 a_gn e_g)), (a_gn, (arI G 30 f_g))] hP hD ?_
                                clear hP hD
                                intro hP hD
                                refine lv_aload_n hx hb dX5_meetGlass_289 rfl (lv_at hl 8 rfl) ?_
                                refine lv_iload hx hb dX5_meetGlass_290 (lv_at hl 3 rfl) ?_
                                refine lv_if_ne (tgt := 304) hx hb dX5_meetGlass_292 (by decide +kernel) (fun c_196 => ?_) (fun c_196 => ?_)
                                ·
                                  have n_196 : gNe (z12.toInt) (0) := g5_ne (a := z12.toInt) (b := 0) rfl (by decide +kernel) c_196
                                  refine lv_iload hx hb dX5_meetGlass_304 (lv_at hl 3 rfl) ?_
                                  refine lv_iconst (v := 1) hx hb dX5_meetGlass_306 (by decide +kernel) ?_
                                  refine lv_icmp_ne (tgt := 319) hx hb dX5_meetGlass_307 (by decide +kernel) (fun c_197 => ?_) (fun c_197 => ?_)
                                  ·
                                    have n_197 : gNe (z12.toInt) (1) := g5_ne (a := z12.toInt) (b := 1) rfl (by decide +kernel) c_197
                                    refine lv_aload_n hx hb dX5_meetGlass_319 rfl (lv_at hl 8 rfl) ?_
                                    refine va_get (D := G.1) (ci := 5) (v := .int e_wy) (C := RX5) (T := TX5) (N := 13) hx hb hts inG_X5 hown hK hP 2 rfl rfl 10 (by decide +kernel) (hts _ fl_X5_30) (fun _ h9 => h9) rfl dX5_meetGlass_320 ?_
                                    refine lv_iconst (v := 2) hx hb dX5_meetGlass_323 (by decide +kernel) ?_
                                    refine lv_ixor hx hb dX5_meetGlass_324 ?_
                                    have hx_198 := (g_xor (w := e_wy) (by omega) (by omega)).2
                                    refine W.eq (g2 := F0 m 325 ls [.int (e_wy ^^^ 2), .ref a_k]) rfl ?_
                                    refine va_put (D := G.1) (ci := 5) (v := .int (e_wy ^^^ 2)) (ty := .int) (C := RX5) (T := TX5) (N := 13) hx hb hts inG_X5 tyX5 tyX5_ok nmX5 hown hK hP hD hS 2 rfl rfl 10 (by decide +kernel) (hts _ fl_X5_30) (fun _ h9 => h9) rfl (by decide +kernel) rfl rfl (Nat.le_of_ble_eq_true rfl) dX5_meetGlass_325 ?_
                                    clear hP hD hS
                                    intro H locs hP hD hS
                                    refine g5_rs [(a_h, (oc1 e_wa e_le e_st e_fo e_lc a_l a_g a_b a_s a_p a_w e_gb a_bb)), (a_l, (arW G 6 f_l)), (a_k, (oc5 a_h a_j a_pt e_ln e_se e_lh ((e_br * (10 - z188)) / 10) e_we (e_me ||| (1 <<< (z5 &&& 31))) e_ce (e_wy ^^^ 2) (e_ho - z163) 1)), (a_j, (oc2 a_as a_sk)), (a_as, (arI G 8 z16)), (a_sk, (arJ G 50 z171)), (a_lo, (oc3 e_cl a_hd a_sr a_cd)), (a_sr, (arI G n_sr f_sr)), (a_cd, (arI G n_cd f_cd)), (a_hd, (arI G n_hd f_hd)), (a_g, (oc6 6 5 a_gn e_g)), (a_gn, (arI G 30 f_g))] hP hD ?_
                                    clear hP hD
                                    intro hP hD
                                    refine lv_aload_n hx hb dX5_meetGlass_328 rfl (lv_at hl 8 rfl) ?_
                                    refine lv_dup hx hb dX5_meetGlass_329 rfl ?_
                                    refine va_get (D := G.1) (ci := 5) (v := .int e_we) (C := RX5) (T := TX5) (N := 13) hx hb hts inG_X5 hown hK hP 2 rfl rfl 7 (by decide +kernel) (hts _ fl_X5_49) (fun _ h9 => h9) rfl dX5_meetGlass_330 ?_
                                    refine lv_iconst (v := 1) hx hb dX5_meetGlass_333 (by decide +kernel) ?_
                                    refine W.eq (g2 := F0 m 334 ls [.int 1, .int e_we, .ref a_k]) rfl ?_
                                    refine lv_iload hx hb dX5_meetGlass_334 (lv_at hl 4 rfl) ?_
                                    refine lv_ishl hx hb dX5_meetGlass_336 ?_
                                    refine lv_ior hx hb dX5_meetGlass_337 ?_
                                    refine va_put (D := G.1) (ci := 5) (v := .int (e_we ||| (1 <<< (z5 &&& 31)))) (ty := .int) (C := RX5) (T := TX5) (N := 13) hx hb hts inG_X5 tyX5 tyX5_ok nmX5 hown hK hP hD hS 2 rfl rfl 7 (by decide +kernel) (hts _ fl_X5_49) (fun _ h9 => h9) rfl (by decide +kernel) rfl rfl (Nat.le_of_ble_eq_true rfl) dX5_meetGlass_338 ?_
                                    clear hP hD hS
                                    intro H locs hP hD hS
                                    refine g5_rs [(a_h, (oc1 e_wa e_le e_st e_fo e_lc a_l a_g a_b a_s a_p a_w e_gb a_bb)), (a_l, (arW G 6 f_l)), (a_k, (oc5 a_h a_j a_pt e_ln e_se e_lh ((e_br * (10 - z188)) / 10) (e_we ||| (1 <<< (z5 &&& 31))) (e_me ||| (1 <<< (z5 &&& 31))) e_ce (e_wy ^^^ 2) (e_ho - z163) 1)), (a_j, (oc2 a_as a_sk)), (a_as, (arI G 8 z16)), (a_sk, (arJ G 50 z171)), (a_lo, (oc3 e_cl a_hd a_sr a_cd)), (a_sr, (arI G n_sr f_sr)), (a_cd, (arI G n_cd f_cd)), (a_hd, (arI G n_hd f_hd)), (a_g, (oc6 6 5 a_gn e_g)), (a_gn, (arI G 30 f_g))] hP hD ?_
                                    clear hP hD
                                    intro hP hD
                                    refine lv_aload_n hx hb dX5_meetGlass_341 rfl (lv_at hl 8 rfl) ?_
                                    refine W.eq (g2 := F0 m 342 ls [.ref a_k]) rfl ?_
                                    refine lv_iconst (v := 0) hx hb dX5_meetGlass_342 (by decide +kernel) ?_
                                    refine va_put (D := G.1) (ci := 5) (v := .int 0) (ty := .boolean) (C := RX5) (T := TX5) (N := 13) hx hb hts inG_X5 tyX5 tyX5_ok nmX5 hown hK hP hD hS 2 rfl rfl 12 (by decide +kernel) (hts _ fl_X5_56) (fun _ h9 => h9) rfl (by decide +kernel) rfl rfl (Nat.le_of_ble_eq_true rfl) dX5_meetGlass_343 ?_
                                    clear hP hD hS
                                    intro H locs hP hD hS
                                    refine g5_rs [(a_h, (oc1 e_wa e_le e_st e_fo e_lc a_l a_g a_b a_s a_p a_w e_gb a_bb)), (a_l, (arW G 6 f_l)), (a_k, (oc5 a_h a_j a_pt e_ln e_se e_lh ((e_br * (10 - z188)) / 10) (e_we ||| (1 <<< (z5 &&& 31))) (e_me ||| (1 <<< (z5 &&& 31))) e_ce (e_wy ^^^ 2) (e_ho - z163) 0)), (a_j, (oc2 a_as a_sk)), (a_as, (arI G 8 z16)), (a_sk, (arJ G 50 z171)), (a_lo, (oc3 e_cl a_hd a_sr a_cd)), (a_sr, (arI G n_sr f_sr)), (a_cd, (arI G n_cd f_cd)), (a_hd, (arI G n_hd f_hd)), (a_g, (oc6 6 5 a_gn e_g)), (a_gn, (arI G 30 f_g))] hP hD ?_
                                    clear hP hD
                                    intro hP hD
                                    exact W.vret hx hb hr (fun t ht hW => ⟨⟨[(a_k, (oc5 a_h a_j a_pt e_ln e_se e_lh ((e_br * (10 - z188)) / 10) (e_we ||| (1 <<< (z5 &&& 31))) (e_me ||| (1 <<< (z5 &&& 31))) e_ce (e_wy ^^^ 2) (e_ho - z163) 0)), (a_h, (oc1 e_wa e_le e_st e_fo e_lc a_l a_g a_b a_s a_p a_w e_gb a_bb)), (a_g, (oc6 6 5 a_gn e_g)), (a_gn, (arI G 30 f_g)), (a_j, (oc2 a_as a_sk)), (a_as, (arI G 8 z16)), (a_sk, (arJ G 50 z171)), (a_l, (arW G 6 f_l)), (a_lo, (oc3 e_cl a_hd a_sr a_cd)), (a_sr, (arI G n_sr f_sr)), (a_cd, (arI G n_cd f_cd)), (a_hd, (arI G n_hd f_hd))], rfl, Or.inr (⟨((e_br * (10 - z188)) / 10), (e_we ||| (1 <<< (z5 &&& 31))), (e_me ||| (1 <<< (z5 &&& 31))), (e_wy ^^^ 2), (e_ho - z163), z16, z171, ⟨by omega, by omega⟩, ⟨by omega, by omega⟩, ⟨by omega, by omega⟩, by rw [met_c hGF (by omega) hc1_14 rfl rfl hc4_20 e_f4, tn_3 hNS hV_165 (by omega) hV_190 rfl (by omega), nw_2 (so := z12) (by first | omega | (unfold gNe at *; omega)) (by first | omega | (unfold gNe at *; omega))], rfl⟩), by rw [ht]; exact hP.sub [2, 0, 10, 11, 3, 4, 5, 1, 6, 7, 8, 9] rfl, hD.sub [2, 0, 10, 11, 3, 4, 5, 1, 6, 7, 8, 9] (by decide +kernel) rfl⟩, hS.F ht⟩) hS.2.2 dX5_meetGlass_346
                                  ·
                                    have i_197 : z12.toInt = 1 := g5_neN (a := z12.toInt) (b := 1) rfl (by decide +kernel) c_197
                                    omega
                                ·
                                  have i_196 : z12.toInt = 0 := g5_neN (a := z12.toInt) (b := 0) rfl (by decide +kernel) c_196
                                  omega
                              ·
                                have i_194 : ((e_br * (10 - z188)) / 10).toInt < e_le.toInt := g5_geN (a := ((e_br * (10 - z188)) / 10).toInt) (b := e_le.toInt) rfl rfl c_194
                                exact W.vret hx hb hr (fun t ht hW => ⟨⟨[(a_k, (oc5 a_h a_j a_pt e_ln e_se e_lh ((e_br * (10 - z188)) / 10) e_we (e_me ||| (1 <<< (z5 &&& 31))) e_ce e_wy e_ho 1)), (a_h, (oc1 e_wa e_le e_st e_fo e_lc a_l a_g a_b a_s a_p a_w e_gb a_bb)), (a_g, (oc6 6 5 a_gn e_g)), (a_gn, (arI G 30 f_g)), (a_j, (oc2 a_as a_sk)), (a_as, (arI G 8 z16)), (a_sk, (arJ G 50 z171)), (a_l, (arW G 6 f_l)), (a_lo, (oc3 e_cl a_hd a_sr a_cd)), (a_sr, (arI G n_sr f_sr)), (a_cd, (arI G n_cd f_cd)), (a_hd, (arI G n_hd f_hd))], rfl, Or.inl (⟨((e_br * (10 - z188)) / 10), (e_me ||| (1 <<< (z5 &&& 31))), z16, z171, ⟨by omega, by omega⟩, by rw [met_c hGF (by omega) hc1_14 rfl rfl hc4_20 e_f4, tn_2 hNS hV_165 (by omega) hV_190 rfl (by omega)]; exact ⟨rfl, rfl, rfl⟩, rfl⟩), by rw [ht]; exact hP.sub [2, 0, 10, 11, 3, 4, 5, 1, 6, 7, 8, 9] rfl, hD.sub [2, 0, 10, 11, 3, 4, 5, 1, 6, 7, 8, 9] (by decide +kernel) rfl⟩, hS.F ht⟩) hS.2.2 dX5_meetGlass_277
                            ·
                              exact absurd c_186 (by decide +kernel)
                        ·
                          have i_167 : z163.toInt > e_ho.toInt := g5_leN (a := z163.toInt) (b := e_ho.toInt) rfl rfl c_167
                          exact W.vret hx hb hr (fun t ht hW => ⟨⟨[(a_k, (oc5 a_h a_j a_pt e_ln e_se e_lh e_br e_we (e_me ||| (1 <<< (z5 &&& 31))) e_ce e_wy e_ho 1)), (a_h, (oc1 e_wa e_le e_st e_fo e_lc a_l a_g a_b a_s a_p a_w e_gb a_bb)), (a_g, (oc6 6 5 a_gn e_g)), (a_gn, (arI G 30 f_g)), (a_j, (oc2 a_as a_sk)), (a_as, (arI G 8 z16)), (a_sk, (arJ G 50 z121)), (a_l, (arW G 6 f_l)), (a_lo, (oc3 e_cl a_hd a_sr a_cd)), (a_sr, (arI G n_sr f_sr)), (a_cd, (arI G n_cd f_cd)), (a_hd, (arI G n_hd f_hd))], rfl, Or.inl (⟨e_br, (e_me ||| (1 <<< (z5 &&& 31))), z16, z121, h_e_br, by rw [met_c hGF (by omega) hc1_14 rfl rfl hc4_20 e_f4, tn_1 hNS hV_165 (by omega)]; exact ⟨rfl, rfl, rfl⟩, rfl⟩), by rw [ht]; exact hP.sub [2, 0, 10, 11, 3, 4, 5, 1, 6, 7, 8, 9] rfl, hD.sub [2, 0, 10, 11, 3, 4, 5, 1, 6, 7, 8, 9] (by decide +kernel) rfl⟩, hS.F ht⟩) hS.2.2 dX5_meetGlass_212
                      ·
                        exact absurd c_161 (by decide +kernel)
                  ·
                    have n_117 : gNe ((z12.toInt - 2)) ((e_wy ^^^ 2).toInt) := by have z := g5_eqN (a := (z12 - 2).toInt) (b := (e_wy ^^^ 2).toInt) (by rfl) (by rfl) c_117; unfold gNe; omega
                    exact W.vret hx hb hr (fun t ht hW => ⟨⟨[(a_k, (oc5 a_h a_j a_pt e_ln e_se e_lh e_br e_we (e_me ||| (1 <<< (z5 &&& 31))) e_ce e_wy e_ho 1)), (a_h, (oc1 e_wa e_le e_st e_fo e_lc a_l a_g a_b a_s a_p a_w e_gb a_bb)), (a_g, (oc6 6 5 a_gn e_g)), (a_gn, (arI G 30 f_g)), (a_j, (oc2 a_as a_sk)), (a_as, (arI G 8 z16)), (a_sk, (arJ G 50 z25)), (a_l, (arW G 6 f_l)), (a_lo, (oc3 e_cl a_hd a_sr a_cd)), (a_sr, (arI G n_sr f_sr)), (a_cd, (arI G n_cd f_cd)), (a_hd, (arI G n_hd f_hd))], rfl, Or.inl (⟨e_br, (e_me ||| (1 <<< (z5 &&& 31))), z16, z25, h_e_br, by rw [met_c hGF (by omega) hc1_14 rfl rfl hc4_20 e_f4, tn_0 (Or.inr (Or.inr ⟨by omega, fun q9 => by have q8 := wr_of (so := z12) (wy := e_wy) ⟨by omega, by omega⟩ ⟨by omega, by omega⟩; unfold gNe at *; omega⟩))]; exact ⟨rfl, rfl, rfl⟩, rfl⟩), by rw [ht]; exact hP.sub [2, 0, 3, 4, 5, 6, 7, 1, 8, 9, 10, 11] rfl, hD.sub [2, 0, 3, 4, 5, 6, 7, 1, 8, 9, 10, 11] (by decide +kernel) rfl⟩, hS.F ht⟩) hS.2.2 dX5_meetGlass_169
        ·
          have i_10 : z5.toInt = (-1) := g5_neN (a := z5.toInt) (b := (-1)) rfl (by decide +kernel) c_10
          omega
      ·
        have i_9 : z5.toInt = (-1) := g5_neN (a := z5.toInt) (b := (-1)) rfl (by decide +kernel) c_9
        omega
    ·
      have i_8 : z5.toInt = (-1) := g5_neN (a := z5.toInt) (b := (-1)) rfl (by decide +kernel) c_8
      omega
