set_option maxHeartbeats 4000000 in
set_option maxRecDepth 100000 in
theorem h_putN (l : Launch) (G : g5_G) (a_h a_b a_bn a_bb a_l a_g a_s a_p a_w : Nat) (sz : Nat) (e_le : Int32) (e_st : Int32) (e_fo : Int32) (e_lc : Int32) (e_b : Int32) (p_r : Int32) (p_f : Int32) (p_t : Int32) (p_v : Int32) (e_wa : Int64) (e_gb : Int64) (f_b : Nat → Int32) (f_bb : Nat → Int64) (h_e_b : 0 ≤ e_b.toInt ∧ e_b.toInt ≤ 5) (h_p_f : 0 ≤ p_f.toInt ∧ p_f.toInt ≤ 23) (h_p_t : 0 ≤ p_t.toInt ∧ p_t.toInt ≤ 23) : Met l yX1_put (wsG yX1_put cX1_put 10 none) ({ frames := 2, cells := 0, slots := 0, locals := 44 }) (va_Pc [.ref a_h, .int p_r, .int p_f, .int p_t, .int p_v] (g5_P G [(a_h, .inr (1, [.long e_wa, .int e_le, .int e_st, .int e_fo, .int e_lc, .ref a_l, .ref a_g, .ref a_b, .ref a_s, .ref a_p, .ref a_w, .long e_gb, .ref a_bb])), (a_b, .inr (6, [.int 5, .int 24, .ref a_bn, .int e_b])), (a_bn, .inl (G.2 0, 120, .inl f_b)), (a_bb, .inl (G.2 1, 24, .inr (.inl f_bb)))] sz)) (va_Qv (fun (u : va_W) => (∃ (o_f : Nat → Int32) (o_b : Nat → Int64), (u = [(a_h, .inr (1, [.long e_wa, .int e_le, .int e_st, .int e_fo, .int e_lc, .ref a_l, .ref a_g, .ref a_b, .ref a_s, .ref a_p, .ref a_w, .long e_gb, .ref a_bb])), (a_b, .inr (6, [.int 5, .int 24, .ref a_bn, .int e_b])), (a_bn, .inl (G.2 0, 120, .inl o_f)), (a_bb, .inl (G.2 1, 24, .inr (.inl o_b)))]))) (g5_B G (va_A [(a_h, .inr (1, [.long e_wa, .int e_le, .int e_st, .int e_fo, .int e_lc, .ref a_l, .ref a_g, .ref a_b, .ref a_s, .ref a_p, .ref a_w, .long e_gb, .ref a_bb])), (a_b, .inr (6, [.int 5, .int 24, .ref a_bn, .int e_b])), (a_bn, .inl (G.2 0, 120, .inl f_b)), (a_bb, .inl (G.2 1, 24, .inr (.inl f_bb)))] sz)) (va_A [(a_h, .inr (1, [.long e_wa, .int e_le, .int e_st, .int e_fo, .int e_lc, .ref a_l, .ref a_g, .ref a_b, .ref a_s, .ref a_p, .ref a_w, .long e_gb, .ref a_bb])), (a_b, .inr (6, [.int 5, .int 24, .ref a_bn, .int e_b])), (a_bn, .inl (G.2 0, 120, .inl f_b)), (a_bb, .inl (G.2 1, 24, .inr (.inl f_bb)))] sz)) 0 0 (va_A [(a_h, .inr (1, [.long e_wa, .int e_le, .int e_st, .int e_fo, .int e_lc, .ref a_l, .ref a_g, .ref a_b, .ref a_s, .ref a_p, .ref a_w, .long e_gb, .ref a_bb])), (a_b, .inr (6, [.int 5, .int 24, .ref a_bn, .int e_b])), (a_bn, .inl (G.2 0, 120, .inl f_b)), (a_bb, .inl (G.2 1, 24, .inr (.inl f_bb)))] sz) := by
  refine Met.ofW (cc := cX1_put) (maxL := 10) (ret := none) (by decide) rfl ?_
  intro p e s m args below meth c s₁ B hml hv
  obtain ⟨rfl, hsz, hP, hK, hD0, hN, hT⟩ := hv
  have hx := B.exec
  have hb := B.bytes
  have hr := B.returns
  have hts : ∀ w ∈ tblG, w.before _ s = true := fun w h => atoms_spec (ws := (wsG yX1_put cX1_put 10 none)) B.pre w (List.mem_cons_of_mem _ h)
  have hown : s.vm.findClass RX1 = some m.cls := findClass_of_methodNamed B.named
  have hlocks := B.notSynchronized
  subst hsz
  have hD := hD0.self (sz := s.heap.size)
  generalize hAe : va_A [(a_h, .inr (1, [.long e_wa, .int e_le, .int e_st, .int e_fo, .int e_lc, .ref a_l, .ref a_g, .ref a_b, .ref a_s, .ref a_p, .ref a_w, .long e_gb, .ref a_bb])), (a_b, .inr (6, [.int 5, .int 24, .ref a_bn, .int e_b])), (a_bn, .inl (G.2 0, 120, .inl f_b)), (a_bb, .inl (G.2 1, 24, .inr (.inl f_bb)))] s.heap.size = A at hD hT ⊢
  have hA : ∀ q : Nat, s.heap.size ≤ q → A q := fun q h => by rw [← hAe]; exact Or.inr h
  have hS : va_S A s.heap s.heap [] := va_S.rf
  have hP : va_P G.1 vwCl [(a_h, .inr (1, [.long e_wa, .int e_le, .int e_st, .int e_fo, .int e_lc, .ref a_l, .ref a_g, .ref a_b, .ref a_s, .ref a_p, .ref a_w, .long e_gb, .ref a_bb])), (a_b, .inr (6, [.int 5, .int 24, .ref a_bn, .int e_b])), (a_bn, .inl (G.2 0, 120, .inl f_b)), (a_bb, .inl (G.2 1, 24, .inr (.inl f_bb)))] s.heap := hP
  have hl := lv_entry ([.ref a_h, .int p_r, .int p_f, .int p_t, .int p_v]) (n := 10) (Nat.le_of_ble_eq_true rfl)
  rw [lg_entry_eq]
  generalize (lg_sl ([.ref a_h, .int p_r, .int p_f, .int p_t, .int p_v]) ++ List.replicate (10 - (lg_sl ([.ref a_h, .int p_r, .int p_f, .int p_t, .int p_v])).length) Slot.unset).toArray = ls at hl ⊢
  have hl : lv_has ls 10 [(0, .ref a_h), (1, .int p_r), (2, .int p_f), (3, .int p_t), (4, .int p_v)] := hl
  refine lv_iload_n hx hb dX1_put_0 rfl (lv_at hl 2 rfl) ?_
  refine lv_istore (lv' := [(5, .int p_f), (0, .ref a_h), (1, .int p_r), (2, .int p_f), (3, .int p_t), (4, .int p_v)]) hx hb dX1_put_1 hl (by decide) rfl (fun ls hl => ?_)
  refine g5_loop (α := (Int32) × (Nat → Int32) × (Nat → Int64)) (fun (q : (Int32) × (Nat → Int32) × (Nat → Int64)) (ls : Array Slot) (H : Heap) (locs : List Loc) => match q with | (k_h, k_f, k_b) => lv_has ls 10 [(5, .int k_h), (0, .ref a_h), (1, .int p_r), (2, .int p_f), (3, .int p_t), (4, .int p_v)] ∧ va_P G.1 vwCl [(a_h, .inr (1, [.long e_wa, .int e_le, .int e_st, .int e_fo, .int e_lc, .ref a_l, .ref a_g, .ref a_b, .ref a_s, .ref a_p, .ref a_w, .long e_gb, .ref a_bb])), (a_b, .inr (6, [.int 5, .int 24, .ref a_bn, .int e_b])), (a_bn, .inl (G.2 0, 120, .inl k_f)), (a_bb, .inl (G.2 1, 24, .inr (.inl k_b)))] H ∧ va_D A [(a_h, .inr (1, [.long e_wa, .int e_le, .int e_st, .int e_fo, .int e_lc, .ref a_l, .ref a_g, .ref a_b, .ref a_s, .ref a_p, .ref a_w, .long e_gb, .ref a_bb])), (a_b, .inr (6, [.int 5, .int 24, .ref a_bn, .int e_b])), (a_bn, .inl (G.2 0, 120, .inl k_f)), (a_bb, .inl (G.2 1, 24, .inr (.inl k_b)))] ∧ va_S A s.heap H locs ∧ (0 ≤ k_h.toInt ∧ k_h.toInt ≤ 24)) (fun (q : (Int32) × (Nat → Int32) × (Nat → Int64)) => match q with | (k_h, k_f, k_b) => Int.toNat (24 - k_h.toInt)) (p_f, f_b, f_bb) ⟨lv_sub hl [0, 1, 2, 3, 4, 5] rfl, hP, hD, hS, ⟨by omega, by omega⟩⟩ ?_
  rintro ⟨k_h, k_f, k_b⟩ ls H locs ⟨hl, hP, hD, hS, i_1⟩ ih_3_2
  have hl : lv_has ls 10 [(5, .int k_h), (0, .ref a_h), (1, .int p_r), (2, .int p_f), (3, .int p_t), (4, .int p_v)] := hl
  have i_1 : 0 ≤ k_h.toInt ∧ k_h.toInt ≤ 24 := i_1
  have hP : va_P G.1 vwCl [(a_h, .inr (1, [.long e_wa, .int e_le, .int e_st, .int e_fo, .int e_lc, .ref a_l, .ref a_g, .ref a_b, .ref a_s, .ref a_p, .ref a_w, .long e_gb, .ref a_bb])), (a_b, .inr (6, [.int 5, .int 24, .ref a_bn, .int e_b])), (a_bn, .inl (G.2 0, 120, .inl k_f)), (a_bb, .inl (G.2 1, 24, .inr (.inl k_b)))] H := hP
  have hD : va_D A [(a_h, .inr (1, [.long e_wa, .int e_le, .int e_st, .int e_fo, .int e_lc, .ref a_l, .ref a_g, .ref a_b, .ref a_s, .ref a_p, .ref a_w, .long e_gb, .ref a_bb])), (a_b, .inr (6, [.int 5, .int 24, .ref a_bn, .int e_b])), (a_bn, .inl (G.2 0, 120, .inl k_f)), (a_bb, .inl (G.2 1, 24, .inr (.inl k_b)))] := hD
  refine lv_iload hx hb dX1_put_3 (lv_at hl 0 rfl) ?_
  refine lv_iload_n hx hb dX1_put_5 rfl (lv_at hl 4 rfl) ?_
  refine lv_icmp_gt (tgt := 92) hx hb dX1_put_6 (by decide) (fun c_3 => ?_) (fun c_3 => ?_)
  ·
    have i_3 : k_h.toInt > p_t.toInt := by have z := g5_gt (a := k_h.toInt) (b := p_t.toInt) (by rfl) (by rfl) c_3; omega
    exact W.vret hx hb hr (fun t ht hW => ⟨⟨[(a_h, .inr (1, [.long e_wa, .int e_le, .int e_st, .int e_fo, .int e_lc, .ref a_l, .ref a_g, .ref a_b, .ref a_s, .ref a_p, .ref a_w, .long e_gb, .ref a_bb])), (a_b, .inr (6, [.int 5, .int 24, .ref a_bn, .int e_b])), (a_bn, .inl (G.2 0, 120, .inl k_f)), (a_bb, .inl (G.2 1, 24, .inr (.inl k_b)))], rfl, ⟨k_f, k_b, rfl⟩, by rw [ht]; exact hP.sub [0, 1, 2, 3] rfl, hD.sub [0, 1, 2, 3] (by decide) rfl⟩, hS.F ht⟩) hS.2.2 dX1_put_92
  ·
    have i_3 : k_h.toInt ≤ p_t.toInt := by have z := g5_gtN (a := k_h.toInt) (b := p_t.toInt) (by rfl) (by rfl) c_3; omega
    refine lv_aload_n hx hb dX1_put_9 rfl (lv_at hl 1 rfl) ?_
    refine va_get (D := G.1) (ci := 1) (v := .ref a_b) (C := RX1) (T := TX1) (N := 13) hx hb hts inG_X1 hown hK hP 0 rfl rfl 7 (by decide) (hts _ fl_X1_43) (fun _ h9 => h9) rfl dX1_put_10 ?_
    refine lv_iload_n hx hb dX1_put_13 rfl (lv_at hl 2 rfl) ?_
    refine lv_iload hx hb dX1_put_14 (lv_at hl 0 rfl) ?_
    refine lv_iload hx hb dX1_put_16 (lv_at hl 5 rfl) ?_
    have hPc := hP.sub (ws' := [(a_b, .inr (6, [.int 5, .int 24, .ref a_bn, .int e_b])), (a_bn, .inl (G.2 0, 120, .inl k_f))]) [1, 2] rfl
    have hDc := hD.sub (ws' := [(a_b, .inr (6, [.int 5, .int 24, .ref a_bn, .int e_b])), (a_bn, .inl (G.2 0, 120, .inl k_f))]) [1, 2] (by decide) rfl
    have hFc := va_free (wc := [(a_b, .inr (6, [.int 5, .int 24, .ref a_bn, .int e_b])), (a_bn, .inl (G.2 0, 120, .inl k_f))]) hD hS hA [1, 2] rfl
    refine va_callv (va_runV (As := [.int p_r, .int k_h, .int p_v]) (rest := []) ⟨hx, hb, hml, hown, hts⟩ (t_set_B l G a_b a_bn H.size e_b p_r k_h p_v k_f ⟨by omega, by omega⟩) (cwV 3 hts gV_X1_70 rfl rfl rfl hv_X6_set ⟨Nat.le_of_ble_eq_true rfl, Nat.le_of_ble_eq_true rfl⟩) (g5_preV hPc hK hDc hN hT hS hFc (ci := 6) (q0 := 0) rfl rfl) rfl rfl hl.1 rfl (lv_room (Nat.le_of_ble_eq_true rfl)) dX1_put_18 ⟨Nat.le_of_ble_eq_true rfl, Nat.le_of_ble_eq_true rfl⟩) hS (fun q _ h => hFc q h) hFc (fun u t H1 locs ht hvm hw hB hz1 hk1 hS => ?_)
    obtain ⟨hP1, hD1⟩ := hB
    rw [ht] at hP1
    obtain ⟨z5, i_4, rfl⟩ := hw
    have i_4 : z5 = tset k_f e_b.toInt 24 p_r.toInt k_h.toInt p_v := i_4
    obtain ⟨hP, hD⟩ := va_join (wr := [(a_h, .inr (1, [.long e_wa, .int e_le, .int e_st, .int e_fo, .int e_lc, .ref a_l, .ref a_g, .ref a_b, .ref a_s, .ref a_p, .ref a_w, .long e_gb, .ref a_bb])), (a_bb, .inl (G.2 1, 24, .inr (.inl k_b)))]) (w1 := [(a_b, .inr (6, [.int 5, .int 24, .ref a_bn, .int e_b])), (a_bn, .inl (G.2 0, 120, .inl z5))]) hP hD [1, 2] [0, 3] rfl rfl (by decide) (by decide) hk1 hFc hP1 hD1
    generalize H1 = H at hP hS ⊢
    have hP : va_P G.1 vwCl [(a_h, .inr (1, [.long e_wa, .int e_le, .int e_st, .int e_fo, .int e_lc, .ref a_l, .ref a_g, .ref a_b, .ref a_s, .ref a_p, .ref a_w, .long e_gb, .ref a_bb])), (a_bb, .inl (G.2 1, 24, .inr (.inl k_b))), (a_b, .inr (6, [.int 5, .int 24, .ref a_bn, .int e_b])), (a_bn, .inl (G.2 0, 120, .inl z5))] H := hP
    have hD : va_D A [(a_h, .inr (1, [.long e_wa, .int e_le, .int e_st, .int e_fo, .int e_lc, .ref a_l, .ref a_g, .ref a_b, .ref a_s, .ref a_p, .ref a_w, .long e_gb, .ref a_bb])), (a_bb, .inl (G.2 1, 24, .inr (.inl k_b))), (a_b, .inr (6, [.int 5, .int 24, .ref a_bn, .int e_b])), (a_bn, .inl (G.2 0, 120, .inl z5))] := hD
    refine lv_lconst (v := 0) hx hb dX1_put_21 (by decide) ?_
    refine lv_lstore (lv' := [(6, .long 0), (5, .int k_h), (0, .ref a_h), (1, .int p_r), (2, .int p_f), (3, .int p_t), (4, .int p_v)]) hx hb dX1_put_22 hl (by decide) rfl (fun ls hl => ?_)
    refine lv_iconst (v := 0) hx hb dX1_put_24 (by decide) ?_
    refine lv_istore (lv' := [(8, .int 0), (6, .long 0), (5, .int k_h), (0, .ref a_h), (1, .int p_r), (2, .int p_f), (3, .int p_t), (4, .int p_v)]) hx hb dX1_put_25 hl (by decide) rfl (fun ls hl => ?_)
    refine g5_loop (α := (Int32) × (Int64)) (fun (q : (Int32) × (Int64)) (ls : Array Slot) (H : Heap) (locs : List Loc) => match q with | (k_o, k_x) => lv_has ls 10 [(6, .long k_x), (8, .int k_o), (5, .int k_h), (0, .ref a_h), (1, .int p_r), (2, .int p_f), (3, .int p_t), (4, .int p_v)] ∧ va_P G.1 vwCl [(a_h, .inr (1, [.long e_wa, .int e_le, .int e_st, .int e_fo, .int e_lc, .ref a_l, .ref a_g, .ref a_b, .ref a_s, .ref a_p, .ref a_w, .long e_gb, .ref a_bb])), (a_bb, .inl (G.2 1, 24, .inr (.inl k_b))), (a_b, .inr (6, [.int 5, .int 24, .ref a_bn, .int e_b])), (a_bn, .inl (G.2 0, 120, .inl z5))] H ∧ va_D A [(a_h, .inr (1, [.long e_wa, .int e_le, .int e_st, .int e_fo, .int e_lc, .ref a_l, .ref a_g, .ref a_b, .ref a_s, .ref a_p, .ref a_w, .long e_gb, .ref a_bb])), (a_bb, .inl (G.2 1, 24, .inr (.inl k_b))), (a_b, .inr (6, [.int 5, .int 24, .ref a_bn, .int e_b])), (a_bn, .inl (G.2 0, 120, .inl z5))] ∧ va_S A s.heap H locs ∧ (0 ≤ k_o.toInt ∧ k_o.toInt ≤ 5)) (fun (q : (Int32) × (Int64)) => match q with | (k_o, k_x) => Int.toNat (5 - k_o.toInt)) (0, 0) ⟨lv_sub hl [1, 0, 2, 3, 4, 5, 6, 7] rfl, hP, hD, hS, ⟨by decide, by decide⟩⟩ ?_
    rintro ⟨k_o, k_x⟩ ls H locs ⟨hl, hP, hD, hS, i_6⟩ ih_27_7
    have hl : lv_has ls 10 [(6, .long k_x), (8, .int k_o), (5, .int k_h), (0, .ref a_h), (1, .int p_r), (2, .int p_f), (3, .int p_t), (4, .int p_v)] := hl
    have i_6 : 0 ≤ k_o.toInt ∧ k_o.toInt ≤ 5 := i_6
    have hP : va_P G.1 vwCl [(a_h, .inr (1, [.long e_wa, .int e_le, .int e_st, .int e_fo, .int e_lc, .ref a_l, .ref a_g, .ref a_b, .ref a_s, .ref a_p, .ref a_w, .long e_gb, .ref a_bb])), (a_bb, .inl (G.2 1, 24, .inr (.inl k_b))), (a_b, .inr (6, [.int 5, .int 24, .ref a_bn, .int e_b])), (a_bn, .inl (G.2 0, 120, .inl z5))] H := hP
    have hD : va_D A [(a_h, .inr (1, [.long e_wa, .int e_le, .int e_st, .int e_fo, .int e_lc, .ref a_l, .ref a_g, .ref a_b, .ref a_s, .ref a_p, .ref a_w, .long e_gb, .ref a_bb])), (a_bb, .inl (G.2 1, 24, .inr (.inl k_b))), (a_b, .inr (6, [.int 5, .int 24, .ref a_bn, .int e_b])), (a_bn, .inl (G.2 0, 120, .inl z5))] := hD
    refine lv_iload hx hb dX1_put_27 (lv_at hl 1 rfl) ?_
    refine lv_aload_n hx hb dX1_put_29 rfl (lv_at hl 3 rfl) ?_
    refine va_get (D := G.1) (ci := 1) (v := .ref a_b) (C := RX1) (T := TX1) (N := 13) hx hb hts inG_X1 hown hK hP 0 rfl rfl 7 (by decide) (hts _ fl_X1_43) (fun _ h9 => h9) rfl dX1_put_30 ?_
    refine va_get (D := G.1) (ci := 6) (v := .int e_b) (C := RX6) (T := TX6) (N := 4) hx hb hts inG_X6 hown hK hP 2 rfl rfl 3 (by decide) (hts _ fl_X1_74) (fun _ h9 => h9) rfl dX1_put_33 ?_
    refine lv_icmp_ge (tgt := 77) hx hb dX1_put_36 (by decide) (fun c_8 => ?_) (fun c_8 => ?_)
    ·
      have i_8 : k_o.toInt ≥ e_b.toInt := by have z := g5_ge (a := k_o.toInt) (b := e_b.toInt) (by rfl) (by rfl) c_8; omega
      refine lv_aload_n hx hb dX1_put_77 rfl (lv_at hl 3 rfl) ?_
      refine va_get (D := G.1) (ci := 1) (v := .ref a_bb) (C := RX1) (T := TX1) (N := 13) hx hb hts inG_X1 hown hK hP 0 rfl rfl 12 (by decide) (hts _ fl_X1_58) (fun _ h9 => h9) rfl dX1_put_78 ?_
      refine lv_iload hx hb dX1_put_81 (lv_at hl 2 rfl) ?_
      refine lv_lload hx hb dX1_put_83 (lv_at hl 0 rfl) ?_
      refine va_last hx hb hK hP hD hS 1 1 rfl rfl (i := k_h) (x := k_x) (vp_in_iff.mpr ⟨by omega, by omega⟩) dX1_put_85 (fun H locs hP hD hS => ?_)
      have hP : va_P G.1 vwCl [(a_h, .inr (1, [.long e_wa, .int e_le, .int e_st, .int e_fo, .int e_lc, .ref a_l, .ref a_g, .ref a_b, .ref a_s, .ref a_p, .ref a_w, .long e_gb, .ref a_bb])), (a_bb, .inl (G.2 1, 24, .inr (.inl (vp_updL k_b k_h.toNatClampNeg k_x)))), (a_b, .inr (6, [.int 5, .int 24, .ref a_bn, .int e_b])), (a_bn, .inl (G.2 0, 120, .inl z5))] H := hP
      have hD : va_D A [(a_h, .inr (1, [.long e_wa, .int e_le, .int e_st, .int e_fo, .int e_lc, .ref a_l, .ref a_g, .ref a_b, .ref a_s, .ref a_p, .ref a_w, .long e_gb, .ref a_bb])), (a_bb, .inl (G.2 1, 24, .inr (.inl (vp_updL k_b k_h.toNatClampNeg k_x)))), (a_b, .inr (6, [.int 5, .int 24, .ref a_bn, .int e_b])), (a_bn, .inl (G.2 0, 120, .inl z5))] := hD
      refine lv_iinc (v := (k_h + 1)) (lv' := [(5, .int (k_h + 1)), (6, .long k_x), (8, .int k_o), (0, .ref a_h), (1, .int p_r), (2, .int p_f), (3, .int p_t), (4, .int p_v)]) hx hb dX1_put_86 hl (k := 2) rfl rfl (by decide) rfl (fun ls hl => ?_)
      have t_9 : (k_h + 1).toInt = k_h.toInt + 1 := g5_iadd (a := k_h.toInt) (b := 1) rfl (by decide) (by omega) (by omega)
      refine lv_goto (tgt := 3) hx hb dX1_put_89 (by decide) ?_
      exact ih_3_2 ((k_h + 1), z5, (vp_updL k_b k_h.toNatClampNeg k_x)) ls H locs (show Int.toNat (24 - (k_h + 1).toInt) < Int.toNat (24 - k_h.toInt) from g_up (show k_h.toInt < (k_h + 1).toInt by omega) (show k_h.toInt < 24 by omega)) ⟨lv_sub hl [0, 3, 4, 5, 6, 7] rfl, hP.sub [0, 2, 3, 1] rfl, hD.sub [0, 2, 3, 1] (by decide) rfl, hS, ⟨by omega, by omega⟩⟩
    ·
      have i_8 : k_o.toInt < e_b.toInt := by have z := g5_geN (a := k_o.toInt) (b := e_b.toInt) (by rfl) (by rfl) c_8; omega
      refine lv_aload_n hx hb dX1_put_39 rfl (lv_at hl 3 rfl) ?_
      refine va_get (D := G.1) (ci := 1) (v := .ref a_b) (C := RX1) (T := TX1) (N := 13) hx hb hts inG_X1 hown hK hP 0 rfl rfl 7 (by decide) (hts _ fl_X1_43) (fun _ h9 => h9) rfl dX1_put_40 ?_
      refine lv_iload hx hb dX1_put_43 (lv_at hl 1 rfl) ?_
      refine lv_iload hx hb dX1_put_45 (lv_at hl 2 rfl) ?_
      have hPc := hP.sub (ws' := [(a_b, .inr (6, [.int 5, .int 24, .ref a_bn, .int e_b])), (a_bn, .inl (G.2 0, 120, .inl z5))]) [2, 3] rfl
      have hDc := hD.sub (ws' := [(a_b, .inr (6, [.int 5, .int 24, .ref a_bn, .int e_b])), (a_bn, .inl (G.2 0, 120, .inl z5))]) [2, 3] (by decide) rfl
      have hFc := va_free (wc := [(a_b, .inr (6, [.int 5, .int 24, .ref a_bn, .int e_b])), (a_bn, .inl (G.2 0, 120, .inl z5))]) hD hS hA [2, 3] rfl
      refine va_calli (va_runV (As := [.int k_o, .int k_h]) (rest := []) ⟨hx, hb, hml, hown, hts⟩ (t_get_B l G a_b a_bn H.size e_b k_o k_h z5 ⟨by omega, by omega⟩) (cwV 2 hts gV_X1_77 rfl rfl rfl hv_X6_get ⟨Nat.le_of_ble_eq_true rfl, Nat.le_of_ble_eq_true rfl⟩) (g5_preV hPc hK hDc hN hT hS hFc (ci := 6) (q0 := 0) rfl rfl) rfl rfl hl.1 rfl (lv_room (Nat.le_of_ble_eq_true rfl)) dX1_put_47 ⟨Nat.le_of_ble_eq_true rfl, Nat.le_of_ble_eq_true rfl⟩) hS (fun q _ h => hFc q h) hFc (fun r u t H1 locs ht hvm hw hB hz1 hk1 hS => ?_)
      obtain ⟨hP1, hD1⟩ := hB
      rw [ht] at hP1
      obtain ⟨z11, i_10, y12, rfl⟩ := hw
      have i_10 : z11 = tget z5 e_b.toInt 24 k_o.toInt k_h.toInt := i_10
      obtain ⟨hP, hD⟩ := va_join (wr := [(a_h, .inr (1, [.long e_wa, .int e_le, .int e_st, .int e_fo, .int e_lc, .ref a_l, .ref a_g, .ref a_b, .ref a_s, .ref a_p, .ref a_w, .long e_gb, .ref a_bb])), (a_bb, .inl (G.2 1, 24, .inr (.inl k_b)))]) (w1 := [(a_b, .inr (6, [.int 5, .int 24, .ref a_bn, .int e_b])), (a_bn, .inl (G.2 0, 120, .inl z5))]) hP hD [2, 3] [0, 1] rfl rfl (by decide) (by decide) hk1 hFc hP1 hD1
      generalize H1 = H at hP hS ⊢
      have hP : va_P G.1 vwCl [(a_h, .inr (1, [.long e_wa, .int e_le, .int e_st, .int e_fo, .int e_lc, .ref a_l, .ref a_g, .ref a_b, .ref a_s, .ref a_p, .ref a_w, .long e_gb, .ref a_bb])), (a_bb, .inl (G.2 1, 24, .inr (.inl k_b))), (a_b, .inr (6, [.int 5, .int 24, .ref a_bn, .int e_b])), (a_bn, .inl (G.2 0, 120, .inl z5))] H := hP
      have hD : va_D A [(a_h, .inr (1, [.long e_wa, .int e_le, .int e_st, .int e_fo, .int e_lc, .ref a_l, .ref a_g, .ref a_b, .ref a_s, .ref a_p, .ref a_w, .long e_gb, .ref a_bb])), (a_bb, .inl (G.2 1, 24, .inr (.inl k_b))), (a_b, .inr (6, [.int 5, .int 24, .ref a_bn, .int e_b])), (a_bn, .inl (G.2 0, 120, .inl z5))] := hD
      refine g5_ti (v := z11) y12 ?_
      refine lv_istore (lv' := [(9, .int z11), (6, .long k_x), (8, .int k_o), (5, .int k_h), (0, .ref a_h), (1, .int p_r), (2, .int p_f), (3, .int p_t), (4, .int p_v)]) hx hb dX1_put_50 hl (by decide) rfl (fun ls hl => ?_)
      refine lv_lload hx hb dX1_put_52 (lv_at hl 1 rfl) ?_
      refine lv_iload hx hb dX1_put_54 (lv_at hl 0 rfl) ?_
      refine lv_iconst (v := (-1)) hx hb dX1_put_56 (by decide) ?_
      refine lv_icmp_ne (tgt := 64) hx hb dX1_put_57 (by decide) (fun c_13 => ?_) (fun c_13 => ?_)
      ·
        have n_13 : gNe (z11.toInt) ((-1)) := by have z := g5_ne (a := z11.toInt) (b := (-1)) (by rfl) (by decide) c_13; unfold gNe; omega
        refine lv_lconst (v := 1) hx hb dX1_put_64 (by decide) ?_
        refine lv_iload hx hb dX1_put_65 (lv_at hl 0 rfl) ?_
        refine lv_lshl (v := ((1 : Int64) <<< (z11.toInt64 &&& 63))) hx hb dX1_put_67 rfl ?_
        refine lv_lor hx hb dX1_put_68 ?_
        refine lv_lstore (lv' := [(6, .long (k_x ||| ((1 : Int64) <<< (z11.toInt64 &&& 63)))), (9, .int z11), (8, .int k_o), (5, .int k_h), (0, .ref a_h), (1, .int p_r), (2, .int p_f), (3, .int p_t), (4, .int p_v)]) hx hb dX1_put_69 hl (by decide) rfl (fun ls hl => ?_)
        refine lv_iinc (v := (k_o + 1)) (lv' := [(8, .int (k_o + 1)), (6, .long (k_x ||| ((1 : Int64) <<< (z11.toInt64 &&& 63)))), (9, .int z11), (5, .int k_h), (0, .ref a_h), (1, .int p_r), (2, .int p_f), (3, .int p_t), (4, .int p_v)]) hx hb dX1_put_71 hl (k := 2) rfl rfl (by decide) rfl (fun ls hl => ?_)
        have t_14 : (k_o + 1).toInt = k_o.toInt + 1 := g5_iadd (a := k_o.toInt) (b := 1) rfl (by decide) (by omega) (by omega)
        refine lv_goto (tgt := 27) hx hb dX1_put_74 (by decide) ?_
        exact ih_27_7 ((k_o + 1), (k_x ||| ((1 : Int64) <<< (z11.toInt64 &&& 63)))) ls H locs (show Int.toNat (5 - (k_o + 1).toInt) < Int.toNat (5 - k_o.toInt) from g_up (show k_o.toInt < (k_o + 1).toInt by omega) (show k_o.toInt < 5 by omega)) ⟨lv_sub hl [1, 0, 3, 4, 5, 6, 7, 8] rfl, hP, hD, hS, ⟨by omega, by omega⟩⟩
      ·
        have i_13 : z11.toInt = (-1) := by have z := g5_neN (a := z11.toInt) (b := (-1)) (by rfl) (by decide) c_13; omega
        refine lv_lconst (v := 0) hx hb dX1_put_60 (by decide) ?_
        refine lv_goto (tgt := 68) hx hb dX1_put_61 (by decide) ?_
        refine lv_lor hx hb dX1_put_68 ?_
        refine g5_tl (v := k_x) (by simp) ?_
        refine lv_lstore (lv' := [(6, .long k_x), (9, .int z11), (8, .int k_o), (5, .int k_h), (0, .ref a_h), (1, .int p_r), (2, .int p_f), (3, .int p_t), (4, .int p_v)]) hx hb dX1_put_69 hl (by decide) rfl (fun ls hl => ?_)
        refine lv_iinc (v := (k_o + 1)) (lv' := [(8, .int (k_o + 1)), (6, .long k_x), (9, .int z11), (5, .int k_h), (0, .ref a_h), (1, .int p_r), (2, .int p_f), (3, .int p_t), (4, .int p_v)]) hx hb dX1_put_71 hl (k := 2) rfl rfl (by decide) rfl (fun ls hl => ?_)
        have t_15 : (k_o + 1).toInt = k_o.toInt + 1 := g5_iadd (a := k_o.toInt) (b := 1) rfl (by decide) (by omega) (by omega)
        refine lv_goto (tgt := 27) hx hb dX1_put_74 (by decide) ?_
        exact ih_27_7 ((k_o + 1), k_x) ls H locs (show Int.toNat (5 - (k_o + 1).toInt) < Int.toNat (5 - k_o.toInt) from g_up (show k_o.toInt < (k_o + 1).toInt by omega) (show k_o.toInt < 5 by omega)) ⟨lv_sub hl [1, 0, 3, 4, 5, 6, 7, 8] rfl, hP, hD, hS, ⟨by omega, by omega⟩⟩
theorem dX11_wall_0 : decode cX11_wall 0 = .ok (.iload_n 1, 1) := by decide +kernel
theorem dX11_wall_1 : decode cX11_wall 1 = .ok (.invokestatic 97, 3) := by decide +kernel
theorem dX11_wall_4 : decode cX11_wall 4 = .ok (.ifCond .eq 10, 3) := by decide +kernel
theorem dX11_wall_7 : decode cX11_wall 7 = .ok (.iload_n 2, 1) := by decide +kernel
theorem dX11_wall_8 : decode cX11_wall 8 = .ok (.invokestatic 101, 3) := by decide +kernel
theorem dX11_wall_11 : decode cX11_wall 11 = .ok (.ifCond .ne 9, 3) := by decide +kernel
theorem dX11_wall_14 : decode cX11_wall 14 = .ok (.aload_n 0, 1) := by decide +kernel
theorem dX11_wall_15 : decode cX11_wall 15 = .ok (.iconst (-1), 1) := by decide +kernel
theorem dX11_wall_16 : decode cX11_wall 16 = .ok (.invokevirtual 104, 3) := by decide +kernel
theorem dX11_wall_19 : decode cX11_wall 19 = .ok (.ireturn, 1) := by decide +kernel
theorem dX11_wall_20 : decode cX11_wall 20 = .ok (.aload_n 0, 1) := by decide +kernel
theorem dX11_wall_21 : decode cX11_wall 21 = .ok (.getfield 12, 3) := by decide +kernel
theorem dX11_wall_24 : decode cX11_wall 24 = .ok (.iload_n 1, 1) := by decide +kernel
theorem dX11_wall_25 : decode cX11_wall 25 = .ok (.invokevirtual 108, 3) := by decide +kernel
theorem dX11_wall_28 : decode cX11_wall 28 = .ok (.ifCond .eq 10, 3) := by decide +kernel
theorem dX11_wall_31 : decode cX11_wall 31 = .ok (.aload_n 0, 1) := by decide +kernel
theorem dX11_wall_32 : decode cX11_wall 32 = .ok (.bipush (-3), 2) := by decide +kernel
theorem dX11_wall_34 : decode cX11_wall 34 = .ok (.invokevirtual 104, 3) := by decide +kernel
theorem dX11_wall_37 : decode cX11_wall 37 = .ok (.ireturn, 1) := by decide +kernel
theorem dX11_wall_38 : decode cX11_wall 38 = .ok (.aload_n 0, 1) := by decide +kernel
theorem dX11_wall_39 : decode cX11_wall 39 = .ok (.getfield 12, 3) := by decide +kernel
theorem dX11_wall_42 : decode cX11_wall 42 = .ok (.getfield 111, 3) := by decide +kernel
theorem dX11_wall_45 : decode cX11_wall 45 = .ok (.iload_n 1, 1) := by decide +kernel
theorem dX11_wall_46 : decode cX11_wall 46 = .ok (.invokestatic 115, 3) := by decide +kernel
theorem dX11_wall_49 : decode cX11_wall 49 = .ok (.ifCond .eq 7, 3) := by decide +kernel
theorem dX11_wall_52 : decode cX11_wall 52 = .ok (.iconst 1, 1) := by decide +kernel
theorem dX11_wall_53 : decode cX11_wall 53 = .ok (.goto 4, 3) := by decide +kernel
theorem dX11_wall_56 : decode cX11_wall 56 = .ok (.iconst 0, 1) := by decide +kernel
theorem dX11_wall_57 : decode cX11_wall 57 = .ok (.istore_n 3, 1) := by decide +kernel
theorem dX11_wall_58 : decode cX11_wall 58 = .ok (.aload_n 0, 1) := by decide +kernel
theorem dX11_wall_59 : decode cX11_wall 59 = .ok (.getfield 12, 3) := by decide +kernel
theorem dX11_wall_62 : decode cX11_wall 62 = .ok (.iload_n 2, 1) := by decide +kernel
theorem dX11_wall_63 : decode cX11_wall 63 = .ok (.iconst 1, 1) := by decide +kernel
theorem dX11_wall_64 : decode cX11_wall 64 = .ok (.if_icmp .ne 17, 3) := by decide +kernel
theorem dX11_wall_67 : decode cX11_wall 67 = .ok (.aload_n 0, 1) := by decide +kernel
theorem dX11_wall_68 : decode cX11_wall 68 = .ok (.getfield 12, 3) := by decide +kernel
theorem dX11_wall_71 : decode cX11_wall 71 = .ok (.getfield 111, 3) := by decide +kernel
theorem dX11_wall_74 : decode cX11_wall 74 = .ok (.lconst 1, 1) := by decide +kernel
theorem dX11_wall_75 : decode cX11_wall 75 = .ok (.iload_n 1, 1) := by decide +kernel
theorem dX11_wall_76 : decode cX11_wall 76 = .ok (.lshl, 1) := by decide +kernel
theorem dX11_wall_77 : decode cX11_wall 77 = .ok (.lor, 1) := by decide +kernel
theorem dX11_wall_78 : decode cX11_wall 78 = .ok (.goto 18, 3) := by decide +kernel
theorem dX11_wall_81 : decode cX11_wall 81 = .ok (.aload_n 0, 1) := by decide +kernel
theorem dX11_wall_82 : decode cX11_wall 82 = .ok (.getfield 12, 3) := by decide +kernel
theorem dX11_wall_85 : decode cX11_wall 85 = .ok (.getfield 111, 3) := by decide +kernel
theorem dX11_wall_88 : decode cX11_wall 88 = .ok (.lconst 1, 1) := by decide +kernel
theorem dX11_wall_89 : decode cX11_wall 89 = .ok (.iload_n 1, 1) := by decide +kernel
theorem dX11_wall_90 : decode cX11_wall 90 = .ok (.lshl, 1) := by decide +kernel
theorem dX11_wall_91 : decode cX11_wall 91 = .ok (.ldc2_w 119, 3) := by decide +kernel
theorem dX11_wall_94 : decode cX11_wall 94 = .ok (.lxor, 1) := by decide +kernel
theorem dX11_wall_95 : decode cX11_wall 95 = .ok (.land, 1) := by decide +kernel
theorem dX11_wall_96 : decode cX11_wall 96 = .ok (.putfield 111, 3) := by decide +kernel
theorem dX11_wall_99 : decode cX11_wall 99 = .ok (.aload_n 0, 1) := by decide +kernel
theorem dX11_wall_100 : decode cX11_wall 100 = .ok (.iload_n 3, 1) := by decide +kernel
theorem dX11_wall_101 : decode cX11_wall 101 = .ok (.invokevirtual 121, 3) := by decide +kernel
theorem dX11_wall_104 : decode cX11_wall 104 = .ok (.ireturn, 1) := by decide +kernel
theorem ml_X11_101 : Cond.methodLink RX11 101 yX11_isFlag ∈ tblG := tg 503 (by decide +kernel) (by decide +kernel)
theorem st_X11_isFlag : Cond.static yX11_isFlag ∈ tblG := tg 504 (by decide +kernel) (by decide +kernel)
theorem cd_X11_isFlag : Cond.code yX11_isFlag cX11_isFlag 1 (some .boolean) ∈ tblG := tg 505 (by decide +kernel) (by decide +kernel)
theorem gW_X11_isFlag : GoodIn tblG (wsG yX11_isFlag cX11_isFlag 1 (some .boolean)) := tgi cd_X11_isFlag
theorem gS_X11_101 : GoodIn tblG (va_wsS RX11 101 yX11_isFlag (wsG yX11_isFlag cX11_isFlag 1 (some .boolean))) := tgS ml_X11_101 st_X11_isFlag ini_X11 gW_X11_isFlag
theorem hs_X11_isFlag : yX11_isFlag.cls ≠ "java/lang/invoke/MethodHandle" ∧ yX11_isFlag.cls ≠ "java/lang/invoke/VarHandle" ∧ (parseMethodDescriptor yX11_isFlag.desc).map (fun d => d.parameters.length) = some 1 := by decide +kernel
theorem fl_X11_12 : Cond.fieldLink RX11 12 "LateGlass" "house" "LLateGlass$House;" ∈ tblG := tg 444 (by decide +kernel) (by decide +kernel)
theorem ml_X11_108 : Cond.methodLink RX11 108 yX1_isTaken ∈ tblG := tg 510 (by decide +kernel) (by decide +kernel)
theorem im_X1_isTaken : Cond.instanceMethod yX1_isTaken ∈ tblG := tg 511 (by decide +kernel) (by decide +kernel)
theorem se_X1_isTaken : Cond.selects RX1 yX1_isTaken yX1_isTaken ∈ tblG := tg 512 (by decide +kernel) (by decide +kernel)
theorem cd_X1_isTaken : Cond.code yX1_isTaken cX1_isTaken 3 (some .boolean) ∈ tblG := tg 513 (by decide +kernel) (by decide +kernel)
theorem gW_X1_isTaken : GoodIn tblG (wsG yX1_isTaken cX1_isTaken 3 (some .boolean)) := tgi cd_X1_isTaken
theorem gV_X11_108 : GoodIn tblG (wsV RX11 108 RX1 yX1_isTaken (wsG yX1_isTaken cX1_isTaken 3 (some .boolean))) := tgV ml_X11_108 im_X1_isTaken se_X1_isTaken ini_X1 gW_X1_isTaken
theorem hv_X1_isTaken : yX1_isTaken.cls = RX1 ∧ yX1_isTaken.cls ≠ "java/lang/invoke/MethodHandle" ∧ yX1_isTaken.cls ≠ "java/lang/invoke/VarHandle" ∧ (parseMethodDescriptor yX1_isTaken.desc).map (fun d => d.parameters.length) = some 1 := by decide +kernel
theorem ml_X11_104 : Cond.methodLink RX11 104 yX11_refuse ∈ tblG := tg 506 (by decide +kernel) (by decide +kernel)
theorem im_X11_refuse : Cond.instanceMethod yX11_refuse ∈ tblG := tg 508 (by decide +kernel) (by decide +kernel)
theorem se_X11_refuse : Cond.selects RX11 yX11_refuse yX11_refuse ∈ tblG := tg 0 (by decide +kernel) (by decide +kernel)
theorem cd_X11_refuse : Cond.code yX11_refuse cX11_refuse 3 (some .int) ∈ tblG := tg 509 (by decide +kernel) (by decide +kernel)
theorem gW_X11_refuse : GoodIn tblG (wsG yX11_refuse cX11_refuse 3 (some .int)) := tgi cd_X11_refuse
theorem gV_X11_104 : GoodIn tblG (wsV RX11 104 RX11 yX11_refuse (wsG yX11_refuse cX11_refuse 3 (some .int))) := tgV ml_X11_104 im_X11_refuse se_X11_refuse ini_X11 gW_X11_refuse
theorem hv_X11_refuse : yX11_refuse.cls = RX11 ∧ yX11_refuse.cls ≠ "java/lang/invoke/MethodHandle" ∧ yX11_refuse.cls ≠ "java/lang/invoke/VarHandle" ∧ (parseMethodDescriptor yX11_refuse.desc).map (fun d => d.parameters.length) = some 1 := by decide +kernel
theorem fl_X11_111 : Cond.fieldLink RX11 111 "LateGlass$House" "walls" "J" ∈ tblG := tg 154 (by decide +kernel) (by decide +kernel)
theorem ml_X11_115 : Cond.methodLink RX11 115 yX11_isOn ∈ tblG := tg 525 (by decide +kernel) (by decide +kernel)
theorem gS_X11_115 : GoodIn tblG (va_wsS RX11 115 yX11_isOn (wsG yX11_isOn cX11_isOn 3 (some .boolean))) := tgS ml_X11_115 st_X11_isOn ini_X11 gW_X11_isOn
theorem kl_X11_119 : Cond.constantLong RX11 119 (-1) ∈ tblG := tg 526 (by decide +kernel) (by decide +kernel)
theorem ml_X11_121 : Cond.methodLink RX11 121 yX11_done ∈ tblG := tg 527 (by decide +kernel) (by decide +kernel)
theorem im_X11_done : Cond.instanceMethod yX11_done ∈ tblG := tg 529 (by decide +kernel) (by decide +kernel)
theorem se_X11_done : Cond.selects RX11 yX11_done yX11_done ∈ tblG := tg 1 (by decide +kernel) (by decide +kernel)
theorem cd_X11_done : Cond.code yX11_done cX11_done 2 (some .int) ∈ tblG := tg 530 (by decide +kernel) (by decide +kernel)
theorem gW_X11_done : GoodIn tblG (wsG yX11_done cX11_done 2 (some .int)) := tgi cd_X11_done
theorem gV_X11_121 : GoodIn tblG (wsV RX11 121 RX11 yX11_done (wsG yX11_done cX11_done 2 (some .int))) := tgV ml_X11_121 im_X11_done se_X11_done ini_X11 gW_X11_done
theorem hv_X11_done : yX11_done.cls = RX11 ∧ yX11_done.cls ≠ "java/lang/invoke/MethodHandle" ∧ yX11_done.cls ≠ "java/lang/invoke/VarHandle" ∧ (parseMethodDescriptor yX11_done.desc).map (fun d => d.parameters.length) = some 1 := by decide +kernel
set_option maxHeartbeats 4000000 in
set_option maxRecDepth 100000 in
theorem x_wall (l : Launch) (G : g5_G) (a_o a_rf a_h a_p a_pn a_bb a_im a_ke a_k a_wa a_th a_ha a_wk a_r a_x a_wd a_l a_g a_b a_s a_w : Nat) (sz : Nat) (e_tl : Int32) (e_fd : Int32) (e_fpl : Int32) (e_wn : Int32) (e_lr : Int32) (e_le : Int32) (e_st : Int32) (e_fo : Int32) (e_lc : Int32) (e_p : Int32) (p_c : Int32) (p_i : Int32) (e_wa : Int64) (e_gb : Int64) (f_rf : Nat → Int32) (f_p : Nat → Int32) (f_bb : Nat → Int64) (h_e_tl : 0 ≤ e_tl.toInt ∧ e_tl.toInt ≤ 400) (h_e_wn : 0 ≤ e_wn.toInt ∧ e_wn.toInt ≤ 1) (h_e_p : 0 ≤ e_p.toInt ∧ e_p.toInt ≤ 8) : Met l yX11_wall (wsG yX11_wall cX11_wall 4 (some .int)) ({ frames := 3, cells := 0, slots := 0, locals := 67 }) (va_Pc [.ref a_o, .int p_c, .int p_i] (g5_P G [(a_o, .inr (11, [.ref a_h, .ref a_im, .ref a_ke, .ref a_k, .ref a_wa, .ref a_th, .ref a_ha, .ref a_wk, .ref a_r, .ref a_x, .int e_tl, .int e_fd, .int e_fpl, .ref a_wd, .int e_wn, .ref a_rf, .int e_lr])), (a_rf, .inl (G.2 0, 5, .inl f_rf)), (a_h, .inr (1, [.long e_wa, .int e_le, .int e_st, .int e_fo, .int e_lc, .ref a_l, .ref a_g, .ref a_b, .ref a_s, .ref a_p, .ref a_w, .long e_gb, .ref a_bb])), (a_p, .inr (6, [.int 8, .int 5, .ref a_pn, .int e_p])), (a_pn, .inl (G.2 0, 40, .inl f_p)), (a_bb, .inl (G.2 1, 24, .inr (.inl f_bb)))] sz)) (va_Qi (fun (r : Int32) (u : va_W) => (∃ (o_r : Int32) (o_lr : Int32) (o_rf : Nat → Int32) (o_wa : Int64), (r = o_r) ∧ (u = [(a_o, .inr (11, [.ref a_h, .ref a_im, .ref a_ke, .ref a_k, .ref a_wa, .ref a_th, .ref a_ha, .ref a_wk, .ref a_r, .ref a_x, .int e_tl, .int e_fd, .int e_fpl, .ref a_wd, .int e_wn, .ref a_rf, .int o_lr])), (a_rf, .inl (G.2 0, 5, .inl o_rf)), (a_h, .inr (1, [.long o_wa, .int e_le, .int e_st, .int e_fo, .int e_lc, .ref a_l, .ref a_g, .ref a_b, .ref a_s, .ref a_p, .ref a_w, .long e_gb, .ref a_bb])), (a_p, .inr (6, [.int 8, .int 5, .ref a_pn, .int e_p])), (a_pn, .inl (G.2 0, 40, .inl f_p)), (a_bb, .inl (G.2 1, 24, .inr (.inl f_bb)))]))) (g5_B G (va_A [(a_o, .inr (11, [.ref a_h, .ref a_im, .ref a_ke, .ref a_k, .ref a_wa, .ref a_th, .ref a_ha, .ref a_wk, .ref a_r, .ref a_x, .int e_tl, .int e_fd, .int e_fpl, .ref a_wd, .int e_wn, .ref a_rf, .int e_lr])), (a_rf, .inl (G.2 0, 5, .inl f_rf)), (a_h, .inr (1, [.long e_wa, .int e_le, .int e_st, .int e_fo, .int e_lc, .ref a_l, .ref a_g, .ref a_b, .ref a_s, .ref a_p, .ref a_w, .long e_gb, .ref a_bb])), (a_p, .inr (6, [.int 8, .int 5, .ref a_pn, .int e_p])), (a_pn, .inl (G.2 0, 40, .inl f_p)), (a_bb, .inl (G.2 1, 24, .inr (.inl f_bb)))] sz)) (va_A [(a_o, .inr (11, [.ref a_h, .ref a_im, .ref a_ke, .ref a_k, .ref a_wa, .ref a_th, .ref a_ha, .ref a_wk, .ref a_r, .ref a_x, .int e_tl, .int e_fd, .int e_fpl, .ref a_wd, .int e_wn, .ref a_rf, .int e_lr])), (a_rf, .inl (G.2 0, 5, .inl f_rf)), (a_h, .inr (1, [.long e_wa, .int e_le, .int e_st, .int e_fo, .int e_lc, .ref a_l, .ref a_g, .ref a_b, .ref a_s, .ref a_p, .ref a_w, .long e_gb, .ref a_bb])), (a_p, .inr (6, [.int 8, .int 5, .ref a_pn, .int e_p])), (a_pn, .inl (G.2 0, 40, .inl f_p)), (a_bb, .inl (G.2 1, 24, .inr (.inl f_bb)))] sz)) 0 0 (va_A [(a_o, .inr (11, [.ref a_h, .ref a_im, .ref a_ke, .ref a_k, .ref a_wa, .ref a_th, .ref a_ha, .ref a_wk, .ref a_r, .ref a_x, .int e_tl, .int e_fd, .int e_fpl, .ref a_wd, .int e_wn, .ref a_rf, .int e_lr])), (a_rf, .inl (G.2 0, 5, .inl f_rf)), (a_h, .inr (1, [.long e_wa, .int e_le, .int e_st, .int e_fo, .int e_lc, .ref a_l, .ref a_g, .ref a_b, .ref a_s, .ref a_p, .ref a_w, .long e_gb, .ref a_bb])), (a_p, .inr (6, [.int 8, .int 5, .ref a_pn, .int e_p])), (a_pn, .inl (G.2 0, 40, .inl f_p)), (a_bb, .inl (G.2 1, 24, .inr (.inl f_bb)))] sz) := by
  refine Met.ofW (cc := cX11_wall) (maxL := 4) (ret := (some .int)) (by decide) rfl ?_
  intro p e s m args below meth c s₁ B hml hv
  obtain ⟨rfl, hsz, hP, hK, hD0, hN, hT⟩ := hv
  have hx := B.exec
  have hb := B.bytes
  have hr := B.returns
  have hts : ∀ w ∈ tblG, w.before _ s = true := fun w h => atoms_spec (ws := (wsG yX11_wall cX11_wall 4 (some .int))) B.pre w (List.mem_cons_of_mem _ h)
  have hown : s.vm.findClass RX11 = some m.cls := findClass_of_methodNamed B.named
  have hlocks := B.notSynchronized
  subst hsz
  have hD := hD0.self (sz := s.heap.size)
  generalize hAe : va_A [(a_o, .inr (11, [.ref a_h, .ref a_im, .ref a_ke, .ref a_k, .ref a_wa, .ref a_th, .ref a_ha, .ref a_wk, .ref a_r, .ref a_x, .int e_tl, .int e_fd, .int e_fpl, .ref a_wd, .int e_wn, .ref a_rf, .int e_lr])), (a_rf, .inl (G.2 0, 5, .inl f_rf)), (a_h, .inr (1, [.long e_wa, .int e_le, .int e_st, .int e_fo, .int e_lc, .ref a_l, .ref a_g, .ref a_b, .ref a_s, .ref a_p, .ref a_w, .long e_gb, .ref a_bb])), (a_p, .inr (6, [.int 8, .int 5, .ref a_pn, .int e_p])), (a_pn, .inl (G.2 0, 40, .inl f_p)), (a_bb, .inl (G.2 1, 24, .inr (.inl f_bb)))] s.heap.size = A at hD hT ⊢
  have hA : ∀ q : Nat, s.heap.size ≤ q → A q := fun q h => by rw [← hAe]; exact Or.inr h
  have hS : va_S A s.heap s.heap [] := va_S.rf
  have hP : va_P G.1 vwCl [(a_o, .inr (11, [.ref a_h, .ref a_im, .ref a_ke, .ref a_k, .ref a_wa, .ref a_th, .ref a_ha, .ref a_wk, .ref a_r, .ref a_x, .int e_tl, .int e_fd, .int e_fpl, .ref a_wd, .int e_wn, .ref a_rf, .int e_lr])), (a_rf, .inl (G.2 0, 5, .inl f_rf)), (a_h, .inr (1, [.long e_wa, .int e_le, .int e_st, .int e_fo, .int e_lc, .ref a_l, .ref a_g, .ref a_b, .ref a_s, .ref a_p, .ref a_w, .long e_gb, .ref a_bb])), (a_p, .inr (6, [.int 8, .int 5, .ref a_pn, .int e_p])), (a_pn, .inl (G.2 0, 40, .inl f_p)), (a_bb, .inl (G.2 1, 24, .inr (.inl f_bb)))] s.heap := hP
  have hl := lv_entry ([.ref a_o, .int p_c, .int p_i]) (n := 4) (Nat.le_of_ble_eq_true rfl)
  rw [lg_entry_eq]
  generalize (lg_sl ([.ref a_o, .int p_c, .int p_i]) ++ List.replicate (4 - (lg_sl ([.ref a_o, .int p_c, .int p_i])).length) Slot.unset).toArray = ls at hl ⊢
  have hl : lv_has ls 4 [(0, .ref a_o), (1, .int p_c), (2, .int p_i)] := hl
  refine lv_iload_n hx hb dX11_wall_0 rfl (lv_at hl 1 rfl) ?_
  have hPc := hP.sub (ws' := []) [] rfl
  have hDc := hD.sub (ws' := []) [] (by decide) rfl
  have hFc := va_free (wc := []) hD hS hA [] rfl
  refine va_calli (va_runS (As := [.int p_c]) (rest := []) ⟨hx, hb, hml, hown, hts⟩ (x_isCell l G s.heap.size p_c) (va_cwS 1 hts gS_X11_97 rfl rfl rfl hs_X11_isCell ⟨Nat.le_of_ble_eq_true rfl, Nat.le_of_ble_eq_true rfl⟩) (g5_preS hPc hK hDc hN hT hS hFc) rfl rfl hl.1 rfl (lv_room (Nat.le_of_ble_eq_true rfl)) dX11_wall_1 ⟨Nat.le_of_ble_eq_true rfl, Nat.le_of_ble_eq_true rfl⟩) hS (fun q _ h => hFc q h) hFc (fun r u t H1 locs ht hvm hw hB hz1 hk1 hS => ?_)
  obtain ⟨hP1, hD1⟩ := hB
  rw [ht] at hP1
  rcases hw with ⟨i_1, rfl, rfl⟩ | ⟨rfl, rfl⟩
  ·
    have i_1 : 0 ≤ p_c.toInt ∧ p_c.toInt ≤ 63 := i_1
    have hP := g5_same hP hk1
    generalize H1 = H at hP hS ⊢
    refine lv_if_eq (tgt := 14) hx hb dX11_wall_4 (by decide) (fun c_2 => ?_) (fun c_2 => ?_)
    ·
      exact absurd c_2 (by decide)
    ·
      refine lv_iload_n hx hb dX11_wall_7 rfl (lv_at hl 2 rfl) ?_
      have hPc := hP.sub (ws' := []) [] rfl
      have hDc := hD.sub (ws' := []) [] (by decide) rfl
      have hFc := va_free (wc := []) hD hS hA [] rfl
      refine va_calli (va_runS (As := [.int p_i]) (rest := []) ⟨hx, hb, hml, hown, hts⟩ (x_isFlag l G H.size p_i) (va_cwS 1 hts gS_X11_101 rfl rfl rfl hs_X11_isFlag ⟨Nat.le_of_ble_eq_true rfl, Nat.le_of_ble_eq_true rfl⟩) (g5_preS hPc hK hDc hN hT hS hFc) rfl rfl hl.1 rfl (lv_room (Nat.le_of_ble_eq_true rfl)) dX11_wall_8 ⟨Nat.le_of_ble_eq_true rfl, Nat.le_of_ble_eq_true rfl⟩) hS (fun q _ h => hFc q h) hFc (fun r u t H1 locs ht hvm hw hB hz1 hk1 hS => ?_)
      obtain ⟨hP1, hD1⟩ := hB
      rw [ht] at hP1
      rcases hw with ⟨i_3, rfl, rfl⟩ | ⟨rfl, rfl⟩
      ·
        have i_3 : 0 ≤ p_i.toInt ∧ p_i.toInt ≤ 1 := i_3
        have hP := g5_same hP hk1
        generalize H1 = H at hP hS ⊢
        refine lv_if_ne (tgt := 20) hx hb dX11_wall_11 (by decide) (fun c_4 => ?_) (fun c_4 => ?_)
        ·
          refine lv_aload_n hx hb dX11_wall_20 rfl (lv_at hl 0 rfl) ?_
          refine va_get (D := G.1) (ci := 11) (v := .ref a_h) (C := RX11) (T := TX11) (N := 17) hx hb hts inG_X11 hown hK hP 0 rfl rfl 0 (by decide) (hts _ fl_X11_12) (fun _ h9 => h9) rfl dX11_wall_21 ?_
          refine lv_iload_n hx hb dX11_wall_24 rfl (lv_at hl 1 rfl) ?_
          have hPc := hP.sub (ws' := [(a_h, .inr (1, [.long e_wa, .int e_le, .int e_st, .int e_fo, .int e_lc, .ref a_l, .ref a_g, .ref a_b, .ref a_s, .ref a_p, .ref a_w, .long e_gb, .ref a_bb])), (a_p, .inr (6, [.int 8, .int 5, .ref a_pn, .int e_p])), (a_pn, .inl (G.2 0, 40, .inl f_p)), (a_bb, .inl (G.2 1, 24, .inr (.inl f_bb)))]) [2, 3, 4, 5] rfl
          have hDc := hD.sub (ws' := [(a_h, .inr (1, [.long e_wa, .int e_le, .int e_st, .int e_fo, .int e_lc, .ref a_l, .ref a_g, .ref a_b, .ref a_s, .ref a_p, .ref a_w, .long e_gb, .ref a_bb])), (a_p, .inr (6, [.int 8, .int 5, .ref a_pn, .int e_p])), (a_pn, .inl (G.2 0, 40, .inl f_p)), (a_bb, .inl (G.2 1, 24, .inr (.inl f_bb)))]) [2, 3, 4, 5] (by decide) rfl
          have hFc := va_free (wc := [(a_h, .inr (1, [.long e_wa, .int e_le, .int e_st, .int e_fo, .int e_lc, .ref a_l, .ref a_g, .ref a_b, .ref a_s, .ref a_p, .ref a_w, .long e_gb, .ref a_bb])), (a_p, .inr (6, [.int 8, .int 5, .ref a_pn, .int e_p])), (a_pn, .inl (G.2 0, 40, .inl f_p)), (a_bb, .inl (G.2 1, 24, .inr (.inl f_bb)))]) hD hS hA [2, 3, 4, 5] rfl
          refine va_calli (va_runV (As := [.int p_c]) (rest := []) ⟨hx, hb, hml, hown, hts⟩ (h_isTaken l G a_h a_p a_pn a_bb a_l a_g a_b a_s a_w H.size e_le e_st e_fo e_lc e_p p_c e_wa e_gb f_p f_bb ⟨by omega, by omega⟩ ⟨by omega, by omega⟩) (cwV 1 hts gV_X11_108 rfl rfl rfl hv_X1_isTaken ⟨Nat.le_of_ble_eq_true rfl, Nat.le_of_ble_eq_true rfl⟩) (g5_preV hPc hK hDc hN hT hS hFc (ci := 1) (q0 := 0) rfl rfl) rfl rfl hl.1 rfl (lv_room (Nat.le_of_ble_eq_true rfl)) dX11_wall_25 ⟨Nat.le_of_ble_eq_true rfl, Nat.le_of_ble_eq_true rfl⟩) hS (fun q _ h => hFc q h) hFc (fun r u t H1 locs ht hvm hw hB hz1 hk1 hS => ?_)
          obtain ⟨hP1, hD1⟩ := hB
          rw [ht] at hP1
          rcases hw with ⟨i_5, rfl, rfl⟩ | ⟨i_6, rfl, rfl⟩
          ·
            have i_5 : (∃ h : Nat, h < 24 ∧ onB (f_bb h) p_c.toInt = true) ∨ onB e_gb p_c.toInt = true ∨ (∃ r : Int, 0 ≤ r ∧ r < e_p.toInt ∧ tget f_p e_p.toInt 5 r (0 : Int32).toInt = p_c) ∨ e_st = p_c := i_5
            obtain ⟨hP, hD⟩ := va_join (wr := [(a_o, .inr (11, [.ref a_h, .ref a_im, .ref a_ke, .ref a_k, .ref a_wa, .ref a_th, .ref a_ha, .ref a_wk, .ref a_r, .ref a_x, .int e_tl, .int e_fd, .int e_fpl, .ref a_wd, .int e_wn, .ref a_rf, .int e_lr])), (a_rf, .inl (G.2 0, 5, .inl f_rf))]) (w1 := [(a_h, .inr (1, [.long e_wa, .int e_le, .int e_st, .int e_fo, .int e_lc, .ref a_l, .ref a_g, .ref a_b, .ref a_s, .ref a_p, .ref a_w, .long e_gb, .ref a_bb])), (a_p, .inr (6, [.int 8, .int 5, .ref a_pn, .int e_p])), (a_pn, .inl (G.2 0, 40, .inl f_p)), (a_bb, .inl (G.2 1, 24, .inr (.inl f_bb)))]) hP hD [2, 3, 4, 5] [0, 1] rfl rfl (by decide) (by decide) hk1 hFc hP1 hD1
            generalize H1 = H at hP hS ⊢
            have hP : va_P G.1 vwCl [(a_o, .inr (11, [.ref a_h, .ref a_im, .ref a_ke, .ref a_k, .ref a_wa, .ref a_th, .ref a_ha, .ref a_wk, .ref a_r, .ref a_x, .int e_tl, .int e_fd, .int e_fpl, .ref a_wd, .int e_wn, .ref a_rf, .int e_lr])), (a_rf, .inl (G.2 0, 5, .inl f_rf)), (a_h, .inr (1, [.long e_wa, .int e_le, .int e_st, .int e_fo, .int e_lc, .ref a_l, .ref a_g, .ref a_b, .ref a_s, .ref a_p, .ref a_w, .long e_gb, .ref a_bb])), (a_p, .inr (6, [.int 8, .int 5, .ref a_pn, .int e_p])), (a_pn, .inl (G.2 0, 40, .inl f_p)), (a_bb, .inl (G.2 1, 24, .inr (.inl f_bb)))] H := hP
            have hD : va_D A [(a_o, .inr (11, [.ref a_h, .ref a_im, .ref a_ke, .ref a_k, .ref a_wa, .ref a_th, .ref a_ha, .ref a_wk, .ref a_r, .ref a_x, .int e_tl, .int e_fd, .int e_fpl, .ref a_wd, .int e_wn, .ref a_rf, .int e_lr])), (a_rf, .inl (G.2 0, 5, .inl f_rf)), (a_h, .inr (1, [.long e_wa, .int e_le, .int e_st, .int e_fo, .int e_lc, .ref a_l, .ref a_g, .ref a_b, .ref a_s, .ref a_p, .ref a_w, .long e_gb, .ref a_bb])), (a_p, .inr (6, [.int 8, .int 5, .ref a_pn, .int e_p])), (a_pn, .inl (G.2 0, 40, .inl f_p)), (a_bb, .inl (G.2 1, 24, .inr (.inl f_bb)))] := hD
            refine lv_if_eq (tgt := 38) hx hb dX11_wall_28 (by decide) (fun c_7 => ?_) (fun c_7 => ?_)
            ·
              exact absurd c_7 (by decide)
            ·
              refine lv_aload_n hx hb dX11_wall_31 rfl (lv_at hl 0 rfl) ?_
              refine lv_bipush (v := (-3)) hx hb dX11_wall_32 (by decide) ?_
              have hPc := hP.sub (ws' := [(a_o, .inr (11, [.ref a_h, .ref a_im, .ref a_ke, .ref a_k, .ref a_wa, .ref a_th, .ref a_ha, .ref a_wk, .ref a_r, .ref a_x, .int e_tl, .int e_fd, .int e_fpl, .ref a_wd, .int e_wn, .ref a_rf, .int e_lr])), (a_rf, .inl (G.2 0, 5, .inl f_rf))]) [0, 1] rfl
              have hDc := hD.sub (ws' := [(a_o, .inr (11, [.ref a_h, .ref a_im, .ref a_ke, .ref a_k, .ref a_wa, .ref a_th, .ref a_ha, .ref a_wk, .ref a_r, .ref a_x, .int e_tl, .int e_fd, .int e_fpl, .ref a_wd, .int e_wn, .ref a_rf, .int e_lr])), (a_rf, .inl (G.2 0, 5, .inl f_rf))]) [0, 1] (by decide) rfl
              have hFc := va_free (wc := [(a_o, .inr (11, [.ref a_h, .ref a_im, .ref a_ke, .ref a_k, .ref a_wa, .ref a_th, .ref a_ha, .ref a_wk, .ref a_r, .ref a_x, .int e_tl, .int e_fd, .int e_fpl, .ref a_wd, .int e_wn, .ref a_rf, .int e_lr])), (a_rf, .inl (G.2 0, 5, .inl f_rf))]) hD hS hA [0, 1] rfl
              refine va_calli (va_runV (As := [.int (-3)]) (rest := []) ⟨hx, hb, hml, hown, hts⟩ (x_refuse3 l G a_o a_rf a_h a_im a_ke a_k a_wa a_th a_ha a_wk a_r a_x a_wd H.size e_tl e_fd e_fpl e_wn e_lr f_rf ⟨by omega, by omega⟩ ⟨by omega, by omega⟩) (cwV 1 hts gV_X11_104 rfl rfl rfl hv_X11_refuse ⟨Nat.le_of_ble_eq_true rfl, Nat.le_of_ble_eq_true rfl⟩) (g5_preV hPc hK hDc hN hT hS hFc (ci := 11) (q0 := 0) rfl rfl) rfl rfl hl.1 rfl (lv_room (Nat.le_of_ble_eq_true rfl)) dX11_wall_34 ⟨Nat.le_of_ble_eq_true rfl, Nat.le_of_ble_eq_true rfl⟩) hS (fun q _ h => hFc q h) hFc (fun r u t H1 locs ht hvm hw hB hz1 hk1 hS => ?_)
              obtain ⟨hP1, hD1⟩ := hB
              rw [ht] at hP1
              obtain ⟨z8, rfl, rfl⟩ := hw
              obtain ⟨hP, hD⟩ := va_join (wr := [(a_h, .inr (1, [.long e_wa, .int e_le, .int e_st, .int e_fo, .int e_lc, .ref a_l, .ref a_g, .ref a_b, .ref a_s, .ref a_p, .ref a_w, .long e_gb, .ref a_bb])), (a_p, .inr (6, [.int 8, .int 5, .ref a_pn, .int e_p])), (a_pn, .inl (G.2 0, 40, .inl f_p)), (a_bb, .inl (G.2 1, 24, .inr (.inl f_bb)))]) (w1 := [(a_o, .inr (11, [.ref a_h, .ref a_im, .ref a_ke, .ref a_k, .ref a_wa, .ref a_th, .ref a_ha, .ref a_wk, .ref a_r, .ref a_x, .int e_tl, .int e_fd, .int e_fpl, .ref a_wd, .int e_wn, .ref a_rf, .int (-3)])), (a_rf, .inl (G.2 0, 5, .inl z8))]) hP hD [0, 1] [2, 3, 4, 5] rfl rfl (by decide) (by decide) hk1 hFc hP1 hD1
              generalize H1 = H at hP hS ⊢
              have hP : va_P G.1 vwCl [(a_h, .inr (1, [.long e_wa, .int e_le, .int e_st, .int e_fo, .int e_lc, .ref a_l, .ref a_g, .ref a_b, .ref a_s, .ref a_p, .ref a_w, .long e_gb, .ref a_bb])), (a_p, .inr (6, [.int 8, .int 5, .ref a_pn, .int e_p])), (a_pn, .inl (G.2 0, 40, .inl f_p)), (a_bb, .inl (G.2 1, 24, .inr (.inl f_bb))), (a_o, .inr (11, [.ref a_h, .ref a_im, .ref a_ke, .ref a_k, .ref a_wa, .ref a_th, .ref a_ha, .ref a_wk, .ref a_r, .ref a_x, .int e_tl, .int e_fd, .int e_fpl, .ref a_wd, .int e_wn, .ref a_rf, .int (-3)])), (a_rf, .inl (G.2 0, 5, .inl z8))] H := hP
              have hD : va_D A [(a_h, .inr (1, [.long e_wa, .int e_le, .int e_st, .int e_fo, .int e_lc, .ref a_l, .ref a_g, .ref a_b, .ref a_s, .ref a_p, .ref a_w, .long e_gb, .ref a_bb])), (a_p, .inr (6, [.int 8, .int 5, .ref a_pn, .int e_p])), (a_pn, .inl (G.2 0, 40, .inl f_p)), (a_bb, .inl (G.2 1, 24, .inr (.inl f_bb))), (a_o, .inr (11, [.ref a_h, .ref a_im, .ref a_ke, .ref a_k, .ref a_wa, .ref a_th, .ref a_ha, .ref a_wk, .ref a_r, .ref a_x, .int e_tl, .int e_fd, .int e_fpl, .ref a_wd, .int e_wn, .ref a_rf, .int (-3)])), (a_rf, .inl (G.2 0, 5, .inl z8))] := hD
              exact W.iret (v := (-3)) hx hb hr (fun t ht hW => ⟨⟨(-3), [(a_o, .inr (11, [.ref a_h, .ref a_im, .ref a_ke, .ref a_k, .ref a_wa, .ref a_th, .ref a_ha, .ref a_wk, .ref a_r, .ref a_x, .int e_tl, .int e_fd, .int e_fpl, .ref a_wd, .int e_wn, .ref a_rf, .int (-3)])), (a_rf, .inl (G.2 0, 5, .inl z8)), (a_h, .inr (1, [.long e_wa, .int e_le, .int e_st, .int e_fo, .int e_lc, .ref a_l, .ref a_g, .ref a_b, .ref a_s, .ref a_p, .ref a_w, .long e_gb, .ref a_bb])), (a_p, .inr (6, [.int 8, .int 5, .ref a_pn, .int e_p])), (a_pn, .inl (G.2 0, 40, .inl f_p)), (a_bb, .inl (G.2 1, 24, .inr (.inl f_bb)))], rfl, ⟨(-3), (-3), z8, e_wa, rfl, rfl⟩, by rw [ht]; exact hP.sub [4, 5, 0, 1, 2, 3] rfl, hD.sub [4, 5, 0, 1, 2, 3] (by decide) rfl⟩, hS.F ht⟩) hS.2.2 dX11_wall_37
          ·
            have i_6 : (∀ h : Nat, h < 24 → onB (f_bb h) p_c.toInt = false) ∧ onB e_gb p_c.toInt = false ∧ (∀ r : Int, 0 ≤ r → r < e_p.toInt → tget f_p e_p.toInt 5 r (0 : Int32).toInt ≠ p_c) ∧ e_st ≠ p_c := i_6
            obtain ⟨hP, hD⟩ := va_join (wr := [(a_o, .inr (11, [.ref a_h, .ref a_im, .ref a_ke, .ref a_k, .ref a_wa, .ref a_th, .ref a_ha, .ref a_wk, .ref a_r, .ref a_x, .int e_tl, .int e_fd, .int e_fpl, .ref a_wd, .int e_wn, .ref a_rf, .int e_lr])), (a_rf, .inl (G.2 0, 5, .inl f_rf))]) (w1 := [(a_h, .inr (1, [.long e_wa, .int e_le, .int e_st, .int e_fo, .int e_lc, .ref a_l, .ref a_g, .ref a_b, .ref a_s, .ref a_p, .ref a_w, .long e_gb, .ref a_bb])), (a_p, .inr (6, [.int 8, .int 5, .ref a_pn, .int e_p])), (a_pn, .inl (G.2 0, 40, .inl f_p)), (a_bb, .inl (G.2 1, 24, .inr (.inl f_bb)))]) hP hD [2, 3, 4, 5] [0, 1] rfl rfl (by decide) (by decide) hk1 hFc hP1 hD1
            generalize H1 = H at hP hS ⊢
            have hP : va_P G.1 vwCl [(a_o, .inr (11, [.ref a_h, .ref a_im, .ref a_ke, .ref a_k, .ref a_wa, .ref a_th, .ref a_ha, .ref a_wk, .ref a_r, .ref a_x, .int e_tl, .int e_fd, .int e_fpl, .ref a_wd, .int e_wn, .ref a_rf, .int e_lr])), (a_rf, .inl (G.2 0, 5, .inl f_rf)), (a_h, .inr (1, [.long e_wa, .int e_le, .int e_st, .int e_fo, .int e_lc, .ref a_l, .ref a_g, .ref a_b, .ref a_s, .ref a_p, .ref a_w, .long e_gb, .ref a_bb])), (a_p, .inr (6, [.int 8, .int 5, .ref a_pn, .int e_p])), (a_pn, .inl (G.2 0, 40, .inl f_p)), (a_bb, .inl (G.2 1, 24, .inr (.inl f_bb)))] H := hP
            have hD : va_D A [(a_o, .inr (11, [.ref a_h, .ref a_im, .ref a_ke, .ref a_k, .ref a_wa, .ref a_th, .ref a_ha, .ref a_wk, .ref a_r, .ref a_x, .int e_tl, .int e_fd, .int e_fpl, .ref a_wd, .int e_wn, .ref a_rf, .int e_lr])), (a_rf, .inl (G.2 0, 5, .inl f_rf)), (a_h, .inr (1, [.long e_wa, .int e_le, .int e_st, .int e_fo, .int e_lc, .ref a_l, .ref a_g, .ref a_b, .ref a_s, .ref a_p, .ref a_w, .long e_gb, .ref a_bb])), (a_p, .inr (6, [.int 8, .int 5, .ref a_pn, .int e_p])), (a_pn, .inl (G.2 0, 40, .inl f_p)), (a_bb, .inl (G.2 1, 24, .inr (.inl f_bb)))] := hD
            refine lv_if_eq (tgt := 38) hx hb dX11_wall_28 (by decide) (fun c_9 => ?_) (fun c_9 => ?_)
            ·
              refine lv_aload_n hx hb dX11_wall_38 rfl (lv_at hl 0 rfl) ?_
              refine va_get (D := G.1) (ci := 11) (v := .ref a_h) (C := RX11) (T := TX11) (N := 17) hx hb hts inG_X11 hown hK hP 0 rfl rfl 0 (by decide) (hts _ fl_X11_12) (fun _ h9 => h9) rfl dX11_wall_39 ?_
              refine va_get (D := G.1) (ci := 1) (v := .long e_wa) (C := RX1) (T := TX1) (N := 13) hx hb hts inG_X1 hown hK hP 2 rfl rfl 0 (by decide) (hts _ fl_X11_111) (fun _ h9 => h9) rfl dX11_wall_42 ?_
              refine lv_iload_n hx hb dX11_wall_45 rfl (lv_at hl 1 rfl) ?_
              have hPc := hP.sub (ws' := []) [] rfl
              have hDc := hD.sub (ws' := []) [] (by decide) rfl
              have hFc := va_free (wc := []) hD hS hA [] rfl
              refine va_calli (va_runS (As := [.long e_wa, .int p_c]) (rest := []) ⟨hx, hb, hml, hown, hts⟩ (k_isOn l G H.size p_c e_wa ⟨by omega, by omega⟩) (va_cwS 2 hts gS_X11_115 rfl rfl rfl hs_X11_isOn ⟨Nat.le_of_ble_eq_true rfl, Nat.le_of_ble_eq_true rfl⟩) (g5_preS hPc hK hDc hN hT hS hFc) rfl rfl hl.1 rfl (lv_room (Nat.le_of_ble_eq_true rfl)) dX11_wall_46 ⟨Nat.le_of_ble_eq_true rfl, Nat.le_of_ble_eq_true rfl⟩) hS (fun q _ h => hFc q h) hFc (fun r u t H1 locs ht hvm hw hB hz1 hk1 hS => ?_)
              obtain ⟨hP1, hD1⟩ := hB
              rw [ht] at hP1
              rcases hw with ⟨i_10, rfl, rfl⟩ | ⟨i_11, rfl, rfl⟩
              ·
                have i_10 : onB e_wa p_c.toInt = false := i_10
                have hP := g5_same hP hk1
                generalize H1 = H at hP hS ⊢
                refine lv_if_eq (tgt := 56) hx hb dX11_wall_49 (by decide) (fun c_12 => ?_) (fun c_12 => ?_)
                ·
                  refine lv_iconst (v := 0) hx hb dX11_wall_56 (by decide) ?_
                  refine lv_istore_n (lv' := [(3, .int 0), (0, .ref a_o), (1, .int p_c), (2, .int p_i)]) hx hb dX11_wall_57 rfl hl (by decide) rfl (fun ls hl => ?_)
                  refine lv_aload_n hx hb dX11_wall_58 rfl (lv_at hl 1 rfl) ?_
                  refine va_get (D := G.1) (ci := 11) (v := .ref a_h) (C := RX11) (T := TX11) (N := 17) hx hb hts inG_X11 hown hK hP 0 rfl rfl 0 (by decide) (hts _ fl_X11_12) (fun _ h9 => h9) rfl dX11_wall_59 ?_
                  refine lv_iload_n hx hb dX11_wall_62 rfl (lv_at hl 3 rfl) ?_
                  refine lv_iconst (v := 1) hx hb dX11_wall_63 (by decide) ?_
                  refine lv_icmp_ne (tgt := 81) hx hb dX11_wall_64 (by decide) (fun c_13 => ?_) (fun c_13 => ?_)
                  ·
                    have n_13 : gNe (p_i.toInt) (1) := by have z := g5_ne (a := p_i.toInt) (b := 1) (by rfl) (by decide) c_13; unfold gNe; omega
                    have i_13 : p_i.toInt ≤ 0 := by have z := g5_ne (a := p_i.toInt) (b := 1) (by rfl) (by decide) c_13; omega
                    refine lv_aload_n hx hb dX11_wall_81 rfl (lv_at hl 1 rfl) ?_
                    refine va_get (D := G.1) (ci := 11) (v := .ref a_h) (C := RX11) (T := TX11) (N := 17) hx hb hts inG_X11 hown hK hP 0 rfl rfl 0 (by decide) (hts _ fl_X11_12) (fun _ h9 => h9) rfl dX11_wall_82 ?_
                    refine va_get (D := G.1) (ci := 1) (v := .long e_wa) (C := RX1) (T := TX1) (N := 13) hx hb hts inG_X1 hown hK hP 2 rfl rfl 0 (by decide) (hts _ fl_X11_111) (fun _ h9 => h9) rfl dX11_wall_85 ?_
                    refine lv_lconst (v := 1) hx hb dX11_wall_88 (by decide) ?_
                    refine lv_iload_n hx hb dX11_wall_89 rfl (lv_at hl 2 rfl) ?_
                    refine lv_lshl (v := ((1 : Int64) <<< (p_c.toInt64 &&& 63))) hx hb dX11_wall_90 rfl ?_
                    refine lv_ldc2 (v := (-1)) hx hb hown (hts _ kl_X11_119) dX11_wall_91 ?_
                    refine lv_lxor hx hb dX11_wall_94 ?_
                    refine lv_land hx hb dX11_wall_95 ?_
                    refine va_put (D := G.1) (ci := 1) (v := .long (e_wa &&& (((1 : Int64) <<< (p_c.toInt64 &&& 63)) ^^^ (-1)))) (ty := .long) (C := RX1) (T := TX1) (N := 13) hx hb hts inG_X1 tyX1 tyX1_ok nmX1 hown hK hP hD hS 2 rfl rfl 0 (by decide) (hts _ fl_X11_111) (fun _ h9 => h9) rfl (by decide +kernel) rfl rfl (Nat.le_of_ble_eq_true rfl) dX11_wall_96 (fun H locs hP hD hS => ?_)
                    have hP : va_P G.1 vwCl [(a_o, .inr (11, [.ref a_h, .ref a_im, .ref a_ke, .ref a_k, .ref a_wa, .ref a_th, .ref a_ha, .ref a_wk, .ref a_r, .ref a_x, .int e_tl, .int e_fd, .int e_fpl, .ref a_wd, .int e_wn, .ref a_rf, .int e_lr])), (a_rf, .inl (G.2 0, 5, .inl f_rf)), (a_h, .inr (1, [.long (e_wa &&& (((1 : Int64) <<< (p_c.toInt64 &&& 63)) ^^^ (-1))), .int e_le, .int e_st, .int e_fo, .int e_lc, .ref a_l, .ref a_g, .ref a_b, .ref a_s, .ref a_p, .ref a_w, .long e_gb, .ref a_bb])), (a_p, .inr (6, [.int 8, .int 5, .ref a_pn, .int e_p])), (a_pn, .inl (G.2 0, 40, .inl f_p)), (a_bb, .inl (G.2 1, 24, .inr (.inl f_bb)))] H := hP
                    have hD : va_D A [(a_o, .inr (11, [.ref a_h, .ref a_im, .ref a_ke, .ref a_k, .ref a_wa, .ref a_th, .ref a_ha, .ref a_wk, .ref a_r, .ref a_x, .int e_tl, .int e_fd, .int e_fpl, .ref a_wd, .int e_wn, .ref a_rf, .int e_lr])), (a_rf, .inl (G.2 0, 5, .inl f_rf)), (a_h, .inr (1, [.long (e_wa &&& (((1 : Int64) <<< (p_c.toInt64 &&& 63)) ^^^ (-1))), .int e_le, .int e_st, .int e_fo, .int e_lc, .ref a_l, .ref a_g, .ref a_b, .ref a_s, .ref a_p, .ref a_w, .long e_gb, .ref a_bb])), (a_p, .inr (6, [.int 8, .int 5, .ref a_pn, .int e_p])), (a_pn, .inl (G.2 0, 40, .inl f_p)), (a_bb, .inl (G.2 1, 24, .inr (.inl f_bb)))] := hD
                    refine lv_aload_n hx hb dX11_wall_99 rfl (lv_at hl 1 rfl) ?_
                    refine lv_iload_n hx hb dX11_wall_100 rfl (lv_at hl 0 rfl) ?_
                    have hPc := hP.sub (ws' := [(a_o, .inr (11, [.ref a_h, .ref a_im, .ref a_ke, .ref a_k, .ref a_wa, .ref a_th, .ref a_ha, .ref a_wk, .ref a_r, .ref a_x, .int e_tl, .int e_fd, .int e_fpl, .ref a_wd, .int e_wn, .ref a_rf, .int e_lr]))]) [0] rfl
                    have hDc := hD.sub (ws' := [(a_o, .inr (11, [.ref a_h, .ref a_im, .ref a_ke, .ref a_k, .ref a_wa, .ref a_th, .ref a_ha, .ref a_wk, .ref a_r, .ref a_x, .int e_tl, .int e_fd, .int e_fpl, .ref a_wd, .int e_wn, .ref a_rf, .int e_lr]))]) [0] (by decide) rfl
                    have hFc := va_free (wc := [(a_o, .inr (11, [.ref a_h, .ref a_im, .ref a_ke, .ref a_k, .ref a_wa, .ref a_th, .ref a_ha, .ref a_wk, .ref a_r, .ref a_x, .int e_tl, .int e_fd, .int e_fpl, .ref a_wd, .int e_wn, .ref a_rf, .int e_lr]))]) hD hS hA [0] rfl
                    refine va_calli (va_runV (As := [.int 0]) (rest := []) ⟨hx, hb, hml, hown, hts⟩ (x_done l G a_o a_h a_im a_ke a_k a_wa a_th a_ha a_wk a_r a_x a_wd a_rf H.size e_tl e_fd e_fpl e_wn e_lr 0 ⟨by omega, by omega⟩ ⟨by omega, by omega⟩) (cwV 1 hts gV_X11_121 rfl rfl rfl hv_X11_done ⟨Nat.le_of_ble_eq_true rfl, Nat.le_of_ble_eq_true rfl⟩) (g5_preV hPc hK hDc hN hT hS hFc (ci := 11) (q0 := 0) rfl rfl) rfl rfl hl.1 rfl (lv_room (Nat.le_of_ble_eq_true rfl)) dX11_wall_101 ⟨Nat.le_of_ble_eq_true rfl, Nat.le_of_ble_eq_true rfl⟩) hS (fun q _ h => hFc q h) hFc (fun r u t H1 locs ht hvm hw hB hz1 hk1 hS => ?_)
                    obtain ⟨hP1, hD1⟩ := hB
                    rw [ht] at hP1
                    obtain ⟨rfl, rfl⟩ := hw
                    obtain ⟨hP, hD⟩ := va_join (wr := [(a_rf, .inl (G.2 0, 5, .inl f_rf)), (a_h, .inr (1, [.long (e_wa &&& (((1 : Int64) <<< (p_c.toInt64 &&& 63)) ^^^ (-1))), .int e_le, .int e_st, .int e_fo, .int e_lc, .ref a_l, .ref a_g, .ref a_b, .ref a_s, .ref a_p, .ref a_w, .long e_gb, .ref a_bb])), (a_p, .inr (6, [.int 8, .int 5, .ref a_pn, .int e_p])), (a_pn, .inl (G.2 0, 40, .inl f_p)), (a_bb, .inl (G.2 1, 24, .inr (.inl f_bb)))]) (w1 := [(a_o, .inr (11, [.ref a_h, .ref a_im, .ref a_ke, .ref a_k, .ref a_wa, .ref a_th, .ref a_ha, .ref a_wk, .ref a_r, .ref a_x, .int e_tl, .int e_fd, .int e_fpl, .ref a_wd, .int e_wn, .ref a_rf, .int 0]))]) hP hD [0] [1, 2, 3, 4, 5] rfl rfl (by decide) (by decide) hk1 hFc hP1 hD1
                    generalize H1 = H at hP hS ⊢
                    have hP : va_P G.1 vwCl [(a_rf, .inl (G.2 0, 5, .inl f_rf)), (a_h, .inr (1, [.long (e_wa &&& (((1 : Int64) <<< (p_c.toInt64 &&& 63)) ^^^ (-1))), .int e_le, .int e_st, .int e_fo, .int e_lc, .ref a_l, .ref a_g, .ref a_b, .ref a_s, .ref a_p, .ref a_w, .long e_gb, .ref a_bb])), (a_p, .inr (6, [.int 8, .int 5, .ref a_pn, .int e_p])), (a_pn, .inl (G.2 0, 40, .inl f_p)), (a_bb, .inl (G.2 1, 24, .inr (.inl f_bb))), (a_o, .inr (11, [.ref a_h, .ref a_im, .ref a_ke, .ref a_k, .ref a_wa, .ref a_th, .ref a_ha, .ref a_wk, .ref a_r, .ref a_x, .int e_tl, .int e_fd, .int e_fpl, .ref a_wd, .int e_wn, .ref a_rf, .int 0]))] H := hP
                    have hD : va_D A [(a_rf, .inl (G.2 0, 5, .inl f_rf)), (a_h, .inr (1, [.long (e_wa &&& (((1 : Int64) <<< (p_c.toInt64 &&& 63)) ^^^ (-1))), .int e_le, .int e_st, .int e_fo, .int e_lc, .ref a_l, .ref a_g, .ref a_b, .ref a_s, .ref a_p, .ref a_w, .long e_gb, .ref a_bb])), (a_p, .inr (6, [.int 8, .int 5, .ref a_pn, .int e_p])), (a_pn, .inl (G.2 0, 40, .inl f_p)), (a_bb, .inl (G.2 1, 24, .inr (.inl f_bb))), (a_o, .inr (11, [.ref a_h, .ref a_im, .ref a_ke, .ref a_k, .ref a_wa, .ref a_th, .ref a_ha, .ref a_wk, .ref a_r, .ref a_x, .int e_tl, .int e_fd, .int e_fpl, .ref a_wd, .int e_wn, .ref a_rf, .int 0]))] := hD
                    exact W.iret (v := 0) hx hb hr (fun t ht hW => ⟨⟨0, [(a_o, .inr (11, [.ref a_h, .ref a_im, .ref a_ke, .ref a_k, .ref a_wa, .ref a_th, .ref a_ha, .ref a_wk, .ref a_r, .ref a_x, .int e_tl, .int e_fd, .int e_fpl, .ref a_wd, .int e_wn, .ref a_rf, .int 0])), (a_rf, .inl (G.2 0, 5, .inl f_rf)), (a_h, .inr (1, [.long (e_wa &&& (((1 : Int64) <<< (p_c.toInt64 &&& 63)) ^^^ (-1))), .int e_le, .int e_st, .int e_fo, .int e_lc, .ref a_l, .ref a_g, .ref a_b, .ref a_s, .ref a_p, .ref a_w, .long e_gb, .ref a_bb])), (a_p, .inr (6, [.int 8, .int 5, .ref a_pn, .int e_p])), (a_pn, .inl (G.2 0, 40, .inl f_p)), (a_bb, .inl (G.2 1, 24, .inr (.inl f_bb)))], rfl, ⟨0, 0, f_rf, (e_wa &&& (((1 : Int64) <<< (p_c.toInt64 &&& 63)) ^^^ (-1))), rfl, rfl⟩, by rw [ht]; exact hP.sub [5, 0, 1, 2, 3, 4] rfl, hD.sub [5, 0, 1, 2, 3, 4] (by decide) rfl⟩, hS.F ht⟩) hS.2.2 dX11_wall_104
                  ·
                    have i_13 : p_i.toInt = 1 := by have z := g5_neN (a := p_i.toInt) (b := 1) (by rfl) (by decide) c_13; omega
                    refine lv_aload_n hx hb dX11_wall_67 rfl (lv_at hl 1 rfl) ?_
                    refine va_get (D := G.1) (ci := 11) (v := .ref a_h) (C := RX11) (T := TX11) (N := 17) hx hb hts inG_X11 hown hK hP 0 rfl rfl 0 (by decide) (hts _ fl_X11_12) (fun _ h9 => h9) rfl dX11_wall_68 ?_
                    refine va_get (D := G.1) (ci := 1) (v := .long e_wa) (C := RX1) (T := TX1) (N := 13) hx hb hts inG_X1 hown hK hP 2 rfl rfl 0 (by decide) (hts _ fl_X11_111) (fun _ h9 => h9) rfl dX11_wall_71 ?_
                    refine lv_lconst (v := 1) hx hb dX11_wall_74 (by decide) ?_
                    refine lv_iload_n hx hb dX11_wall_75 rfl (lv_at hl 2 rfl) ?_
                    refine lv_lshl (v := ((1 : Int64) <<< (p_c.toInt64 &&& 63))) hx hb dX11_wall_76 rfl ?_
                    refine lv_lor hx hb dX11_wall_77 ?_
                    refine lv_goto (tgt := 96) hx hb dX11_wall_78 (by decide) ?_
                    refine va_put (D := G.1) (ci := 1) (v := .long (e_wa ||| ((1 : Int64) <<< (p_c.toInt64 &&& 63)))) (ty := .long) (C := RX1) (T := TX1) (N := 13) hx hb hts inG_X1 tyX1 tyX1_ok nmX1 hown hK hP hD hS 2 rfl rfl 0 (by decide) (hts _ fl_X11_111) (fun _ h9 => h9) rfl (by decide +kernel) rfl rfl (Nat.le_of_ble_eq_true rfl) dX11_wall_96 (fun H locs hP hD hS => ?_)
                    have hP : va_P G.1 vwCl [(a_o, .inr (11, [.ref a_h, .ref a_im, .ref a_ke, .ref a_k, .ref a_wa, .ref a_th, .ref a_ha, .ref a_wk, .ref a_r, .ref a_x, .int e_tl, .int e_fd, .int e_fpl, .ref a_wd, .int e_wn, .ref a_rf, .int e_lr])), (a_rf, .inl (G.2 0, 5, .inl f_rf)), (a_h, .inr (1, [.long (e_wa ||| ((1 : Int64) <<< (p_c.toInt64 &&& 63))), .int e_le, .int e_st, .int e_fo, .int e_lc, .ref a_l, .ref a_g, .ref a_b, .ref a_s, .ref a_p, .ref a_w, .long e_gb, .ref a_bb])), (a_p, .inr (6, [.int 8, .int 5, .ref a_pn, .int e_p])), (a_pn, .inl (G.2 0, 40, .inl f_p)), (a_bb, .inl (G.2 1, 24, .inr (.inl f_bb)))] H := hP
                    have hD : va_D A [(a_o, .inr (11, [.ref a_h, .ref a_im, .ref a_ke, .ref a_k, .ref a_wa, .ref a_th, .ref a_ha, .ref a_wk, .ref a_r, .ref a_x, .int e_tl, .int e_fd, .int e_fpl, .ref a_wd, .int e_wn, .ref a_rf, .int e_lr])), (a_rf, .inl (G.2 0, 5, .inl f_rf)), (a_h, .inr (1, [.long (e_wa ||| ((1 : Int64) <<< (p_c.toInt64 &&& 63))), .int e_le, .int e_st, .int e_fo, .int e_lc, .ref a_l, .ref a_g, .ref a_b, .ref a_s, .ref a_p, .ref a_w, .long e_gb, .ref a_bb])), (a_p, .inr (6, [.int 8, .int 5, .ref a_pn, .int e_p])), (a_pn, .inl (G.2 0, 40, .inl f_p)), (a_bb, .inl (G.2 1, 24, .inr (.inl f_bb)))] := hD
                    refine lv_aload_n hx hb dX11_wall_99 rfl (lv_at hl 1 rfl) ?_
                    refine lv_iload_n hx hb dX11_wall_100 rfl (lv_at hl 0 rfl) ?_
                    have hPc := hP.sub (ws' := [(a_o, .inr (11, [.ref a_h, .ref a_im, .ref a_ke, .ref a_k, .ref a_wa, .ref a_th, .ref a_ha, .ref a_wk, .ref a_r, .ref a_x, .int e_tl, .int e_fd, .int e_fpl, .ref a_wd, .int e_wn, .ref a_rf, .int e_lr]))]) [0] rfl
                    have hDc := hD.sub (ws' := [(a_o, .inr (11, [.ref a_h, .ref a_im, .ref a_ke, .ref a_k, .ref a_wa, .ref a_th, .ref a_ha, .ref a_wk, .ref a_r, .ref a_x, .int e_tl, .int e_fd, .int e_fpl, .ref a_wd, .int e_wn, .ref a_rf, .int e_lr]))]) [0] (by decide) rfl
                    have hFc := va_free (wc := [(a_o, .inr (11, [.ref a_h, .ref a_im, .ref a_ke, .ref a_k, .ref a_wa, .ref a_th, .ref a_ha, .ref a_wk, .ref a_r, .ref a_x, .int e_tl, .int e_fd, .int e_fpl, .ref a_wd, .int e_wn, .ref a_rf, .int e_lr]))]) hD hS hA [0] rfl
                    refine va_calli (va_runV (As := [.int 0]) (rest := []) ⟨hx, hb, hml, hown, hts⟩ (x_done l G a_o a_h a_im a_ke a_k a_wa a_th a_ha a_wk a_r a_x a_wd a_rf H.size e_tl e_fd e_fpl e_wn e_lr 0 ⟨by omega, by omega⟩ ⟨by omega, by omega⟩) (cwV 1 hts gV_X11_121 rfl rfl rfl hv_X11_done ⟨Nat.le_of_ble_eq_true rfl, Nat.le_of_ble_eq_true rfl⟩) (g5_preV hPc hK hDc hN hT hS hFc (ci := 11) (q0 := 0) rfl rfl) rfl rfl hl.1 rfl (lv_room (Nat.le_of_ble_eq_true rfl)) dX11_wall_101 ⟨Nat.le_of_ble_eq_true rfl, Nat.le_of_ble_eq_true rfl⟩) hS (fun q _ h => hFc q h) hFc (fun r u t H1 locs ht hvm hw hB hz1 hk1 hS => ?_)
                    obtain ⟨hP1, hD1⟩ := hB
                    rw [ht] at hP1
                    obtain ⟨rfl, rfl⟩ := hw
                    obtain ⟨hP, hD⟩ := va_join (wr := [(a_rf, .inl (G.2 0, 5, .inl f_rf)), (a_h, .inr (1, [.long (e_wa ||| ((1 : Int64) <<< (p_c.toInt64 &&& 63))), .int e_le, .int e_st, .int e_fo, .int e_lc, .ref a_l, .ref a_g, .ref a_b, .ref a_s, .ref a_p, .ref a_w, .long e_gb, .ref a_bb])), (a_p, .inr (6, [.int 8, .int 5, .ref a_pn, .int e_p])), (a_pn, .inl (G.2 0, 40, .inl f_p)), (a_bb, .inl (G.2 1, 24, .inr (.inl f_bb)))]) (w1 := [(a_o, .inr (11, [.ref a_h, .ref a_im, .ref a_ke, .ref a_k, .ref a_wa, .ref a_th, .ref a_ha, .ref a_wk, .ref a_r, .ref a_x, .int e_tl, .int e_fd, .int e_fpl, .ref a_wd, .int e_wn, .ref a_rf, .int 0]))]) hP hD [0] [1, 2, 3, 4, 5] rfl rfl (by decide) (by decide) hk1 hFc hP1 hD1
                    generalize H1 = H at hP hS ⊢
                    have hP : va_P G.1 vwCl [(a_rf, .inl (G.2 0, 5, .inl f_rf)), (a_h, .inr (1, [.long (e_wa ||| ((1 : Int64) <<< (p_c.toInt64 &&& 63))), .int e_le, .int e_st, .int e_fo, .int e_lc, .ref a_l, .ref a_g, .ref a_b, .ref a_s, .ref a_p, .ref a_w, .long e_gb, .ref a_bb])), (a_p, .inr (6, [.int 8, .int 5, .ref a_pn, .int e_p])), (a_pn, .inl (G.2 0, 40, .inl f_p)), (a_bb, .inl (G.2 1, 24, .inr (.inl f_bb))), (a_o, .inr (11, [.ref a_h, .ref a_im, .ref a_ke, .ref a_k, .ref a_wa, .ref a_th, .ref a_ha, .ref a_wk, .ref a_r, .ref a_x, .int e_tl, .int e_fd, .int e_fpl, .ref a_wd, .int e_wn, .ref a_rf, .int 0]))] H := hP
                    have hD : va_D A [(a_rf, .inl (G.2 0, 5, .inl f_rf)), (a_h, .inr (1, [.long (e_wa ||| ((1 : Int64) <<< (p_c.toInt64 &&& 63))), .int e_le, .int e_st, .int e_fo, .int e_lc, .ref a_l, .ref a_g, .ref a_b, .ref a_s, .ref a_p, .ref a_w, .long e_gb, .ref a_bb])), (a_p, .inr (6, [.int 8, .int 5, .ref a_pn, .int e_p])), (a_pn, .inl (G.2 0, 40, .inl f_p)), (a_bb, .inl (G.2 1, 24, .inr (.inl f_bb))), (a_o, .inr (11, [.ref a_h, .ref a_im, .ref a_ke, .ref a_k, .ref a_wa, .ref a_th, .ref a_ha, .ref a_wk, .ref a_r, .ref a_x, .int e_tl, .int e_fd, .int e_fpl, .ref a_wd, .int e_wn, .ref a_rf, .int 0]))] := hD
                    exact W.iret (v := 0) hx hb hr (fun t ht hW => ⟨⟨0, [(a_o, .inr (11, [.ref a_h, .ref a_im, .ref a_ke, .ref a_k, .ref a_wa, .ref a_th, .ref a_ha, .ref a_wk, .ref a_r, .ref a_x, .int e_tl, .int e_fd, .int e_fpl, .ref a_wd, .int e_wn, .ref a_rf, .int 0])), (a_rf, .inl (G.2 0, 5, .inl f_rf)), (a_h, .inr (1, [.long (e_wa ||| ((1 : Int64) <<< (p_c.toInt64 &&& 63))), .int e_le, .int e_st, .int e_fo, .int e_lc, .ref a_l, .ref a_g, .ref a_b, .ref a_s, .ref a_p, .ref a_w, .long e_gb, .ref a_bb])), (a_p, .inr (6, [.int 8, .int 5, .ref a_pn, .int e_p])), (a_pn, .inl (G.2 0, 40, .inl f_p)), (a_bb, .inl (G.2 1, 24, .inr (.inl f_bb)))], rfl, ⟨0, 0, f_rf, (e_wa ||| ((1 : Int64) <<< (p_c.toInt64 &&& 63))), rfl, rfl⟩, by rw [ht]; exact hP.sub [5, 0, 1, 2, 3, 4] rfl, hD.sub [5, 0, 1, 2, 3, 4] (by decide) rfl⟩, hS.F ht⟩) hS.2.2 dX11_wall_104
                ·
                  exact absurd c_12 (by decide)
              ·
                have i_11 : onB e_wa p_c.toInt = true := i_11
                have hP := g5_same hP hk1
                generalize H1 = H at hP hS ⊢
                refine lv_if_eq (tgt := 56) hx hb dX11_wall_49 (by decide) (fun c_14 => ?_) (fun c_14 => ?_)
                ·
                  exact absurd c_14 (by decide)
                ·
                  refine lv_iconst (v := 1) hx hb dX11_wall_52 (by decide) ?_
                  refine lv_goto (tgt := 57) hx hb dX11_wall_53 (by decide) ?_
                  refine lv_istore_n (lv' := [(3, .int 1), (0, .ref a_o), (1, .int p_c), (2, .int p_i)]) hx hb dX11_wall_57 rfl hl (by decide) rfl (fun ls hl => ?_)
                  refine lv_aload_n hx hb dX11_wall_58 rfl (lv_at hl 1 rfl) ?_
                  refine va_get (D := G.1) (ci := 11) (v := .ref a_h) (C := RX11) (T := TX11) (N := 17) hx hb hts inG_X11 hown hK hP 0 rfl rfl 0 (by decide) (hts _ fl_X11_12) (fun _ h9 => h9) rfl dX11_wall_59 ?_
                  refine lv_iload_n hx hb dX11_wall_62 rfl (lv_at hl 3 rfl) ?_
                  refine lv_iconst (v := 1) hx hb dX11_wall_63 (by decide) ?_
                  refine lv_icmp_ne (tgt := 81) hx hb dX11_wall_64 (by decide) (fun c_15 => ?_) (fun c_15 => ?_)
                  ·
                    have n_15 : gNe (p_i.toInt) (1) := by have z := g5_ne (a := p_i.toInt) (b := 1) (by rfl) (by decide) c_15; unfold gNe; omega
                    have i_15 : p_i.toInt ≤ 0 := by have z := g5_ne (a := p_i.toInt) (b := 1) (by rfl) (by decide) c_15; omega
                    refine lv_aload_n hx hb dX11_wall_81 rfl (lv_at hl 1 rfl) ?_
                    refine va_get (D := G.1) (ci := 11) (v := .ref a_h) (C := RX11) (T := TX11) (N := 17) hx hb hts inG_X11 hown hK hP 0 rfl rfl 0 (by decide) (hts _ fl_X11_12) (fun _ h9 => h9) rfl dX11_wall_82 ?_
                    refine va_get (D := G.1) (ci := 1) (v := .long e_wa) (C := RX1) (T := TX1) (N := 13) hx hb hts inG_X1 hown hK hP 2 rfl rfl 0 (by decide) (hts _ fl_X11_111) (fun _ h9 => h9) rfl dX11_wall_85 ?_
                    refine lv_lconst (v := 1) hx hb dX11_wall_88 (by decide) ?_
                    refine lv_iload_n hx hb dX11_wall_89 rfl (lv_at hl 2 rfl) ?_
                    refine lv_lshl (v := ((1 : Int64) <<< (p_c.toInt64 &&& 63))) hx hb dX11_wall_90 rfl ?_
                    refine lv_ldc2 (v := (-1)) hx hb hown (hts _ kl_X11_119) dX11_wall_91 ?_
                    refine lv_lxor hx hb dX11_wall_94 ?_
                    refine lv_land hx hb dX11_wall_95 ?_
                    refine va_put (D := G.1) (ci := 1) (v := .long (e_wa &&& (((1 : Int64) <<< (p_c.toInt64 &&& 63)) ^^^ (-1)))) (ty := .long) (C := RX1) (T := TX1) (N := 13) hx hb hts inG_X1 tyX1 tyX1_ok nmX1 hown hK hP hD hS 2 rfl rfl 0 (by decide) (hts _ fl_X11_111) (fun _ h9 => h9) rfl (by decide +kernel) rfl rfl (Nat.le_of_ble_eq_true rfl) dX11_wall_96 (fun H locs hP hD hS => ?_)
                    have hP : va_P G.1 vwCl [(a_o, .inr (11, [.ref a_h, .ref a_im, .ref a_ke, .ref a_k, .ref a_wa, .ref a_th, .ref a_ha, .ref a_wk, .ref a_r, .ref a_x, .int e_tl, .int e_fd, .int e_fpl, .ref a_wd, .int e_wn, .ref a_rf, .int e_lr])), (a_rf, .inl (G.2 0, 5, .inl f_rf)), (a_h, .inr (1, [.long (e_wa &&& (((1 : Int64) <<< (p_c.toInt64 &&& 63)) ^^^ (-1))), .int e_le, .int e_st, .int e_fo, .int e_lc, .ref a_l, .ref a_g, .ref a_b, .ref a_s, .ref a_p, .ref a_w, .long e_gb, .ref a_bb])), (a_p, .inr (6, [.int 8, .int 5, .ref a_pn, .int e_p])), (a_pn, .inl (G.2 0, 40, .inl f_p)), (a_bb, .inl (G.2 1, 24, .inr (.inl f_bb)))] H := hP
                    have hD : va_D A [(a_o, .inr (11, [.ref a_h, .ref a_im, .ref a_ke, .ref a_k, .ref a_wa, .ref a_th, .ref a_ha, .ref a_wk, .ref a_r, .ref a_x, .int e_tl, .int e_fd, .int e_fpl, .ref a_wd, .int e_wn, .ref a_rf, .int e_lr])), (a_rf, .inl (G.2 0, 5, .inl f_rf)), (a_h, .inr (1, [.long (e_wa &&& (((1 : Int64) <<< (p_c.toInt64 &&& 63)) ^^^ (-1))), .int e_le, .int e_st, .int e_fo, .int e_lc, .ref a_l, .ref a_g, .ref a_b, .ref a_s, .ref a_p, .ref a_w, .long e_gb, .ref a_bb])), (a_p, .inr (6, [.int 8, .int 5, .ref a_pn, .int e_p])), (a_pn, .inl (G.2 0, 40, .inl f_p)), (a_bb, .inl (G.2 1, 24, .inr (.inl f_bb)))] := hD
                    refine lv_aload_n hx hb dX11_wall_99 rfl (lv_at hl 1 rfl) ?_
                    refine lv_iload_n hx hb dX11_wall_100 rfl (lv_at hl 0 rfl) ?_
                    have hPc := hP.sub (ws' := [(a_o, .inr (11, [.ref a_h, .ref a_im, .ref a_ke, .ref a_k, .ref a_wa, .ref a_th, .ref a_ha, .ref a_wk, .ref a_r, .ref a_x, .int e_tl, .int e_fd, .int e_fpl, .ref a_wd, .int e_wn, .ref a_rf, .int e_lr]))]) [0] rfl
                    have hDc := hD.sub (ws' := [(a_o, .inr (11, [.ref a_h, .ref a_im, .ref a_ke, .ref a_k, .ref a_wa, .ref a_th, .ref a_ha, .ref a_wk, .ref a_r, .ref a_x, .int e_tl, .int e_fd, .int e_fpl, .ref a_wd, .int e_wn, .ref a_rf, .int e_lr]))]) [0] (by decide) rfl
                    have hFc := va_free (wc := [(a_o, .inr (11, [.ref a_h, .ref a_im, .ref a_ke, .ref a_k, .ref a_wa, .ref a_th, .ref a_ha, .ref a_wk, .ref a_r, .ref a_x, .int e_tl, .int e_fd, .int e_fpl, .ref a_wd, .int e_wn, .ref a_rf, .int e_lr]))]) hD hS hA [0] rfl
                    refine va_calli (va_runV (As := [.int 1]) (rest := []) ⟨hx, hb, hml, hown, hts⟩ (x_done l G a_o a_h a_im a_ke a_k a_wa a_th a_ha a_wk a_r a_x a_wd a_rf H.size e_tl e_fd e_fpl e_wn e_lr 1 ⟨by omega, by omega⟩ ⟨by omega, by omega⟩) (cwV 1 hts gV_X11_121 rfl rfl rfl hv_X11_done ⟨Nat.le_of_ble_eq_true rfl, Nat.le_of_ble_eq_true rfl⟩) (g5_preV hPc hK hDc hN hT hS hFc (ci := 11) (q0 := 0) rfl rfl) rfl rfl hl.1 rfl (lv_room (Nat.le_of_ble_eq_true rfl)) dX11_wall_101 ⟨Nat.le_of_ble_eq_true rfl, Nat.le_of_ble_eq_true rfl⟩) hS (fun q _ h => hFc q h) hFc (fun r u t H1 locs ht hvm hw hB hz1 hk1 hS => ?_)
                    obtain ⟨hP1, hD1⟩ := hB
                    rw [ht] at hP1
                    obtain ⟨rfl, rfl⟩ := hw
                    obtain ⟨hP, hD⟩ := va_join (wr := [(a_rf, .inl (G.2 0, 5, .inl f_rf)), (a_h, .inr (1, [.long (e_wa &&& (((1 : Int64) <<< (p_c.toInt64 &&& 63)) ^^^ (-1))), .int e_le, .int e_st, .int e_fo, .int e_lc, .ref a_l, .ref a_g, .ref a_b, .ref a_s, .ref a_p, .ref a_w, .long e_gb, .ref a_bb])), (a_p, .inr (6, [.int 8, .int 5, .ref a_pn, .int e_p])), (a_pn, .inl (G.2 0, 40, .inl f_p)), (a_bb, .inl (G.2 1, 24, .inr (.inl f_bb)))]) (w1 := [(a_o, .inr (11, [.ref a_h, .ref a_im, .ref a_ke, .ref a_k, .ref a_wa, .ref a_th, .ref a_ha, .ref a_wk, .ref a_r, .ref a_x, .int e_tl, .int e_fd, .int e_fpl, .ref a_wd, .int e_wn, .ref a_rf, .int 0]))]) hP hD [0] [1, 2, 3, 4, 5] rfl rfl (by decide) (by decide) hk1 hFc hP1 hD1
                    generalize H1 = H at hP hS ⊢
                    have hP : va_P G.1 vwCl [(a_rf, .inl (G.2 0, 5, .inl f_rf)), (a_h, .inr (1, [.long (e_wa &&& (((1 : Int64) <<< (p_c.toInt64 &&& 63)) ^^^ (-1))), .int e_le, .int e_st, .int e_fo, .int e_lc, .ref a_l, .ref a_g, .ref a_b, .ref a_s, .ref a_p, .ref a_w, .long e_gb, .ref a_bb])), (a_p, .inr (6, [.int 8, .int 5, .ref a_pn, .int e_p])), (a_pn, .inl (G.2 0, 40, .inl f_p)), (a_bb, .inl (G.2 1, 24, .inr (.inl f_bb))), (a_o, .inr (11, [.ref a_h, .ref a_im, .ref a_ke, .ref a_k, .ref a_wa, .ref a_th, .ref a_ha, .ref a_wk, .ref a_r, .ref a_x, .int e_tl, .int e_fd, .int e_fpl, .ref a_wd, .int e_wn, .ref a_rf, .int 0]))] H := hP
                    have hD : va_D A [(a_rf, .inl (G.2 0, 5, .inl f_rf)), (a_h, .inr (1, [.long (e_wa &&& (((1 : Int64) <<< (p_c.toInt64 &&& 63)) ^^^ (-1))), .int e_le, .int e_st, .int e_fo, .int e_lc, .ref a_l, .ref a_g, .ref a_b, .ref a_s, .ref a_p, .ref a_w, .long e_gb, .ref a_bb])), (a_p, .inr (6, [.int 8, .int 5, .ref a_pn, .int e_p])), (a_pn, .inl (G.2 0, 40, .inl f_p)), (a_bb, .inl (G.2 1, 24, .inr (.inl f_bb))), (a_o, .inr (11, [.ref a_h, .ref a_im, .ref a_ke, .ref a_k, .ref a_wa, .ref a_th, .ref a_ha, .ref a_wk, .ref a_r, .ref a_x, .int e_tl, .int e_fd, .int e_fpl, .ref a_wd, .int e_wn, .ref a_rf, .int 0]))] := hD
                    exact W.iret (v := 1) hx hb hr (fun t ht hW => ⟨⟨1, [(a_o, .inr (11, [.ref a_h, .ref a_im, .ref a_ke, .ref a_k, .ref a_wa, .ref a_th, .ref a_ha, .ref a_wk, .ref a_r, .ref a_x, .int e_tl, .int e_fd, .int e_fpl, .ref a_wd, .int e_wn, .ref a_rf, .int 0])), (a_rf, .inl (G.2 0, 5, .inl f_rf)), (a_h, .inr (1, [.long (e_wa &&& (((1 : Int64) <<< (p_c.toInt64 &&& 63)) ^^^ (-1))), .int e_le, .int e_st, .int e_fo, .int e_lc, .ref a_l, .ref a_g, .ref a_b, .ref a_s, .ref a_p, .ref a_w, .long e_gb, .ref a_bb])), (a_p, .inr (6, [.int 8, .int 5, .ref a_pn, .int e_p])), (a_pn, .inl (G.2 0, 40, .inl f_p)), (a_bb, .inl (G.2 1, 24, .inr (.inl f_bb)))], rfl, ⟨1, 0, f_rf, (e_wa &&& (((1 : Int64) <<< (p_c.toInt64 &&& 63)) ^^^ (-1))), rfl, rfl⟩, by rw [ht]; exact hP.sub [5, 0, 1, 2, 3, 4] rfl, hD.sub [5, 0, 1, 2, 3, 4] (by decide) rfl⟩, hS.F ht⟩) hS.2.2 dX11_wall_104
                  ·
                    have i_15 : p_i.toInt = 1 := by have z := g5_neN (a := p_i.toInt) (b := 1) (by rfl) (by decide) c_15; omega
                    refine lv_aload_n hx hb dX11_wall_67 rfl (lv_at hl 1 rfl) ?_
                    refine va_get (D := G.1) (ci := 11) (v := .ref a_h) (C := RX11) (T := TX11) (N := 17) hx hb hts inG_X11 hown hK hP 0 rfl rfl 0 (by decide) (hts _ fl_X11_12) (fun _ h9 => h9) rfl dX11_wall_68 ?_
                    refine va_get (D := G.1) (ci := 1) (v := .long e_wa) (C := RX1) (T := TX1) (N := 13) hx hb hts inG_X1 hown hK hP 2 rfl rfl 0 (by decide) (hts _ fl_X11_111) (fun _ h9 => h9) rfl dX11_wall_71 ?_
                    refine lv_lconst (v := 1) hx hb dX11_wall_74 (by decide) ?_
                    refine lv_iload_n hx hb dX11_wall_75 rfl (lv_at hl 2 rfl) ?_
                    refine lv_lshl (v := ((1 : Int64) <<< (p_c.toInt64 &&& 63))) hx hb dX11_wall_76 rfl ?_
                    refine lv_lor hx hb dX11_wall_77 ?_
                    refine lv_goto (tgt := 96) hx hb dX11_wall_78 (by decide) ?_
                    refine va_put (D := G.1) (ci := 1) (v := .long (e_wa ||| ((1 : Int64) <<< (p_c.toInt64 &&& 63)))) (ty := .long) (C := RX1) (T := TX1) (N := 13) hx hb hts inG_X1 tyX1 tyX1_ok nmX1 hown hK hP hD hS 2 rfl rfl 0 (by decide) (hts _ fl_X11_111) (fun _ h9 => h9) rfl (by decide +kernel) rfl rfl (Nat.le_of_ble_eq_true rfl) dX11_wall_96 (fun H locs hP hD hS => ?_)
                    have hP : va_P G.1 vwCl [(a_o, .inr (11, [.ref a_h, .ref a_im, .ref a_ke, .ref a_k, .ref a_wa, .ref a_th, .ref a_ha, .ref a_wk, .ref a_r, .ref a_x, .int e_tl, .int e_fd, .int e_fpl, .ref a_wd, .int e_wn, .ref a_rf, .int e_lr])), (a_rf, .inl (G.2 0, 5, .inl f_rf)), (a_h, .inr (1, [.long (e_wa ||| ((1 : Int64) <<< (p_c.toInt64 &&& 63))), .int e_le, .int e_st, .int e_fo, .int e_lc, .ref a_l, .ref a_g, .ref a_b, .ref a_s, .ref a_p, .ref a_w, .long e_gb, .ref a_bb])), (a_p, .inr (6, [.int 8, .int 5, .ref a_pn, .int e_p])), (a_pn, .inl (G.2 0, 40, .inl f_p)), (a_bb, .inl (G.2 1, 24, .inr (.inl f_bb)))] H := hP
                    have hD : va_D A [(a_o, .inr (11, [.ref a_h, .ref a_im, .ref a_ke, .ref a_k, .ref a_wa, .ref a_th, .ref a_ha, .ref a_wk, .ref a_r, .ref a_x, .int e_tl, .int e_fd, .int e_fpl, .ref a_wd, .int e_wn, .ref a_rf, .int e_lr])), (a_rf, .inl (G.2 0, 5, .inl f_rf)), (a_h, .inr (1, [.long (e_wa ||| ((1 : Int64) <<< (p_c.toInt64 &&& 63))), .int e_le, .int e_st, .int e_fo, .int e_lc, .ref a_l, .ref a_g, .ref a_b, .ref a_s, .ref a_p, .ref a_w, .long e_gb, .ref a_bb])), (a_p, .inr (6, [.int 8, .int 5, .ref a_pn, .int e_p])), (a_pn, .inl (G.2 0, 40, .inl f_p)), (a_bb, .inl (G.2 1, 24, .inr (.inl f_bb)))] := hD
                    refine lv_aload_n hx hb dX11_wall_99 rfl (lv_at hl 1 rfl) ?_
                    refine lv_iload_n hx hb dX11_wall_100 rfl (lv_at hl 0 rfl) ?_
                    have hPc := hP.sub (ws' := [(a_o, .inr (11, [.ref a_h, .ref a_im, .ref a_ke, .ref a_k, .ref a_wa, .ref a_th, .ref a_ha, .ref a_wk, .ref a_r, .ref a_x, .int e_tl, .int e_fd, .int e_fpl, .ref a_wd, .int e_wn, .ref a_rf, .int e_lr]))]) [0] rfl
                    have hDc := hD.sub (ws' := [(a_o, .inr (11, [.ref a_h, .ref a_im, .ref a_ke, .ref a_k, .ref a_wa, .ref a_th, .ref a_ha, .ref a_wk, .ref a_r, .ref a_x, .int e_tl, .int e_fd, .int e_fpl, .ref a_wd, .int e_wn, .ref a_rf, .int e_lr]))]) [0] (by decide) rfl
                    have hFc := va_free (wc := [(a_o, .inr (11, [.ref a_h, .ref a_im, .ref a_ke, .ref a_k, .ref a_wa, .ref a_th, .ref a_ha, .ref a_wk, .ref a_r, .ref a_x, .int e_tl, .int e_fd, .int e_fpl, .ref a_wd, .int e_wn, .ref a_rf, .int e_lr]))]) hD hS hA [0] rfl
                    refine va_calli (va_runV (As := [.int 1]) (rest := []) ⟨hx, hb, hml, hown, hts⟩ (x_done l G a_o a_h a_im a_ke a_k a_wa a_th a_ha a_wk a_r a_x a_wd a_rf H.size e_tl e_fd e_fpl e_wn e_lr 1 ⟨by omega, by omega⟩ ⟨by omega, by omega⟩) (cwV 1 hts gV_X11_121 rfl rfl rfl hv_X11_done ⟨Nat.le_of_ble_eq_true rfl, Nat.le_of_ble_eq_true rfl⟩) (g5_preV hPc hK hDc hN hT hS hFc (ci := 11) (q0 := 0) rfl rfl) rfl rfl hl.1 rfl (lv_room (Nat.le_of_ble_eq_true rfl)) dX11_wall_101 ⟨Nat.le_of_ble_eq_true rfl, Nat.le_of_ble_eq_true rfl⟩) hS (fun q _ h => hFc q h) hFc (fun r u t H1 locs ht hvm hw hB hz1 hk1 hS => ?_)
                    obtain ⟨hP1, hD1⟩ := hB
                    rw [ht] at hP1
                    obtain ⟨rfl, rfl⟩ := hw
                    obtain ⟨hP, hD⟩ := va_join (wr := [(a_rf, .inl (G.2 0, 5, .inl f_rf)), (a_h, .inr (1, [.long (e_wa ||| ((1 : Int64) <<< (p_c.toInt64 &&& 63))), .int e_le, .int e_st, .int e_fo, .int e_lc, .ref a_l, .ref a_g, .ref a_b, .ref a_s, .ref a_p, .ref a_w, .long e_gb, .ref a_bb])), (a_p, .inr (6, [.int 8, .int 5, .ref a_pn, .int e_p])), (a_pn, .inl (G.2 0, 40, .inl f_p)), (a_bb, .inl (G.2 1, 24, .inr (.inl f_bb)))]) (w1 := [(a_o, .inr (11, [.ref a_h, .ref a_im, .ref a_ke, .ref a_k, .ref a_wa, .ref a_th, .ref a_ha, .ref a_wk, .ref a_r, .ref a_x, .int e_tl, .int e_fd, .int e_fpl, .ref a_wd, .int e_wn, .ref a_rf, .int 0]))]) hP hD [0] [1, 2, 3, 4, 5] rfl rfl (by decide) (by decide) hk1 hFc hP1 hD1
                    generalize H1 = H at hP hS ⊢
                    have hP : va_P G.1 vwCl [(a_rf, .inl (G.2 0, 5, .inl f_rf)), (a_h, .inr (1, [.long (e_wa ||| ((1 : Int64) <<< (p_c.toInt64 &&& 63))), .int e_le, .int e_st, .int e_fo, .int e_lc, .ref a_l, .ref a_g, .ref a_b, .ref a_s, .ref a_p, .ref a_w, .long e_gb, .ref a_bb])), (a_p, .inr (6, [.int 8, .int 5, .ref a_pn, .int e_p])), (a_pn, .inl (G.2 0, 40, .inl f_p)), (a_bb, .inl (G.2 1, 24, .inr (.inl f_bb))), (a_o, .inr (11, [.ref a_h, .ref a_im, .ref a_ke, .ref a_k, .ref a_wa, .ref a_th, .ref a_ha, .ref a_wk, .ref a_r, .ref a_x, .int e_tl, .int e_fd, .int e_fpl, .ref a_wd, .int e_wn, .ref a_rf, .int 0]))] H := hP
                    have hD : va_D A [(a_rf, .inl (G.2 0, 5, .inl f_rf)), (a_h, .inr (1, [.long (e_wa ||| ((1 : Int64) <<< (p_c.toInt64 &&& 63))), .int e_le, .int e_st, .int e_fo, .int e_lc, .ref a_l, .ref a_g, .ref a_b, .ref a_s, .ref a_p, .ref a_w, .long e_gb, .ref a_bb])), (a_p, .inr (6, [.int 8, .int 5, .ref a_pn, .int e_p])), (a_pn, .inl (G.2 0, 40, .inl f_p)), (a_bb, .inl (G.2 1, 24, .inr (.inl f_bb))), (a_o, .inr (11, [.ref a_h, .ref a_im, .ref a_ke, .ref a_k, .ref a_wa, .ref a_th, .ref a_ha, .ref a_wk, .ref a_r, .ref a_x, .int e_tl, .int e_fd, .int e_fpl, .ref a_wd, .int e_wn, .ref a_rf, .int 0]))] := hD
                    exact W.iret (v := 1) hx hb hr (fun t ht hW => ⟨⟨1, [(a_o, .inr (11, [.ref a_h, .ref a_im, .ref a_ke, .ref a_k, .ref a_wa, .ref a_th, .ref a_ha, .ref a_wk, .ref a_r, .ref a_x, .int e_tl, .int e_fd, .int e_fpl, .ref a_wd, .int e_wn, .ref a_rf, .int 0])), (a_rf, .inl (G.2 0, 5, .inl f_rf)), (a_h, .inr (1, [.long (e_wa ||| ((1 : Int64) <<< (p_c.toInt64 &&& 63))), .int e_le, .int e_st, .int e_fo, .int e_lc, .ref a_l, .ref a_g, .ref a_b, .ref a_s, .ref a_p, .ref a_w, .long e_gb, .ref a_bb])), (a_p, .inr (6, [.int 8, .int 5, .ref a_pn, .int e_p])), (a_pn, .inl (G.2 0, 40, .inl f_p)), (a_bb, .inl (G.2 1, 24, .inr (.inl f_bb)))], rfl, ⟨1, 0, f_rf, (e_wa ||| ((1 : Int64) <<< (p_c.toInt64 &&& 63))), rfl, rfl⟩, by rw [ht]; exact hP.sub [5, 0, 1, 2, 3, 4] rfl, hD.sub [5, 0, 1, 2, 3, 4] (by decide) rfl⟩, hS.F ht⟩) hS.2.2 dX11_wall_104
            ·
              exact absurd c_9 (by decide)
        ·
          exact absurd c_4 (by decide)
      ·
        have hP := g5_same hP hk1
        generalize H1 = H at hP hS ⊢
        refine lv_if_ne (tgt := 20) hx hb dX11_wall_11 (by decide) (fun c_16 => ?_) (fun c_16 => ?_)
        ·
          exact absurd c_16 (by decide)
        ·
          refine lv_aload_n hx hb dX11_wall_14 rfl (lv_at hl 0 rfl) ?_
          refine lv_iconst (v := (-1)) hx hb dX11_wall_15 (by decide) ?_
          have hPc := hP.sub (ws' := [(a_o, .inr (11, [.ref a_h, .ref a_im, .ref a_ke, .ref a_k, .ref a_wa, .ref a_th, .ref a_ha, .ref a_wk, .ref a_r, .ref a_x, .int e_tl, .int e_fd, .int e_fpl, .ref a_wd, .int e_wn, .ref a_rf, .int e_lr])), (a_rf, .inl (G.2 0, 5, .inl f_rf))]) [0, 1] rfl
          have hDc := hD.sub (ws' := [(a_o, .inr (11, [.ref a_h, .ref a_im, .ref a_ke, .ref a_k, .ref a_wa, .ref a_th, .ref a_ha, .ref a_wk, .ref a_r, .ref a_x, .int e_tl, .int e_fd, .int e_fpl, .ref a_wd, .int e_wn, .ref a_rf, .int e_lr])), (a_rf, .inl (G.2 0, 5, .inl f_rf))]) [0, 1] (by decide) rfl
          have hFc := va_free (wc := [(a_o, .inr (11, [.ref a_h, .ref a_im, .ref a_ke, .ref a_k, .ref a_wa, .ref a_th, .ref a_ha, .ref a_wk, .ref a_r, .ref a_x, .int e_tl, .int e_fd, .int e_fpl, .ref a_wd, .int e_wn, .ref a_rf, .int e_lr])), (a_rf, .inl (G.2 0, 5, .inl f_rf))]) hD hS hA [0, 1] rfl
          refine va_calli (va_runV (As := [.int (-1)]) (rest := []) ⟨hx, hb, hml, hown, hts⟩ (x_refuse1 l G a_o a_rf a_h a_im a_ke a_k a_wa a_th a_ha a_wk a_r a_x a_wd H.size e_tl e_fd e_fpl e_wn e_lr f_rf ⟨by omega, by omega⟩ ⟨by omega, by omega⟩) (cwV 1 hts gV_X11_104 rfl rfl rfl hv_X11_refuse ⟨Nat.le_of_ble_eq_true rfl, Nat.le_of_ble_eq_true rfl⟩) (g5_preV hPc hK hDc hN hT hS hFc (ci := 11) (q0 := 0) rfl rfl) rfl rfl hl.1 rfl (lv_room (Nat.le_of_ble_eq_true rfl)) dX11_wall_16 ⟨Nat.le_of_ble_eq_true rfl, Nat.le_of_ble_eq_true rfl⟩) hS (fun q _ h => hFc q h) hFc (fun r u t H1 locs ht hvm hw hB hz1 hk1 hS => ?_)
          obtain ⟨hP1, hD1⟩ := hB
          rw [ht] at hP1
          obtain ⟨z17, rfl, rfl⟩ := hw
          obtain ⟨hP, hD⟩ := va_join (wr := [(a_h, .inr (1, [.long e_wa, .int e_le, .int e_st, .int e_fo, .int e_lc, .ref a_l, .ref a_g, .ref a_b, .ref a_s, .ref a_p, .ref a_w, .long e_gb, .ref a_bb])), (a_p, .inr (6, [.int 8, .int 5, .ref a_pn, .int e_p])), (a_pn, .inl (G.2 0, 40, .inl f_p)), (a_bb, .inl (G.2 1, 24, .inr (.inl f_bb)))]) (w1 := [(a_o, .inr (11, [.ref a_h, .ref a_im, .ref a_ke, .ref a_k, .ref a_wa, .ref a_th, .ref a_ha, .ref a_wk, .ref a_r, .ref a_x, .int e_tl, .int e_fd, .int e_fpl, .ref a_wd, .int e_wn, .ref a_rf, .int (-1)])), (a_rf, .inl (G.2 0, 5, .inl z17))]) hP hD [0, 1] [2, 3, 4, 5] rfl rfl (by decide) (by decide) hk1 hFc hP1 hD1
          generalize H1 = H at hP hS ⊢
          have hP : va_P G.1 vwCl [(a_h, .inr (1, [.long e_wa, .int e_le, .int e_st, .int e_fo, .int e_lc, .ref a_l, .ref a_g, .ref a_b, .ref a_s, .ref a_p, .ref a_w, .long e_gb, .ref a_bb])), (a_p, .inr (6, [.int 8, .int 5, .ref a_pn, .int e_p])), (a_pn, .inl (G.2 0, 40, .inl f_p)), (a_bb, .inl (G.2 1, 24, .inr (.inl f_bb))), (a_o, .inr (11, [.ref a_h, .ref a_im, .ref a_ke, .ref a_k, .ref a_wa, .ref a_th, .ref a_ha, .ref a_wk, .ref a_r, .ref a_x, .int e_tl, .int e_fd, .int e_fpl, .ref a_wd, .int e_wn, .ref a_rf, .int (-1)])), (a_rf, .inl (G.2 0, 5, .inl z17))] H := hP
          have hD : va_D A [(a_h, .inr (1, [.long e_wa, .int e_le, .int e_st, .int e_fo, .int e_lc, .ref a_l, .ref a_g, .ref a_b, .ref a_s, .ref a_p, .ref a_w, .long e_gb, .ref a_bb])), (a_p, .inr (6, [.int 8, .int 5, .ref a_pn, .int e_p])), (a_pn, .inl (G.2 0, 40, .inl f_p)), (a_bb, .inl (G.2 1, 24, .inr (.inl f_bb))), (a_o, .inr (11, [.ref a_h, .ref a_im, .ref a_ke, .ref a_k, .ref a_wa, .ref a_th, .ref a_ha, .ref a_wk, .ref a_r, .ref a_x, .int e_tl, .int e_fd, .int e_fpl, .ref a_wd, .int e_wn, .ref a_rf, .int (-1)])), (a_rf, .inl (G.2 0, 5, .inl z17))] := hD
          exact W.iret (v := (-1)) hx hb hr (fun t ht hW => ⟨⟨(-1), [(a_o, .inr (11, [.ref a_h, .ref a_im, .ref a_ke, .ref a_k, .ref a_wa, .ref a_th, .ref a_ha, .ref a_wk, .ref a_r, .ref a_x, .int e_tl, .int e_fd, .int e_fpl, .ref a_wd, .int e_wn, .ref a_rf, .int (-1)])), (a_rf, .inl (G.2 0, 5, .inl z17)), (a_h, .inr (1, [.long e_wa, .int e_le, .int e_st, .int e_fo, .int e_lc, .ref a_l, .ref a_g, .ref a_b, .ref a_s, .ref a_p, .ref a_w, .long e_gb, .ref a_bb])), (a_p, .inr (6, [.int 8, .int 5, .ref a_pn, .int e_p])), (a_pn, .inl (G.2 0, 40, .inl f_p)), (a_bb, .inl (G.2 1, 24, .inr (.inl f_bb)))], rfl, ⟨(-1), (-1), z17, e_wa, rfl, rfl⟩, by rw [ht]; exact hP.sub [4, 5, 0, 1, 2, 3] rfl, hD.sub [4, 5, 0, 1, 2, 3] (by decide) rfl⟩, hS.F ht⟩) hS.2.2 dX11_wall_19
  ·
    have hP := g5_same hP hk1
    generalize H1 = H at hP hS ⊢
    refine lv_if_eq (tgt := 14) hx hb dX11_wall_4 (by decide) (fun c_18 => ?_) (fun c_18 => ?_)
    ·
      refine lv_aload_n hx hb dX11_wall_14 rfl (lv_at hl 0 rfl) ?_
      refine lv_iconst (v := (-1)) hx hb dX11_wall_15 (by decide) ?_
      have hPc := hP.sub (ws' := [(a_o, .inr (11, [.ref a_h, .ref a_im, .ref a_ke, .ref a_k, .ref a_wa, .ref a_th, .ref a_ha, .ref a_wk, .ref a_r, .ref a_x, .int e_tl, .int e_fd, .int e_fpl, .ref a_wd, .int e_wn, .ref a_rf, .int e_lr])), (a_rf, .inl (G.2 0, 5, .inl f_rf))]) [0, 1] rfl
      have hDc := hD.sub (ws' := [(a_o, .inr (11, [.ref a_h, .ref a_im, .ref a_ke, .ref a_k, .ref a_wa, .ref a_th, .ref a_ha, .ref a_wk, .ref a_r, .ref a_x, .int e_tl, .int e_fd, .int e_fpl, .ref a_wd, .int e_wn, .ref a_rf, .int e_lr])), (a_rf, .inl (G.2 0, 5, .inl f_rf))]) [0, 1] (by decide) rfl
      have hFc := va_free (wc := [(a_o, .inr (11, [.ref a_h, .ref a_im, .ref a_ke, .ref a_k, .ref a_wa, .ref a_th, .ref a_ha, .ref a_wk, .ref a_r, .ref a_x, .int e_tl, .int e_fd, .int e_fpl, .ref a_wd, .int e_wn, .ref a_rf, .int e_lr])), (a_rf, .inl (G.2 0, 5, .inl f_rf))]) hD hS hA [0, 1] rfl
      refine va_calli (va_runV (As := [.int (-1)]) (rest := []) ⟨hx, hb, hml, hown, hts⟩ (x_refuse1 l G a_o a_rf a_h a_im a_ke a_k a_wa a_th a_ha a_wk a_r a_x a_wd H.size e_tl e_fd e_fpl e_wn e_lr f_rf ⟨by omega, by omega⟩ ⟨by omega, by omega⟩) (cwV 1 hts gV_X11_104 rfl rfl rfl hv_X11_refuse ⟨Nat.le_of_ble_eq_true rfl, Nat.le_of_ble_eq_true rfl⟩) (g5_preV hPc hK hDc hN hT hS hFc (ci := 11) (q0 := 0) rfl rfl) rfl rfl hl.1 rfl (lv_room (Nat.le_of_ble_eq_true rfl)) dX11_wall_16 ⟨Nat.le_of_ble_eq_true rfl, Nat.le_of_ble_eq_true rfl⟩) hS (fun q _ h => hFc q h) hFc (fun r u t H1 locs ht hvm hw hB hz1 hk1 hS => ?_)
      obtain ⟨hP1, hD1⟩ := hB
      rw [ht] at hP1
      obtain ⟨z19, rfl, rfl⟩ := hw
      obtain ⟨hP, hD⟩ := va_join (wr := [(a_h, .inr (1, [.long e_wa, .int e_le, .int e_st, .int e_fo, .int e_lc, .ref a_l, .ref a_g, .ref a_b, .ref a_s, .ref a_p, .ref a_w, .long e_gb, .ref a_bb])), (a_p, .inr (6, [.int 8, .int 5, .ref a_pn, .int e_p])), (a_pn, .inl (G.2 0, 40, .inl f_p)), (a_bb, .inl (G.2 1, 24, .inr (.inl f_bb)))]) (w1 := [(a_o, .inr (11, [.ref a_h, .ref a_im, .ref a_ke, .ref a_k, .ref a_wa, .ref a_th, .ref a_ha, .ref a_wk, .ref a_r, .ref a_x, .int e_tl, .int e_fd, .int e_fpl, .ref a_wd, .int e_wn, .ref a_rf, .int (-1)])), (a_rf, .inl (G.2 0, 5, .inl z19))]) hP hD [0, 1] [2, 3, 4, 5] rfl rfl (by decide) (by decide) hk1 hFc hP1 hD1
      generalize H1 = H at hP hS ⊢
      have hP : va_P G.1 vwCl [(a_h, .inr (1, [.long e_wa, .int e_le, .int e_st, .int e_fo, .int e_lc, .ref a_l, .ref a_g, .ref a_b, .ref a_s, .ref a_p, .ref a_w, .long e_gb, .ref a_bb])), (a_p, .inr (6, [.int 8, .int 5, .ref a_pn, .int e_p])), (a_pn, .inl (G.2 0, 40, .inl f_p)), (a_bb, .inl (G.2 1, 24, .inr (.inl f_bb))), (a_o, .inr (11, [.ref a_h, .ref a_im, .ref a_ke, .ref a_k, .ref a_wa, .ref a_th, .ref a_ha, .ref a_wk, .ref a_r, .ref a_x, .int e_tl, .int e_fd, .int e_fpl, .ref a_wd, .int e_wn, .ref a_rf, .int (-1)])), (a_rf, .inl (G.2 0, 5, .inl z19))] H := hP
      have hD : va_D A [(a_h, .inr (1, [.long e_wa, .int e_le, .int e_st, .int e_fo, .int e_lc, .ref a_l, .ref a_g, .ref a_b, .ref a_s, .ref a_p, .ref a_w, .long e_gb, .ref a_bb])), (a_p, .inr (6, [.int 8, .int 5, .ref a_pn, .int e_p])), (a_pn, .inl (G.2 0, 40, .inl f_p)), (a_bb, .inl (G.2 1, 24, .inr (.inl f_bb))), (a_o, .inr (11, [.ref a_h, .ref a_im, .ref a_ke, .ref a_k, .ref a_wa, .ref a_th, .ref a_ha, .ref a_wk, .ref a_r, .ref a_x, .int e_tl, .int e_fd, .int e_fpl, .ref a_wd, .int e_wn, .ref a_rf, .int (-1)])), (a_rf, .inl (G.2 0, 5, .inl z19))] := hD
      exact W.iret (v := (-1)) hx hb hr (fun t ht hW => ⟨⟨(-1), [(a_o, .inr (11, [.ref a_h, .ref a_im, .ref a_ke, .ref a_k, .ref a_wa, .ref a_th, .ref a_ha, .ref a_wk, .ref a_r, .ref a_x, .int e_tl, .int e_fd, .int e_fpl, .ref a_wd, .int e_wn, .ref a_rf, .int (-1)])), (a_rf, .inl (G.2 0, 5, .inl z19)), (a_h, .inr (1, [.long e_wa, .int e_le, .int e_st, .int e_fo, .int e_lc, .ref a_l, .ref a_g, .ref a_b, .ref a_s, .ref a_p, .ref a_w, .long e_gb, .ref a_bb])), (a_p, .inr (6, [.int 8, .int 5, .ref a_pn, .int e_p])), (a_pn, .inl (G.2 0, 40, .inl f_p)), (a_bb, .inl (G.2 1, 24, .inr (.inl f_bb)))], rfl, ⟨(-1), (-1), z19, e_wa, rfl, rfl⟩, by rw [ht]; exact hP.sub [4, 5, 0, 1, 2, 3] rfl, hD.sub [4, 5, 0, 1, 2, 3] (by decide) rfl⟩, hS.F ht⟩) hS.2.2 dX11_wall_19
    ·
      exact absurd c_18 (by decide)
theorem dX11_glass_0 : decode cX11_glass 0 = .ok (.iload_n 1, 1) := by decide +kernel
theorem dX11_glass_1 : decode cX11_glass 1 = .ok (.invokestatic 97, 3) := by decide +kernel
theorem dX11_glass_4 : decode cX11_glass 4 = .ok (.ifCond .eq 25, 3) := by decide +kernel
theorem dX11_glass_7 : decode cX11_glass 7 = .ok (.iload_n 2, 1) := by decide +kernel
theorem dX11_glass_8 : decode cX11_glass 8 = .ok (.invokestatic 124, 3) := by decide +kernel
theorem dX11_glass_11 : decode cX11_glass 11 = .ok (.ifCond .eq 18, 3) := by decide +kernel
theorem dX11_glass_14 : decode cX11_glass 14 = .ok (.iload_n 3, 1) := by decide +kernel
theorem dX11_glass_15 : decode cX11_glass 15 = .ok (.invokestatic 127, 3) := by decide +kernel
theorem dX11_glass_18 : decode cX11_glass 18 = .ok (.ifCond .eq 11, 3) := by decide +kernel
theorem dX11_glass_21 : decode cX11_glass 21 = .ok (.iload 4, 2) := by decide +kernel
theorem dX11_glass_23 : decode cX11_glass 23 = .ok (.invokestatic 130, 3) := by decide +kernel
theorem dX11_glass_26 : decode cX11_glass 26 = .ok (.ifCond .ne 9, 3) := by decide +kernel
theorem dX11_glass_29 : decode cX11_glass 29 = .ok (.aload_n 0, 1) := by decide +kernel
theorem dX11_glass_30 : decode cX11_glass 30 = .ok (.iconst (-1), 1) := by decide +kernel
theorem dX11_glass_31 : decode cX11_glass 31 = .ok (.invokevirtual 104, 3) := by decide +kernel
theorem dX11_glass_34 : decode cX11_glass 34 = .ok (.ireturn, 1) := by decide +kernel
theorem dX11_glass_35 : decode cX11_glass 35 = .ok (.aload_n 0, 1) := by decide +kernel
theorem dX11_glass_36 : decode cX11_glass 36 = .ok (.getfield 12, 3) := by decide +kernel
theorem dX11_glass_39 : decode cX11_glass 39 = .ok (.iload_n 1, 1) := by decide +kernel
theorem dX11_glass_40 : decode cX11_glass 40 = .ok (.invokevirtual 133, 3) := by decide +kernel
theorem dX11_glass_43 : decode cX11_glass 43 = .ok (.ifCond .ne 10, 3) := by decide +kernel
theorem dX11_glass_46 : decode cX11_glass 46 = .ok (.aload_n 0, 1) := by decide +kernel
theorem dX11_glass_47 : decode cX11_glass 47 = .ok (.bipush (-3), 2) := by decide +kernel
theorem dX11_glass_49 : decode cX11_glass 49 = .ok (.invokevirtual 104, 3) := by decide +kernel
theorem dX11_glass_52 : decode cX11_glass 52 = .ok (.ireturn, 1) := by decide +kernel
theorem dX11_glass_53 : decode cX11_glass 53 = .ok (.aload_n 0, 1) := by decide +kernel
theorem dX11_glass_54 : decode cX11_glass 54 = .ok (.getfield 12, 3) := by decide +kernel
theorem dX11_glass_57 : decode cX11_glass 57 = .ok (.getfield 136, 3) := by decide +kernel
theorem dX11_glass_60 : decode cX11_glass 60 = .ok (.invokevirtual 140, 3) := by decide +kernel
theorem dX11_glass_63 : decode cX11_glass 63 = .ok (.ifCond .eq 10, 3) := by decide +kernel
theorem dX11_glass_66 : decode cX11_glass 66 = .ok (.aload_n 0, 1) := by decide +kernel
theorem dX11_glass_67 : decode cX11_glass 67 = .ok (.bipush (-5), 2) := by decide +kernel
theorem dX11_glass_69 : decode cX11_glass 69 = .ok (.invokevirtual 104, 3) := by decide +kernel
theorem dX11_glass_72 : decode cX11_glass 72 = .ok (.ireturn, 1) := by decide +kernel
theorem dX11_glass_73 : decode cX11_glass 73 = .ok (.aload_n 0, 1) := by decide +kernel
theorem dX11_glass_74 : decode cX11_glass 74 = .ok (.getfield 12, 3) := by decide +kernel
theorem dX11_glass_77 : decode cX11_glass 77 = .ok (.getfield 136, 3) := by decide +kernel
theorem dX11_glass_80 : decode cX11_glass 80 = .ok (.iconst 0, 1) := by decide +kernel
theorem dX11_glass_81 : decode cX11_glass 81 = .ok (.invokevirtual 146, 3) := by decide +kernel
theorem dX11_glass_84 : decode cX11_glass 84 = .ok (.istore 5, 2) := by decide +kernel
theorem dX11_glass_86 : decode cX11_glass 86 = .ok (.aload_n 0, 1) := by decide +kernel
theorem dX11_glass_87 : decode cX11_glass 87 = .ok (.getfield 12, 3) := by decide +kernel
theorem dX11_glass_90 : decode cX11_glass 90 = .ok (.getfield 136, 3) := by decide +kernel
theorem dX11_glass_93 : decode cX11_glass 93 = .ok (.iload 5, 2) := by decide +kernel
theorem dX11_glass_95 : decode cX11_glass 95 = .ok (.iconst 0, 1) := by decide +kernel
theorem dX11_glass_96 : decode cX11_glass 96 = .ok (.iload_n 1, 1) := by decide +kernel
theorem dX11_glass_97 : decode cX11_glass 97 = .ok (.invokevirtual 149, 3) := by decide +kernel
theorem dX11_glass_100 : decode cX11_glass 100 = .ok (.aload_n 0, 1) := by decide +kernel
theorem dX11_glass_101 : decode cX11_glass 101 = .ok (.getfield 12, 3) := by decide +kernel
theorem dX11_glass_104 : decode cX11_glass 104 = .ok (.getfield 136, 3) := by decide +kernel
theorem dX11_glass_107 : decode cX11_glass 107 = .ok (.iload 5, 2) := by decide +kernel
theorem dX11_glass_109 : decode cX11_glass 109 = .ok (.iconst 1, 1) := by decide +kernel
theorem dX11_glass_110 : decode cX11_glass 110 = .ok (.iload_n 2, 1) := by decide +kernel
theorem dX11_glass_111 : decode cX11_glass 111 = .ok (.invokevirtual 149, 3) := by decide +kernel
theorem dX11_glass_114 : decode cX11_glass 114 = .ok (.aload_n 0, 1) := by decide +kernel
theorem dX11_glass_115 : decode cX11_glass 115 = .ok (.getfield 12, 3) := by decide +kernel
theorem dX11_glass_118 : decode cX11_glass 118 = .ok (.getfield 136, 3) := by decide +kernel
theorem dX11_glass_121 : decode cX11_glass 121 = .ok (.iload 5, 2) := by decide +kernel
theorem dX11_glass_123 : decode cX11_glass 123 = .ok (.iconst 2, 1) := by decide +kernel
theorem dX11_glass_124 : decode cX11_glass 124 = .ok (.iload_n 3, 1) := by decide +kernel
theorem dX11_glass_125 : decode cX11_glass 125 = .ok (.invokevirtual 149, 3) := by decide +kernel
theorem dX11_glass_128 : decode cX11_glass 128 = .ok (.aload_n 0, 1) := by decide +kernel
theorem dX11_glass_129 : decode cX11_glass 129 = .ok (.getfield 12, 3) := by decide +kernel
theorem dX11_glass_132 : decode cX11_glass 132 = .ok (.getfield 136, 3) := by decide +kernel
theorem dX11_glass_135 : decode cX11_glass 135 = .ok (.iload 5, 2) := by decide +kernel
theorem dX11_glass_137 : decode cX11_glass 137 = .ok (.iconst 3, 1) := by decide +kernel
theorem dX11_glass_138 : decode cX11_glass 138 = .ok (.iload 4, 2) := by decide +kernel
theorem dX11_glass_140 : decode cX11_glass 140 = .ok (.invokevirtual 149, 3) := by decide +kernel
theorem dX11_glass_143 : decode cX11_glass 143 = .ok (.aload_n 0, 1) := by decide +kernel
theorem dX11_glass_144 : decode cX11_glass 144 = .ok (.getfield 12, 3) := by decide +kernel
theorem dX11_glass_147 : decode cX11_glass 147 = .ok (.dup, 1) := by decide +kernel
theorem dX11_glass_148 : decode cX11_glass 148 = .ok (.getfield 153, 3) := by decide +kernel
theorem dX11_glass_151 : decode cX11_glass 151 = .ok (.lconst 1, 1) := by decide +kernel
theorem dX11_glass_152 : decode cX11_glass 152 = .ok (.iload_n 1, 1) := by decide +kernel
theorem dX11_glass_153 : decode cX11_glass 153 = .ok (.lshl, 1) := by decide +kernel
theorem dX11_glass_154 : decode cX11_glass 154 = .ok (.lor, 1) := by decide +kernel
theorem dX11_glass_155 : decode cX11_glass 155 = .ok (.putfield 153, 3) := by decide +kernel
theorem dX11_glass_158 : decode cX11_glass 158 = .ok (.aload_n 0, 1) := by decide +kernel
theorem dX11_glass_159 : decode cX11_glass 159 = .ok (.iload 5, 2) := by decide +kernel
theorem dX11_glass_161 : decode cX11_glass 161 = .ok (.invokevirtual 121, 3) := by decide +kernel
theorem dX11_glass_164 : decode cX11_glass 164 = .ok (.ireturn, 1) := by decide +kernel
theorem ml_X11_133 : Cond.methodLink RX11 133 yX1_canHang ∈ tblG := tg 544 (by decide +kernel) (by decide +kernel)
theorem im_X1_canHang : Cond.instanceMethod yX1_canHang ∈ tblG := tg 545 (by decide +kernel) (by decide +kernel)
theorem se_X1_canHang : Cond.selects RX1 yX1_canHang yX1_canHang ∈ tblG := tg 546 (by decide +kernel) (by decide +kernel)
theorem cd_X1_canHang : Cond.code yX1_canHang cX1_canHang 2 (some .boolean) ∈ tblG := tg 547 (by decide +kernel) (by decide +kernel)
theorem gW_X1_canHang : GoodIn tblG (wsG yX1_canHang cX1_canHang 2 (some .boolean)) := tgi cd_X1_canHang
theorem gV_X11_133 : GoodIn tblG (wsV RX11 133 RX1 yX1_canHang (wsG yX1_canHang cX1_canHang 2 (some .boolean))) := tgV ml_X11_133 im_X1_canHang se_X1_canHang ini_X1 gW_X1_canHang
theorem hv_X1_canHang : yX1_canHang.cls = RX1 ∧ yX1_canHang.cls ≠ "java/lang/invoke/MethodHandle" ∧ yX1_canHang.cls ≠ "java/lang/invoke/VarHandle" ∧ (parseMethodDescriptor yX1_canHang.desc).map (fun d => d.parameters.length) = some 1 := by decide +kernel
theorem fl_X11_136 : Cond.fieldLink RX11 136 "LateGlass$House" "glasses" "LLateGlass$Table;" ∈ tblG := tg 171 (by decide +kernel) (by decide +kernel)
theorem ml_X11_140 : Cond.methodLink RX11 140 yX6_isFull ∈ tblG := tg 548 (by decide +kernel) (by decide +kernel)
theorem gV_X11_140 : GoodIn tblG (wsV RX11 140 RX6 yX6_isFull (wsG yX6_isFull cX6_isFull 1 (some .boolean))) := tgV ml_X11_140 im_X6_isFull se_X6_isFull ini_X6 gW_X6_isFull
theorem ml_X11_146 : Cond.methodLink RX11 146 yX6_open ∈ tblG := tg 552 (by decide +kernel) (by decide +kernel)
theorem im_X6_open : Cond.instanceMethod yX6_open ∈ tblG := tg 553 (by decide +kernel) (by decide +kernel)
theorem se_X6_open : Cond.selects RX6 yX6_open yX6_open ∈ tblG := tg 554 (by decide +kernel) (by decide +kernel)
theorem cd_X6_open : Cond.code yX6_open cX6_open 4 (some .int) ∈ tblG := tg 555 (by decide +kernel) (by decide +kernel)
theorem gW_X6_open : GoodIn tblG (wsG yX6_open cX6_open 4 (some .int)) := tgi cd_X6_open
theorem gV_X11_146 : GoodIn tblG (wsV RX11 146 RX6 yX6_open (wsG yX6_open cX6_open 4 (some .int))) := tgV ml_X11_146 im_X6_open se_X6_open ini_X6 gW_X6_open
theorem hv_X6_open : yX6_open.cls = RX6 ∧ yX6_open.cls ≠ "java/lang/invoke/MethodHandle" ∧ yX6_open.cls ≠ "java/lang/invoke/VarHandle" ∧ (parseMethodDescriptor yX6_open.desc).map (fun d => d.parameters.length) = some 1 := by decide +kernel
theorem ml_X11_149 : Cond.methodLink RX11 149 yX6_set ∈ tblG := tg 565 (by decide +kernel) (by decide +kernel)
theorem gV_X11_149 : GoodIn tblG (wsV RX11 149 RX6 yX6_set (wsG yX6_set cX6_set 4 none)) := tgV ml_X11_149 im_X6_set se_X6_set ini_X6 gW_X6_set
theorem fl_X11_153 : Cond.fieldLink RX11 153 "LateGlass$House" "glassBoard" "J" ∈ tblG := tg 190 (by decide +kernel) (by decide +kernel)
