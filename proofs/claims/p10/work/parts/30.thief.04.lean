set_option maxHeartbeats 4000000 in
set_option maxRecDepth 100000 in
theorem th_count (l : Launch) (G : g5_G) (a_th a_ba a_ad a_cn a_nx a_h a_k a_hp a_hl a_lv : Nat) (sz : Nat) (e_fu : Int32) (f_ba : Nat → Int64) (f_ad : Nat → Int32) (f_cn : Nat → Int64) (f_nx : Nat → Int64) (e_tk : TOK e_fu f_ad) : Met l yX7_countRows (wsG yX7_countRows cX7_countRows 5 (some .long)) ({ frames := 2, cells := 0, slots := 0, locals := 49 }) (va_Pc [.ref a_th] (g5_P G [(a_th, .inr (7, [.ref a_h, .ref a_k, .ref a_ba, .ref a_ad, .int e_fu, .ref a_cn, .ref a_nx, .ref a_hp, .ref a_hl, .ref a_lv])), (a_ba, .inl (G.2 1, 24, .inr (.inl f_ba))), (a_ad, .inl (G.2 0, 1536, .inl f_ad)), (a_cn, .inl (G.2 1, 2048, .inr (.inl f_cn))), (a_nx, .inl (G.2 1, 2048, .inr (.inl f_nx)))] sz)) (va_Ql (fun (r : Int64) (u : va_W) => (∃ (o_r : Int64) (o_f : Nat → Int64) (o_g : Nat → Int64), (r = o_r) ∧ (u = [(a_th, .inr (7, [.ref a_h, .ref a_k, .ref a_ba, .ref a_ad, .int e_fu, .ref a_nx, .ref a_cn, .ref a_hp, .ref a_hl, .ref a_lv])), (a_ba, .inl (G.2 1, 24, .inr (.inl f_ba))), (a_ad, .inl (G.2 0, 1536, .inl f_ad)), (a_cn, .inl (G.2 1, 2048, .inr (.inl o_f))), (a_nx, .inl (G.2 1, 2048, .inr (.inl o_g)))]))) (g5_B G (va_A [(a_th, .inr (7, [.ref a_h, .ref a_k, .ref a_ba, .ref a_ad, .int e_fu, .ref a_cn, .ref a_nx, .ref a_hp, .ref a_hl, .ref a_lv])), (a_ba, .inl (G.2 1, 24, .inr (.inl f_ba))), (a_ad, .inl (G.2 0, 1536, .inl f_ad)), (a_cn, .inl (G.2 1, 2048, .inr (.inl f_cn))), (a_nx, .inl (G.2 1, 2048, .inr (.inl f_nx)))] sz)) (va_A [(a_th, .inr (7, [.ref a_h, .ref a_k, .ref a_ba, .ref a_ad, .int e_fu, .ref a_cn, .ref a_nx, .ref a_hp, .ref a_hl, .ref a_lv])), (a_ba, .inl (G.2 1, 24, .inr (.inl f_ba))), (a_ad, .inl (G.2 0, 1536, .inl f_ad)), (a_cn, .inl (G.2 1, 2048, .inr (.inl f_cn))), (a_nx, .inl (G.2 1, 2048, .inr (.inl f_nx)))] sz)) 0 0 (va_A [(a_th, .inr (7, [.ref a_h, .ref a_k, .ref a_ba, .ref a_ad, .int e_fu, .ref a_cn, .ref a_nx, .ref a_hp, .ref a_hl, .ref a_lv])), (a_ba, .inl (G.2 1, 24, .inr (.inl f_ba))), (a_ad, .inl (G.2 0, 1536, .inl f_ad)), (a_cn, .inl (G.2 1, 2048, .inr (.inl f_cn))), (a_nx, .inl (G.2 1, 2048, .inr (.inl f_nx)))] sz) := by
  refine Met.ofW (cc := cX7_countRows) (maxL := 5) (ret := (some .long)) (by decide) rfl ?_
  intro p e s m args below meth c s₁ B hml hv
  obtain ⟨rfl, hsz, hP, hK, hD0, hN, hT⟩ := hv
  have hx := B.exec
  have hb := B.bytes
  have hr := B.returns
  have hts : ∀ w ∈ tblG, w.before _ s = true := fun w h => atoms_spec (ws := (wsG yX7_countRows cX7_countRows 5 (some .long))) B.pre w (List.mem_cons_of_mem _ h)
  have hown : s.vm.findClass RX7 = some m.cls := findClass_of_methodNamed B.named
  have hlocks := B.notSynchronized
  subst hsz
  have hD := hD0.self (sz := s.heap.size)
  generalize hAe : va_A [(a_th, .inr (7, [.ref a_h, .ref a_k, .ref a_ba, .ref a_ad, .int e_fu, .ref a_cn, .ref a_nx, .ref a_hp, .ref a_hl, .ref a_lv])), (a_ba, .inl (G.2 1, 24, .inr (.inl f_ba))), (a_ad, .inl (G.2 0, 1536, .inl f_ad)), (a_cn, .inl (G.2 1, 2048, .inr (.inl f_cn))), (a_nx, .inl (G.2 1, 2048, .inr (.inl f_nx)))] s.heap.size = A at hD hT ⊢
  have hA : ∀ q : Nat, s.heap.size ≤ q → A q := fun q h => by rw [← hAe]; exact Or.inr h
  have hS : va_S A s.heap s.heap [] := va_S.rf
  have hP : va_P G.1 vwCl [(a_th, .inr (7, [.ref a_h, .ref a_k, .ref a_ba, .ref a_ad, .int e_fu, .ref a_cn, .ref a_nx, .ref a_hp, .ref a_hl, .ref a_lv])), (a_ba, .inl (G.2 1, 24, .inr (.inl f_ba))), (a_ad, .inl (G.2 0, 1536, .inl f_ad)), (a_cn, .inl (G.2 1, 2048, .inr (.inl f_cn))), (a_nx, .inl (G.2 1, 2048, .inr (.inl f_nx)))] s.heap := hP
  have hl := lv_entry ([.ref a_th]) (n := 5) (Nat.le_of_ble_eq_true rfl)
  rw [lg_entry_eq]
  generalize (lg_sl ([.ref a_th]) ++ List.replicate (5 - (lg_sl ([.ref a_th])).length) Slot.unset).toArray = ls at hl ⊢
  have hl : lv_has ls 5 [(0, .ref a_th)] := hl
  have hfu := tk_fu e_tk
  refine lv_aload_n hx hb dX7_countRows_0 rfl (lv_at hl 0 rfl) ?_
  refine va_get (D := G.1) (ci := 7) (v := .int e_fu) (C := RX7) (T := TX7) (N := 10) hx hb hts inG_X7 hown hK hP 0 rfl rfl 4 (by decide) (hts _ fl_X7_89) (fun _ h9 => h9) rfl dX7_countRows_1 ?_
  refine lv_iconst (v := 1) hx hb dX7_countRows_4 (by decide) ?_
  refine lv_iadd hx hb dX7_countRows_5 ?_
  have t_1 : (e_fu + 1).toInt = e_fu.toInt + 1 := g5_iadd (a := e_fu.toInt) (b := 1) (by rfl) (by decide) (by omega) (by omega)
  refine lv_istore_n (lv' := [(1, .int (e_fu + 1)), (0, .ref a_th)]) hx hb dX7_countRows_6 rfl hl (by decide) rfl (fun ls hl => ?_)
  refine lv_aload_n hx hb dX7_countRows_7 rfl (lv_at hl 1 rfl) ?_
  refine va_get (D := G.1) (ci := 7) (v := .ref a_cn) (C := RX7) (T := TX7) (N := 10) hx hb hts inG_X7 hown hK hP 0 rfl rfl 5 (by decide) (hts _ fl_X7_19) (fun _ h9 => h9) rfl dX7_countRows_8 ?_
  refine lv_lconst (v := 0) hx hb dX7_countRows_11 (by decide) ?_
  have hPc := hP.sub (ws' := [(a_cn, .inl (G.2 1, 2048, .inr (.inl f_cn)))]) [3] rfl
  have hDc := hD.sub (ws' := [(a_cn, .inl (G.2 1, 2048, .inr (.inl f_cn)))]) [3] (by decide) rfl
  have hFc := va_free (wc := [(a_cn, .inl (G.2 1, 2048, .inr (.inl f_cn)))]) hD hS hA [3] rfl
  refine va_callv (va_runS (As := [.ref a_cn, .long 0]) (rest := []) ⟨hx, hb, hml, hown, hts⟩ (k_fillJ2048 l G a_cn s.heap.size 0 f_cn) (va_cwS 2 hts gS_X7_58 rfl rfl rfl hs_J7_fill_d0a16 ⟨Nat.le_of_ble_eq_true rfl, Nat.le_of_ble_eq_true rfl⟩) (g5_preS hPc hK hDc hN hT hS hFc) rfl rfl hl.1 rfl (lv_room (Nat.le_of_ble_eq_true rfl)) dX7_countRows_12 ⟨Nat.le_of_ble_eq_true rfl, Nat.le_of_ble_eq_true rfl⟩) hS (fun q _ h => hFc q h) hFc (fun u t H1 locs ht hvm hw hB hz1 hk1 hS => ?_)
  obtain ⟨hP1, hD1⟩ := hB
  rw [ht] at hP1
  obtain rfl := hw
  obtain ⟨hP, hD⟩ := va_join (wr := [(a_th, .inr (7, [.ref a_h, .ref a_k, .ref a_ba, .ref a_ad, .int e_fu, .ref a_cn, .ref a_nx, .ref a_hp, .ref a_hl, .ref a_lv])), (a_ba, .inl (G.2 1, 24, .inr (.inl f_ba))), (a_ad, .inl (G.2 0, 1536, .inl f_ad)), (a_nx, .inl (G.2 1, 2048, .inr (.inl f_nx)))]) (w1 := [(a_cn, .inl (G.2 1, 2048, .inr (.inl (fun _ => 0))))]) hP hD [3] [0, 1, 2, 4] rfl rfl (by decide) (by decide) hk1 hFc hP1 hD1
  generalize H1 = H at hP hS ⊢
  have hP : va_P G.1 vwCl [(a_th, .inr (7, [.ref a_h, .ref a_k, .ref a_ba, .ref a_ad, .int e_fu, .ref a_cn, .ref a_nx, .ref a_hp, .ref a_hl, .ref a_lv])), (a_ba, .inl (G.2 1, 24, .inr (.inl f_ba))), (a_ad, .inl (G.2 0, 1536, .inl f_ad)), (a_nx, .inl (G.2 1, 2048, .inr (.inl f_nx))), (a_cn, .inl (G.2 1, 2048, .inr (.inl (fun _ => 0))))] H := hP
  have hD : va_D A [(a_th, .inr (7, [.ref a_h, .ref a_k, .ref a_ba, .ref a_ad, .int e_fu, .ref a_cn, .ref a_nx, .ref a_hp, .ref a_hl, .ref a_lv])), (a_ba, .inl (G.2 1, 24, .inr (.inl f_ba))), (a_ad, .inl (G.2 0, 1536, .inl f_ad)), (a_nx, .inl (G.2 1, 2048, .inr (.inl f_nx))), (a_cn, .inl (G.2 1, 2048, .inr (.inl (fun _ => 0))))] := hD
  refine lv_iconst (v := 0) hx hb dX7_countRows_15 (by decide) ?_
  refine lv_istore_n (lv' := [(2, .int 0), (1, .int (e_fu + 1)), (0, .ref a_th)]) hx hb dX7_countRows_16 rfl hl (by decide) rfl (fun ls hl => ?_)
  refine g5_loop (α := (Int32) × (Nat → Int64)) (fun (q : (Int32) × (Nat → Int64)) (ls : Array Slot) (H : Heap) (locs : List Loc) => match q with | (k_c, k_f) => lv_has ls 5 [(2, .int k_c), (1, .int (e_fu + 1)), (0, .ref a_th)] ∧ va_P G.1 vwCl [(a_th, .inr (7, [.ref a_h, .ref a_k, .ref a_ba, .ref a_ad, .int e_fu, .ref a_cn, .ref a_nx, .ref a_hp, .ref a_hl, .ref a_lv])), (a_ba, .inl (G.2 1, 24, .inr (.inl f_ba))), (a_ad, .inl (G.2 0, 1536, .inl f_ad)), (a_nx, .inl (G.2 1, 2048, .inr (.inl f_nx))), (a_cn, .inl (G.2 1, 2048, .inr (.inl k_f)))] H ∧ va_D A [(a_th, .inr (7, [.ref a_h, .ref a_k, .ref a_ba, .ref a_ad, .int e_fu, .ref a_cn, .ref a_nx, .ref a_hp, .ref a_hl, .ref a_lv])), (a_ba, .inl (G.2 1, 24, .inr (.inl f_ba))), (a_ad, .inl (G.2 0, 1536, .inl f_ad)), (a_nx, .inl (G.2 1, 2048, .inr (.inl f_nx))), (a_cn, .inl (G.2 1, 2048, .inr (.inl k_f)))] ∧ va_S A s.heap H locs ∧ (0 ≤ k_c.toInt ∧ k_c.toInt ≤ 64)) (fun (q : (Int32) × (Nat → Int64)) => match q with | (k_c, k_f) => Int.toNat (64 - k_c.toInt)) (0, (fun _ => 0)) ⟨lv_sub hl [0, 1, 2] rfl, hP, hD, hS, ⟨by decide, by decide⟩⟩ ?_
  rintro ⟨k_c, k_f⟩ ls H locs ⟨hl, hP, hD, hS, i_2⟩ ih_17_3
  have hl : lv_has ls 5 [(2, .int k_c), (1, .int (e_fu + 1)), (0, .ref a_th)] := hl
  have i_2 : 0 ≤ k_c.toInt ∧ k_c.toInt ≤ 64 := i_2
  have hP : va_P G.1 vwCl [(a_th, .inr (7, [.ref a_h, .ref a_k, .ref a_ba, .ref a_ad, .int e_fu, .ref a_cn, .ref a_nx, .ref a_hp, .ref a_hl, .ref a_lv])), (a_ba, .inl (G.2 1, 24, .inr (.inl f_ba))), (a_ad, .inl (G.2 0, 1536, .inl f_ad)), (a_nx, .inl (G.2 1, 2048, .inr (.inl f_nx))), (a_cn, .inl (G.2 1, 2048, .inr (.inl k_f)))] H := hP
  have hD : va_D A [(a_th, .inr (7, [.ref a_h, .ref a_k, .ref a_ba, .ref a_ad, .int e_fu, .ref a_cn, .ref a_nx, .ref a_hp, .ref a_hl, .ref a_lv])), (a_ba, .inl (G.2 1, 24, .inr (.inl f_ba))), (a_ad, .inl (G.2 0, 1536, .inl f_ad)), (a_nx, .inl (G.2 1, 2048, .inr (.inl f_nx))), (a_cn, .inl (G.2 1, 2048, .inr (.inl k_f)))] := hD
  refine lv_iload_n hx hb dX7_countRows_17 rfl (lv_at hl 0 rfl) ?_
  refine lv_bipush (v := 64) hx hb dX7_countRows_18 (by decide) ?_
  refine lv_icmp_ge (tgt := 62) hx hb dX7_countRows_20 (by decide) (fun c_4 => ?_) (fun c_4 => ?_)
  ·
    have i_4 : k_c.toInt ≥ 64 := by have z := g5_ge (a := k_c.toInt) (b := 64) (by rfl) (by decide) c_4; omega
    refine lv_iconst (v := 1) hx hb dX7_countRows_62 (by decide) ?_
    refine lv_istore_n (lv' := [(2, .int 1), (1, .int (e_fu + 1)), (0, .ref a_th)]) hx hb dX7_countRows_63 rfl hl (by decide) rfl (fun ls hl => ?_)
    refine lv_iload_n hx hb dX7_countRows_64 rfl (lv_at hl 0 rfl) ?_
    refine lv_bipush (v := 24) hx hb dX7_countRows_65 (by decide) ?_
    refine lv_icmp_ge (tgt := 81) hx hb dX7_countRows_67 (by decide) (fun c_5 => ?_) (fun c_5 => ?_)
    ·
      exact absurd c_5 (by decide)
    ·
      refine lv_aload_n hx hb dX7_countRows_70 rfl (lv_at hl 2 rfl) ?_
      refine lv_iload_n hx hb dX7_countRows_71 rfl (lv_at hl 0 rfl) ?_
      have hPc := hP.sub (ws' := [(a_th, .inr (7, [.ref a_h, .ref a_k, .ref a_ba, .ref a_ad, .int e_fu, .ref a_cn, .ref a_nx, .ref a_hp, .ref a_hl, .ref a_lv])), (a_ba, .inl (G.2 1, 24, .inr (.inl f_ba))), (a_ad, .inl (G.2 0, 1536, .inl f_ad)), (a_cn, .inl (G.2 1, 2048, .inr (.inl k_f))), (a_nx, .inl (G.2 1, 2048, .inr (.inl f_nx)))]) [0, 1, 2, 4, 3] rfl
      have hDc := hD.sub (ws' := [(a_th, .inr (7, [.ref a_h, .ref a_k, .ref a_ba, .ref a_ad, .int e_fu, .ref a_cn, .ref a_nx, .ref a_hp, .ref a_hl, .ref a_lv])), (a_ba, .inl (G.2 1, 24, .inr (.inl f_ba))), (a_ad, .inl (G.2 0, 1536, .inl f_ad)), (a_cn, .inl (G.2 1, 2048, .inr (.inl k_f))), (a_nx, .inl (G.2 1, 2048, .inr (.inl f_nx)))]) [0, 1, 2, 4, 3] (by decide) rfl
      have hFc := va_free (wc := [(a_th, .inr (7, [.ref a_h, .ref a_k, .ref a_ba, .ref a_ad, .int e_fu, .ref a_cn, .ref a_nx, .ref a_hp, .ref a_hl, .ref a_lv])), (a_ba, .inl (G.2 1, 24, .inr (.inl f_ba))), (a_ad, .inl (G.2 0, 1536, .inl f_ad)), (a_cn, .inl (G.2 1, 2048, .inr (.inl k_f))), (a_nx, .inl (G.2 1, 2048, .inr (.inl f_nx)))]) hD hS hA [0, 1, 2, 4, 3] rfl
      refine va_callv (va_runV (As := [.int 1]) (rest := []) ⟨hx, hb, hml, hown, hts⟩ (th_step l G a_th a_ba a_ad a_cn a_nx a_h a_k a_hp a_hl a_lv H.size e_fu 1 f_ba f_ad k_f f_nx ⟨by decide, by decide⟩ (e_tk)) (cwV 1 hts gV_X7_102 rfl rfl rfl hv_X7_stepTo ⟨Nat.le_of_ble_eq_true rfl, Nat.le_of_ble_eq_true rfl⟩) (g5_preV hPc hK hDc hN hT hS hFc (ci := 7) (q0 := 0) rfl rfl) rfl rfl hl.1 rfl (lv_room (Nat.le_of_ble_eq_true rfl)) dX7_countRows_72 ⟨Nat.le_of_ble_eq_true rfl, Nat.le_of_ble_eq_true rfl⟩) hS (fun q _ h => hFc q h) hFc (fun u t H1 locs ht hvm hw hB hz1 hk1 hS => ?_)
      obtain ⟨hP1, hD1⟩ := hB
      rw [ht] at hP1
      obtain ⟨z6, rfl⟩ := hw
      obtain ⟨hP, hD⟩ := va_join (wr := []) (w1 := [(a_th, .inr (7, [.ref a_h, .ref a_k, .ref a_ba, .ref a_ad, .int e_fu, .ref a_nx, .ref a_cn, .ref a_hp, .ref a_hl, .ref a_lv])), (a_ba, .inl (G.2 1, 24, .inr (.inl f_ba))), (a_ad, .inl (G.2 0, 1536, .inl f_ad)), (a_cn, .inl (G.2 1, 2048, .inr (.inl k_f))), (a_nx, .inl (G.2 1, 2048, .inr (.inl z6)))]) hP hD [0, 1, 2, 4, 3] [] rfl rfl (by decide) (by decide) hk1 hFc hP1 hD1
      generalize H1 = H at hP hS ⊢
      have hP : va_P G.1 vwCl [(a_th, .inr (7, [.ref a_h, .ref a_k, .ref a_ba, .ref a_ad, .int e_fu, .ref a_nx, .ref a_cn, .ref a_hp, .ref a_hl, .ref a_lv])), (a_ba, .inl (G.2 1, 24, .inr (.inl f_ba))), (a_ad, .inl (G.2 0, 1536, .inl f_ad)), (a_cn, .inl (G.2 1, 2048, .inr (.inl k_f))), (a_nx, .inl (G.2 1, 2048, .inr (.inl z6)))] H := hP
      have hD : va_D A [(a_th, .inr (7, [.ref a_h, .ref a_k, .ref a_ba, .ref a_ad, .int e_fu, .ref a_nx, .ref a_cn, .ref a_hp, .ref a_hl, .ref a_lv])), (a_ba, .inl (G.2 1, 24, .inr (.inl f_ba))), (a_ad, .inl (G.2 0, 1536, .inl f_ad)), (a_cn, .inl (G.2 1, 2048, .inr (.inl k_f))), (a_nx, .inl (G.2 1, 2048, .inr (.inl z6)))] := hD
      refine lv_iinc (v := 2) (lv' := [(2, .int 2), (1, .int (e_fu + 1)), (0, .ref a_th)]) hx hb dX7_countRows_75 hl (k := 0) rfl (by decide) (by decide) rfl (fun ls hl => ?_)
      refine lv_goto (tgt := 64) hx hb dX7_countRows_78 (by decide) ?_
      refine lv_iload_n hx hb dX7_countRows_64 rfl (lv_at hl 0 rfl) ?_
      refine lv_bipush (v := 24) hx hb dX7_countRows_65 (by decide) ?_
      refine lv_icmp_ge (tgt := 81) hx hb dX7_countRows_67 (by decide) (fun c_7 => ?_) (fun c_7 => ?_)
      ·
        exact absurd c_7 (by decide)
      ·
        refine lv_aload_n hx hb dX7_countRows_70 rfl (lv_at hl 2 rfl) ?_
        refine lv_iload_n hx hb dX7_countRows_71 rfl (lv_at hl 0 rfl) ?_
        have hPc := hP.sub (ws' := [(a_th, .inr (7, [.ref a_h, .ref a_k, .ref a_ba, .ref a_ad, .int e_fu, .ref a_nx, .ref a_cn, .ref a_hp, .ref a_hl, .ref a_lv])), (a_ba, .inl (G.2 1, 24, .inr (.inl f_ba))), (a_ad, .inl (G.2 0, 1536, .inl f_ad)), (a_nx, .inl (G.2 1, 2048, .inr (.inl z6))), (a_cn, .inl (G.2 1, 2048, .inr (.inl k_f)))]) [0, 1, 2, 4, 3] rfl
        have hDc := hD.sub (ws' := [(a_th, .inr (7, [.ref a_h, .ref a_k, .ref a_ba, .ref a_ad, .int e_fu, .ref a_nx, .ref a_cn, .ref a_hp, .ref a_hl, .ref a_lv])), (a_ba, .inl (G.2 1, 24, .inr (.inl f_ba))), (a_ad, .inl (G.2 0, 1536, .inl f_ad)), (a_nx, .inl (G.2 1, 2048, .inr (.inl z6))), (a_cn, .inl (G.2 1, 2048, .inr (.inl k_f)))]) [0, 1, 2, 4, 3] (by decide) rfl
        have hFc := va_free (wc := [(a_th, .inr (7, [.ref a_h, .ref a_k, .ref a_ba, .ref a_ad, .int e_fu, .ref a_nx, .ref a_cn, .ref a_hp, .ref a_hl, .ref a_lv])), (a_ba, .inl (G.2 1, 24, .inr (.inl f_ba))), (a_ad, .inl (G.2 0, 1536, .inl f_ad)), (a_nx, .inl (G.2 1, 2048, .inr (.inl z6))), (a_cn, .inl (G.2 1, 2048, .inr (.inl k_f)))]) hD hS hA [0, 1, 2, 4, 3] rfl
        refine va_callv (va_runV (As := [.int 2]) (rest := []) ⟨hx, hb, hml, hown, hts⟩ (th_step l G a_th a_ba a_ad a_nx a_cn a_h a_k a_hp a_hl a_lv H.size e_fu 2 f_ba f_ad z6 k_f ⟨by decide, by decide⟩ (e_tk)) (cwV 1 hts gV_X7_102 rfl rfl rfl hv_X7_stepTo ⟨Nat.le_of_ble_eq_true rfl, Nat.le_of_ble_eq_true rfl⟩) (g5_preV hPc hK hDc hN hT hS hFc (ci := 7) (q0 := 0) rfl rfl) rfl rfl hl.1 rfl (lv_room (Nat.le_of_ble_eq_true rfl)) dX7_countRows_72 ⟨Nat.le_of_ble_eq_true rfl, Nat.le_of_ble_eq_true rfl⟩) hS (fun q _ h => hFc q h) hFc (fun u t H1 locs ht hvm hw hB hz1 hk1 hS => ?_)
        obtain ⟨hP1, hD1⟩ := hB
        rw [ht] at hP1
        obtain ⟨z8, rfl⟩ := hw
        obtain ⟨hP, hD⟩ := va_join (wr := []) (w1 := [(a_th, .inr (7, [.ref a_h, .ref a_k, .ref a_ba, .ref a_ad, .int e_fu, .ref a_cn, .ref a_nx, .ref a_hp, .ref a_hl, .ref a_lv])), (a_ba, .inl (G.2 1, 24, .inr (.inl f_ba))), (a_ad, .inl (G.2 0, 1536, .inl f_ad)), (a_nx, .inl (G.2 1, 2048, .inr (.inl z6))), (a_cn, .inl (G.2 1, 2048, .inr (.inl z8)))]) hP hD [0, 1, 2, 4, 3] [] rfl rfl (by decide) (by decide) hk1 hFc hP1 hD1
        generalize H1 = H at hP hS ⊢
        have hP : va_P G.1 vwCl [(a_th, .inr (7, [.ref a_h, .ref a_k, .ref a_ba, .ref a_ad, .int e_fu, .ref a_cn, .ref a_nx, .ref a_hp, .ref a_hl, .ref a_lv])), (a_ba, .inl (G.2 1, 24, .inr (.inl f_ba))), (a_ad, .inl (G.2 0, 1536, .inl f_ad)), (a_nx, .inl (G.2 1, 2048, .inr (.inl z6))), (a_cn, .inl (G.2 1, 2048, .inr (.inl z8)))] H := hP
        have hD : va_D A [(a_th, .inr (7, [.ref a_h, .ref a_k, .ref a_ba, .ref a_ad, .int e_fu, .ref a_cn, .ref a_nx, .ref a_hp, .ref a_hl, .ref a_lv])), (a_ba, .inl (G.2 1, 24, .inr (.inl f_ba))), (a_ad, .inl (G.2 0, 1536, .inl f_ad)), (a_nx, .inl (G.2 1, 2048, .inr (.inl z6))), (a_cn, .inl (G.2 1, 2048, .inr (.inl z8)))] := hD
        refine lv_iinc (v := 3) (lv' := [(2, .int 3), (1, .int (e_fu + 1)), (0, .ref a_th)]) hx hb dX7_countRows_75 hl (k := 0) rfl (by decide) (by decide) rfl (fun ls hl => ?_)
        refine lv_goto (tgt := 64) hx hb dX7_countRows_78 (by decide) ?_
        refine lv_iload_n hx hb dX7_countRows_64 rfl (lv_at hl 0 rfl) ?_
        refine lv_bipush (v := 24) hx hb dX7_countRows_65 (by decide) ?_
        refine lv_icmp_ge (tgt := 81) hx hb dX7_countRows_67 (by decide) (fun c_9 => ?_) (fun c_9 => ?_)
        ·
          exact absurd c_9 (by decide)
        ·
          refine lv_aload_n hx hb dX7_countRows_70 rfl (lv_at hl 2 rfl) ?_
          refine lv_iload_n hx hb dX7_countRows_71 rfl (lv_at hl 0 rfl) ?_
          have hPc := hP.sub (ws' := [(a_th, .inr (7, [.ref a_h, .ref a_k, .ref a_ba, .ref a_ad, .int e_fu, .ref a_cn, .ref a_nx, .ref a_hp, .ref a_hl, .ref a_lv])), (a_ba, .inl (G.2 1, 24, .inr (.inl f_ba))), (a_ad, .inl (G.2 0, 1536, .inl f_ad)), (a_cn, .inl (G.2 1, 2048, .inr (.inl z8))), (a_nx, .inl (G.2 1, 2048, .inr (.inl z6)))]) [0, 1, 2, 4, 3] rfl
          have hDc := hD.sub (ws' := [(a_th, .inr (7, [.ref a_h, .ref a_k, .ref a_ba, .ref a_ad, .int e_fu, .ref a_cn, .ref a_nx, .ref a_hp, .ref a_hl, .ref a_lv])), (a_ba, .inl (G.2 1, 24, .inr (.inl f_ba))), (a_ad, .inl (G.2 0, 1536, .inl f_ad)), (a_cn, .inl (G.2 1, 2048, .inr (.inl z8))), (a_nx, .inl (G.2 1, 2048, .inr (.inl z6)))]) [0, 1, 2, 4, 3] (by decide) rfl
          have hFc := va_free (wc := [(a_th, .inr (7, [.ref a_h, .ref a_k, .ref a_ba, .ref a_ad, .int e_fu, .ref a_cn, .ref a_nx, .ref a_hp, .ref a_hl, .ref a_lv])), (a_ba, .inl (G.2 1, 24, .inr (.inl f_ba))), (a_ad, .inl (G.2 0, 1536, .inl f_ad)), (a_cn, .inl (G.2 1, 2048, .inr (.inl z8))), (a_nx, .inl (G.2 1, 2048, .inr (.inl z6)))]) hD hS hA [0, 1, 2, 4, 3] rfl
          refine va_callv (va_runV (As := [.int 3]) (rest := []) ⟨hx, hb, hml, hown, hts⟩ (th_step l G a_th a_ba a_ad a_cn a_nx a_h a_k a_hp a_hl a_lv H.size e_fu 3 f_ba f_ad z8 z6 ⟨by decide, by decide⟩ (e_tk)) (cwV 1 hts gV_X7_102 rfl rfl rfl hv_X7_stepTo ⟨Nat.le_of_ble_eq_true rfl, Nat.le_of_ble_eq_true rfl⟩) (g5_preV hPc hK hDc hN hT hS hFc (ci := 7) (q0 := 0) rfl rfl) rfl rfl hl.1 rfl (lv_room (Nat.le_of_ble_eq_true rfl)) dX7_countRows_72 ⟨Nat.le_of_ble_eq_true rfl, Nat.le_of_ble_eq_true rfl⟩) hS (fun q _ h => hFc q h) hFc (fun u t H1 locs ht hvm hw hB hz1 hk1 hS => ?_)
          obtain ⟨hP1, hD1⟩ := hB
          rw [ht] at hP1
          obtain ⟨z10, rfl⟩ := hw
          obtain ⟨hP, hD⟩ := va_join (wr := []) (w1 := [(a_th, .inr (7, [.ref a_h, .ref a_k, .ref a_ba, .ref a_ad, .int e_fu, .ref a_nx, .ref a_cn, .ref a_hp, .ref a_hl, .ref a_lv])), (a_ba, .inl (G.2 1, 24, .inr (.inl f_ba))), (a_ad, .inl (G.2 0, 1536, .inl f_ad)), (a_cn, .inl (G.2 1, 2048, .inr (.inl z8))), (a_nx, .inl (G.2 1, 2048, .inr (.inl z10)))]) hP hD [0, 1, 2, 4, 3] [] rfl rfl (by decide) (by decide) hk1 hFc hP1 hD1
          generalize H1 = H at hP hS ⊢
          have hP : va_P G.1 vwCl [(a_th, .inr (7, [.ref a_h, .ref a_k, .ref a_ba, .ref a_ad, .int e_fu, .ref a_nx, .ref a_cn, .ref a_hp, .ref a_hl, .ref a_lv])), (a_ba, .inl (G.2 1, 24, .inr (.inl f_ba))), (a_ad, .inl (G.2 0, 1536, .inl f_ad)), (a_cn, .inl (G.2 1, 2048, .inr (.inl z8))), (a_nx, .inl (G.2 1, 2048, .inr (.inl z10)))] H := hP
          have hD : va_D A [(a_th, .inr (7, [.ref a_h, .ref a_k, .ref a_ba, .ref a_ad, .int e_fu, .ref a_nx, .ref a_cn, .ref a_hp, .ref a_hl, .ref a_lv])), (a_ba, .inl (G.2 1, 24, .inr (.inl f_ba))), (a_ad, .inl (G.2 0, 1536, .inl f_ad)), (a_cn, .inl (G.2 1, 2048, .inr (.inl z8))), (a_nx, .inl (G.2 1, 2048, .inr (.inl z10)))] := hD
          refine lv_iinc (v := 4) (lv' := [(2, .int 4), (1, .int (e_fu + 1)), (0, .ref a_th)]) hx hb dX7_countRows_75 hl (k := 0) rfl (by decide) (by decide) rfl (fun ls hl => ?_)
          refine lv_goto (tgt := 64) hx hb dX7_countRows_78 (by decide) ?_
          refine lv_iload_n hx hb dX7_countRows_64 rfl (lv_at hl 0 rfl) ?_
          refine lv_bipush (v := 24) hx hb dX7_countRows_65 (by decide) ?_
          refine lv_icmp_ge (tgt := 81) hx hb dX7_countRows_67 (by decide) (fun c_11 => ?_) (fun c_11 => ?_)
          ·
            exact absurd c_11 (by decide)
          ·
            refine lv_aload_n hx hb dX7_countRows_70 rfl (lv_at hl 2 rfl) ?_
            refine lv_iload_n hx hb dX7_countRows_71 rfl (lv_at hl 0 rfl) ?_
            have hPc := hP.sub (ws' := [(a_th, .inr (7, [.ref a_h, .ref a_k, .ref a_ba, .ref a_ad, .int e_fu, .ref a_nx, .ref a_cn, .ref a_hp, .ref a_hl, .ref a_lv])), (a_ba, .inl (G.2 1, 24, .inr (.inl f_ba))), (a_ad, .inl (G.2 0, 1536, .inl f_ad)), (a_nx, .inl (G.2 1, 2048, .inr (.inl z10))), (a_cn, .inl (G.2 1, 2048, .inr (.inl z8)))]) [0, 1, 2, 4, 3] rfl
            have hDc := hD.sub (ws' := [(a_th, .inr (7, [.ref a_h, .ref a_k, .ref a_ba, .ref a_ad, .int e_fu, .ref a_nx, .ref a_cn, .ref a_hp, .ref a_hl, .ref a_lv])), (a_ba, .inl (G.2 1, 24, .inr (.inl f_ba))), (a_ad, .inl (G.2 0, 1536, .inl f_ad)), (a_nx, .inl (G.2 1, 2048, .inr (.inl z10))), (a_cn, .inl (G.2 1, 2048, .inr (.inl z8)))]) [0, 1, 2, 4, 3] (by decide) rfl
            have hFc := va_free (wc := [(a_th, .inr (7, [.ref a_h, .ref a_k, .ref a_ba, .ref a_ad, .int e_fu, .ref a_nx, .ref a_cn, .ref a_hp, .ref a_hl, .ref a_lv])), (a_ba, .inl (G.2 1, 24, .inr (.inl f_ba))), (a_ad, .inl (G.2 0, 1536, .inl f_ad)), (a_nx, .inl (G.2 1, 2048, .inr (.inl z10))), (a_cn, .inl (G.2 1, 2048, .inr (.inl z8)))]) hD hS hA [0, 1, 2, 4, 3] rfl
            refine va_callv (va_runV (As := [.int 4]) (rest := []) ⟨hx, hb, hml, hown, hts⟩ (th_step l G a_th a_ba a_ad a_nx a_cn a_h a_k a_hp a_hl a_lv H.size e_fu 4 f_ba f_ad z10 z8 ⟨by decide, by decide⟩ (e_tk)) (cwV 1 hts gV_X7_102 rfl rfl rfl hv_X7_stepTo ⟨Nat.le_of_ble_eq_true rfl, Nat.le_of_ble_eq_true rfl⟩) (g5_preV hPc hK hDc hN hT hS hFc (ci := 7) (q0 := 0) rfl rfl) rfl rfl hl.1 rfl (lv_room (Nat.le_of_ble_eq_true rfl)) dX7_countRows_72 ⟨Nat.le_of_ble_eq_true rfl, Nat.le_of_ble_eq_true rfl⟩) hS (fun q _ h => hFc q h) hFc (fun u t H1 locs ht hvm hw hB hz1 hk1 hS => ?_)
            obtain ⟨hP1, hD1⟩ := hB
            rw [ht] at hP1
            obtain ⟨z12, rfl⟩ := hw
            obtain ⟨hP, hD⟩ := va_join (wr := []) (w1 := [(a_th, .inr (7, [.ref a_h, .ref a_k, .ref a_ba, .ref a_ad, .int e_fu, .ref a_cn, .ref a_nx, .ref a_hp, .ref a_hl, .ref a_lv])), (a_ba, .inl (G.2 1, 24, .inr (.inl f_ba))), (a_ad, .inl (G.2 0, 1536, .inl f_ad)), (a_nx, .inl (G.2 1, 2048, .inr (.inl z10))), (a_cn, .inl (G.2 1, 2048, .inr (.inl z12)))]) hP hD [0, 1, 2, 4, 3] [] rfl rfl (by decide) (by decide) hk1 hFc hP1 hD1
            generalize H1 = H at hP hS ⊢
            have hP : va_P G.1 vwCl [(a_th, .inr (7, [.ref a_h, .ref a_k, .ref a_ba, .ref a_ad, .int e_fu, .ref a_cn, .ref a_nx, .ref a_hp, .ref a_hl, .ref a_lv])), (a_ba, .inl (G.2 1, 24, .inr (.inl f_ba))), (a_ad, .inl (G.2 0, 1536, .inl f_ad)), (a_nx, .inl (G.2 1, 2048, .inr (.inl z10))), (a_cn, .inl (G.2 1, 2048, .inr (.inl z12)))] H := hP
            have hD : va_D A [(a_th, .inr (7, [.ref a_h, .ref a_k, .ref a_ba, .ref a_ad, .int e_fu, .ref a_cn, .ref a_nx, .ref a_hp, .ref a_hl, .ref a_lv])), (a_ba, .inl (G.2 1, 24, .inr (.inl f_ba))), (a_ad, .inl (G.2 0, 1536, .inl f_ad)), (a_nx, .inl (G.2 1, 2048, .inr (.inl z10))), (a_cn, .inl (G.2 1, 2048, .inr (.inl z12)))] := hD
            refine lv_iinc (v := 5) (lv' := [(2, .int 5), (1, .int (e_fu + 1)), (0, .ref a_th)]) hx hb dX7_countRows_75 hl (k := 0) rfl (by decide) (by decide) rfl (fun ls hl => ?_)
            refine lv_goto (tgt := 64) hx hb dX7_countRows_78 (by decide) ?_
            refine lv_iload_n hx hb dX7_countRows_64 rfl (lv_at hl 0 rfl) ?_
            refine lv_bipush (v := 24) hx hb dX7_countRows_65 (by decide) ?_
            refine lv_icmp_ge (tgt := 81) hx hb dX7_countRows_67 (by decide) (fun c_13 => ?_) (fun c_13 => ?_)
            ·
              exact absurd c_13 (by decide)
            ·
              refine lv_aload_n hx hb dX7_countRows_70 rfl (lv_at hl 2 rfl) ?_
              refine lv_iload_n hx hb dX7_countRows_71 rfl (lv_at hl 0 rfl) ?_
              have hPc := hP.sub (ws' := [(a_th, .inr (7, [.ref a_h, .ref a_k, .ref a_ba, .ref a_ad, .int e_fu, .ref a_cn, .ref a_nx, .ref a_hp, .ref a_hl, .ref a_lv])), (a_ba, .inl (G.2 1, 24, .inr (.inl f_ba))), (a_ad, .inl (G.2 0, 1536, .inl f_ad)), (a_cn, .inl (G.2 1, 2048, .inr (.inl z12))), (a_nx, .inl (G.2 1, 2048, .inr (.inl z10)))]) [0, 1, 2, 4, 3] rfl
              have hDc := hD.sub (ws' := [(a_th, .inr (7, [.ref a_h, .ref a_k, .ref a_ba, .ref a_ad, .int e_fu, .ref a_cn, .ref a_nx, .ref a_hp, .ref a_hl, .ref a_lv])), (a_ba, .inl (G.2 1, 24, .inr (.inl f_ba))), (a_ad, .inl (G.2 0, 1536, .inl f_ad)), (a_cn, .inl (G.2 1, 2048, .inr (.inl z12))), (a_nx, .inl (G.2 1, 2048, .inr (.inl z10)))]) [0, 1, 2, 4, 3] (by decide) rfl
              have hFc := va_free (wc := [(a_th, .inr (7, [.ref a_h, .ref a_k, .ref a_ba, .ref a_ad, .int e_fu, .ref a_cn, .ref a_nx, .ref a_hp, .ref a_hl, .ref a_lv])), (a_ba, .inl (G.2 1, 24, .inr (.inl f_ba))), (a_ad, .inl (G.2 0, 1536, .inl f_ad)), (a_cn, .inl (G.2 1, 2048, .inr (.inl z12))), (a_nx, .inl (G.2 1, 2048, .inr (.inl z10)))]) hD hS hA [0, 1, 2, 4, 3] rfl
              refine va_callv (va_runV (As := [.int 5]) (rest := []) ⟨hx, hb, hml, hown, hts⟩ (th_step l G a_th a_ba a_ad a_cn a_nx a_h a_k a_hp a_hl a_lv H.size e_fu 5 f_ba f_ad z12 z10 ⟨by decide, by decide⟩ (e_tk)) (cwV 1 hts gV_X7_102 rfl rfl rfl hv_X7_stepTo ⟨Nat.le_of_ble_eq_true rfl, Nat.le_of_ble_eq_true rfl⟩) (g5_preV hPc hK hDc hN hT hS hFc (ci := 7) (q0 := 0) rfl rfl) rfl rfl hl.1 rfl (lv_room (Nat.le_of_ble_eq_true rfl)) dX7_countRows_72 ⟨Nat.le_of_ble_eq_true rfl, Nat.le_of_ble_eq_true rfl⟩) hS (fun q _ h => hFc q h) hFc (fun u t H1 locs ht hvm hw hB hz1 hk1 hS => ?_)
              obtain ⟨hP1, hD1⟩ := hB
              rw [ht] at hP1
              obtain ⟨z14, rfl⟩ := hw
              obtain ⟨hP, hD⟩ := va_join (wr := []) (w1 := [(a_th, .inr (7, [.ref a_h, .ref a_k, .ref a_ba, .ref a_ad, .int e_fu, .ref a_nx, .ref a_cn, .ref a_hp, .ref a_hl, .ref a_lv])), (a_ba, .inl (G.2 1, 24, .inr (.inl f_ba))), (a_ad, .inl (G.2 0, 1536, .inl f_ad)), (a_cn, .inl (G.2 1, 2048, .inr (.inl z12))), (a_nx, .inl (G.2 1, 2048, .inr (.inl z14)))]) hP hD [0, 1, 2, 4, 3] [] rfl rfl (by decide) (by decide) hk1 hFc hP1 hD1
              generalize H1 = H at hP hS ⊢
              have hP : va_P G.1 vwCl [(a_th, .inr (7, [.ref a_h, .ref a_k, .ref a_ba, .ref a_ad, .int e_fu, .ref a_nx, .ref a_cn, .ref a_hp, .ref a_hl, .ref a_lv])), (a_ba, .inl (G.2 1, 24, .inr (.inl f_ba))), (a_ad, .inl (G.2 0, 1536, .inl f_ad)), (a_cn, .inl (G.2 1, 2048, .inr (.inl z12))), (a_nx, .inl (G.2 1, 2048, .inr (.inl z14)))] H := hP
              have hD : va_D A [(a_th, .inr (7, [.ref a_h, .ref a_k, .ref a_ba, .ref a_ad, .int e_fu, .ref a_nx, .ref a_cn, .ref a_hp, .ref a_hl, .ref a_lv])), (a_ba, .inl (G.2 1, 24, .inr (.inl f_ba))), (a_ad, .inl (G.2 0, 1536, .inl f_ad)), (a_cn, .inl (G.2 1, 2048, .inr (.inl z12))), (a_nx, .inl (G.2 1, 2048, .inr (.inl z14)))] := hD
              refine lv_iinc (v := 6) (lv' := [(2, .int 6), (1, .int (e_fu + 1)), (0, .ref a_th)]) hx hb dX7_countRows_75 hl (k := 0) rfl (by decide) (by decide) rfl (fun ls hl => ?_)
              refine lv_goto (tgt := 64) hx hb dX7_countRows_78 (by decide) ?_
              refine lv_iload_n hx hb dX7_countRows_64 rfl (lv_at hl 0 rfl) ?_
              refine lv_bipush (v := 24) hx hb dX7_countRows_65 (by decide) ?_
              refine lv_icmp_ge (tgt := 81) hx hb dX7_countRows_67 (by decide) (fun c_15 => ?_) (fun c_15 => ?_)
              ·
                exact absurd c_15 (by decide)
              ·
                refine lv_aload_n hx hb dX7_countRows_70 rfl (lv_at hl 2 rfl) ?_
                refine lv_iload_n hx hb dX7_countRows_71 rfl (lv_at hl 0 rfl) ?_
                have hPc := hP.sub (ws' := [(a_th, .inr (7, [.ref a_h, .ref a_k, .ref a_ba, .ref a_ad, .int e_fu, .ref a_nx, .ref a_cn, .ref a_hp, .ref a_hl, .ref a_lv])), (a_ba, .inl (G.2 1, 24, .inr (.inl f_ba))), (a_ad, .inl (G.2 0, 1536, .inl f_ad)), (a_nx, .inl (G.2 1, 2048, .inr (.inl z14))), (a_cn, .inl (G.2 1, 2048, .inr (.inl z12)))]) [0, 1, 2, 4, 3] rfl
                have hDc := hD.sub (ws' := [(a_th, .inr (7, [.ref a_h, .ref a_k, .ref a_ba, .ref a_ad, .int e_fu, .ref a_nx, .ref a_cn, .ref a_hp, .ref a_hl, .ref a_lv])), (a_ba, .inl (G.2 1, 24, .inr (.inl f_ba))), (a_ad, .inl (G.2 0, 1536, .inl f_ad)), (a_nx, .inl (G.2 1, 2048, .inr (.inl z14))), (a_cn, .inl (G.2 1, 2048, .inr (.inl z12)))]) [0, 1, 2, 4, 3] (by decide) rfl
                have hFc := va_free (wc := [(a_th, .inr (7, [.ref a_h, .ref a_k, .ref a_ba, .ref a_ad, .int e_fu, .ref a_nx, .ref a_cn, .ref a_hp, .ref a_hl, .ref a_lv])), (a_ba, .inl (G.2 1, 24, .inr (.inl f_ba))), (a_ad, .inl (G.2 0, 1536, .inl f_ad)), (a_nx, .inl (G.2 1, 2048, .inr (.inl z14))), (a_cn, .inl (G.2 1, 2048, .inr (.inl z12)))]) hD hS hA [0, 1, 2, 4, 3] rfl
                refine va_callv (va_runV (As := [.int 6]) (rest := []) ⟨hx, hb, hml, hown, hts⟩ (th_step l G a_th a_ba a_ad a_nx a_cn a_h a_k a_hp a_hl a_lv H.size e_fu 6 f_ba f_ad z14 z12 ⟨by decide, by decide⟩ (e_tk)) (cwV 1 hts gV_X7_102 rfl rfl rfl hv_X7_stepTo ⟨Nat.le_of_ble_eq_true rfl, Nat.le_of_ble_eq_true rfl⟩) (g5_preV hPc hK hDc hN hT hS hFc (ci := 7) (q0 := 0) rfl rfl) rfl rfl hl.1 rfl (lv_room (Nat.le_of_ble_eq_true rfl)) dX7_countRows_72 ⟨Nat.le_of_ble_eq_true rfl, Nat.le_of_ble_eq_true rfl⟩) hS (fun q _ h => hFc q h) hFc (fun u t H1 locs ht hvm hw hB hz1 hk1 hS => ?_)
                obtain ⟨hP1, hD1⟩ := hB
                rw [ht] at hP1
                obtain ⟨z16, rfl⟩ := hw
                obtain ⟨hP, hD⟩ := va_join (wr := []) (w1 := [(a_th, .inr (7, [.ref a_h, .ref a_k, .ref a_ba, .ref a_ad, .int e_fu, .ref a_cn, .ref a_nx, .ref a_hp, .ref a_hl, .ref a_lv])), (a_ba, .inl (G.2 1, 24, .inr (.inl f_ba))), (a_ad, .inl (G.2 0, 1536, .inl f_ad)), (a_nx, .inl (G.2 1, 2048, .inr (.inl z14))), (a_cn, .inl (G.2 1, 2048, .inr (.inl z16)))]) hP hD [0, 1, 2, 4, 3] [] rfl rfl (by decide) (by decide) hk1 hFc hP1 hD1
                generalize H1 = H at hP hS ⊢
                have hP : va_P G.1 vwCl [(a_th, .inr (7, [.ref a_h, .ref a_k, .ref a_ba, .ref a_ad, .int e_fu, .ref a_cn, .ref a_nx, .ref a_hp, .ref a_hl, .ref a_lv])), (a_ba, .inl (G.2 1, 24, .inr (.inl f_ba))), (a_ad, .inl (G.2 0, 1536, .inl f_ad)), (a_nx, .inl (G.2 1, 2048, .inr (.inl z14))), (a_cn, .inl (G.2 1, 2048, .inr (.inl z16)))] H := hP
                have hD : va_D A [(a_th, .inr (7, [.ref a_h, .ref a_k, .ref a_ba, .ref a_ad, .int e_fu, .ref a_cn, .ref a_nx, .ref a_hp, .ref a_hl, .ref a_lv])), (a_ba, .inl (G.2 1, 24, .inr (.inl f_ba))), (a_ad, .inl (G.2 0, 1536, .inl f_ad)), (a_nx, .inl (G.2 1, 2048, .inr (.inl z14))), (a_cn, .inl (G.2 1, 2048, .inr (.inl z16)))] := hD
                refine lv_iinc (v := 7) (lv' := [(2, .int 7), (1, .int (e_fu + 1)), (0, .ref a_th)]) hx hb dX7_countRows_75 hl (k := 0) rfl (by decide) (by decide) rfl (fun ls hl => ?_)
                refine lv_goto (tgt := 64) hx hb dX7_countRows_78 (by decide) ?_
                refine lv_iload_n hx hb dX7_countRows_64 rfl (lv_at hl 0 rfl) ?_
                refine lv_bipush (v := 24) hx hb dX7_countRows_65 (by decide) ?_
                refine lv_icmp_ge (tgt := 81) hx hb dX7_countRows_67 (by decide) (fun c_17 => ?_) (fun c_17 => ?_)
                ·
                  exact absurd c_17 (by decide)
                ·
                  refine lv_aload_n hx hb dX7_countRows_70 rfl (lv_at hl 2 rfl) ?_
                  refine lv_iload_n hx hb dX7_countRows_71 rfl (lv_at hl 0 rfl) ?_
                  have hPc := hP.sub (ws' := [(a_th, .inr (7, [.ref a_h, .ref a_k, .ref a_ba, .ref a_ad, .int e_fu, .ref a_cn, .ref a_nx, .ref a_hp, .ref a_hl, .ref a_lv])), (a_ba, .inl (G.2 1, 24, .inr (.inl f_ba))), (a_ad, .inl (G.2 0, 1536, .inl f_ad)), (a_cn, .inl (G.2 1, 2048, .inr (.inl z16))), (a_nx, .inl (G.2 1, 2048, .inr (.inl z14)))]) [0, 1, 2, 4, 3] rfl
                  have hDc := hD.sub (ws' := [(a_th, .inr (7, [.ref a_h, .ref a_k, .ref a_ba, .ref a_ad, .int e_fu, .ref a_cn, .ref a_nx, .ref a_hp, .ref a_hl, .ref a_lv])), (a_ba, .inl (G.2 1, 24, .inr (.inl f_ba))), (a_ad, .inl (G.2 0, 1536, .inl f_ad)), (a_cn, .inl (G.2 1, 2048, .inr (.inl z16))), (a_nx, .inl (G.2 1, 2048, .inr (.inl z14)))]) [0, 1, 2, 4, 3] (by decide) rfl
                  have hFc := va_free (wc := [(a_th, .inr (7, [.ref a_h, .ref a_k, .ref a_ba, .ref a_ad, .int e_fu, .ref a_cn, .ref a_nx, .ref a_hp, .ref a_hl, .ref a_lv])), (a_ba, .inl (G.2 1, 24, .inr (.inl f_ba))), (a_ad, .inl (G.2 0, 1536, .inl f_ad)), (a_cn, .inl (G.2 1, 2048, .inr (.inl z16))), (a_nx, .inl (G.2 1, 2048, .inr (.inl z14)))]) hD hS hA [0, 1, 2, 4, 3] rfl
                  refine va_callv (va_runV (As := [.int 7]) (rest := []) ⟨hx, hb, hml, hown, hts⟩ (th_step l G a_th a_ba a_ad a_cn a_nx a_h a_k a_hp a_hl a_lv H.size e_fu 7 f_ba f_ad z16 z14 ⟨by decide, by decide⟩ (e_tk)) (cwV 1 hts gV_X7_102 rfl rfl rfl hv_X7_stepTo ⟨Nat.le_of_ble_eq_true rfl, Nat.le_of_ble_eq_true rfl⟩) (g5_preV hPc hK hDc hN hT hS hFc (ci := 7) (q0 := 0) rfl rfl) rfl rfl hl.1 rfl (lv_room (Nat.le_of_ble_eq_true rfl)) dX7_countRows_72 ⟨Nat.le_of_ble_eq_true rfl, Nat.le_of_ble_eq_true rfl⟩) hS (fun q _ h => hFc q h) hFc (fun u t H1 locs ht hvm hw hB hz1 hk1 hS => ?_)
                  obtain ⟨hP1, hD1⟩ := hB
                  rw [ht] at hP1
                  obtain ⟨z18, rfl⟩ := hw
                  obtain ⟨hP, hD⟩ := va_join (wr := []) (w1 := [(a_th, .inr (7, [.ref a_h, .ref a_k, .ref a_ba, .ref a_ad, .int e_fu, .ref a_nx, .ref a_cn, .ref a_hp, .ref a_hl, .ref a_lv])), (a_ba, .inl (G.2 1, 24, .inr (.inl f_ba))), (a_ad, .inl (G.2 0, 1536, .inl f_ad)), (a_cn, .inl (G.2 1, 2048, .inr (.inl z16))), (a_nx, .inl (G.2 1, 2048, .inr (.inl z18)))]) hP hD [0, 1, 2, 4, 3] [] rfl rfl (by decide) (by decide) hk1 hFc hP1 hD1
                  generalize H1 = H at hP hS ⊢
                  have hP : va_P G.1 vwCl [(a_th, .inr (7, [.ref a_h, .ref a_k, .ref a_ba, .ref a_ad, .int e_fu, .ref a_nx, .ref a_cn, .ref a_hp, .ref a_hl, .ref a_lv])), (a_ba, .inl (G.2 1, 24, .inr (.inl f_ba))), (a_ad, .inl (G.2 0, 1536, .inl f_ad)), (a_cn, .inl (G.2 1, 2048, .inr (.inl z16))), (a_nx, .inl (G.2 1, 2048, .inr (.inl z18)))] H := hP
                  have hD : va_D A [(a_th, .inr (7, [.ref a_h, .ref a_k, .ref a_ba, .ref a_ad, .int e_fu, .ref a_nx, .ref a_cn, .ref a_hp, .ref a_hl, .ref a_lv])), (a_ba, .inl (G.2 1, 24, .inr (.inl f_ba))), (a_ad, .inl (G.2 0, 1536, .inl f_ad)), (a_cn, .inl (G.2 1, 2048, .inr (.inl z16))), (a_nx, .inl (G.2 1, 2048, .inr (.inl z18)))] := hD
                  refine lv_iinc (v := 8) (lv' := [(2, .int 8), (1, .int (e_fu + 1)), (0, .ref a_th)]) hx hb dX7_countRows_75 hl (k := 0) rfl (by decide) (by decide) rfl (fun ls hl => ?_)
                  refine lv_goto (tgt := 64) hx hb dX7_countRows_78 (by decide) ?_
                  refine lv_iload_n hx hb dX7_countRows_64 rfl (lv_at hl 0 rfl) ?_
                  refine lv_bipush (v := 24) hx hb dX7_countRows_65 (by decide) ?_
                  refine lv_icmp_ge (tgt := 81) hx hb dX7_countRows_67 (by decide) (fun c_19 => ?_) (fun c_19 => ?_)
                  ·
                    exact absurd c_19 (by decide)
                  ·
                    refine lv_aload_n hx hb dX7_countRows_70 rfl (lv_at hl 2 rfl) ?_
                    refine lv_iload_n hx hb dX7_countRows_71 rfl (lv_at hl 0 rfl) ?_
                    have hPc := hP.sub (ws' := [(a_th, .inr (7, [.ref a_h, .ref a_k, .ref a_ba, .ref a_ad, .int e_fu, .ref a_nx, .ref a_cn, .ref a_hp, .ref a_hl, .ref a_lv])), (a_ba, .inl (G.2 1, 24, .inr (.inl f_ba))), (a_ad, .inl (G.2 0, 1536, .inl f_ad)), (a_nx, .inl (G.2 1, 2048, .inr (.inl z18))), (a_cn, .inl (G.2 1, 2048, .inr (.inl z16)))]) [0, 1, 2, 4, 3] rfl
                    have hDc := hD.sub (ws' := [(a_th, .inr (7, [.ref a_h, .ref a_k, .ref a_ba, .ref a_ad, .int e_fu, .ref a_nx, .ref a_cn, .ref a_hp, .ref a_hl, .ref a_lv])), (a_ba, .inl (G.2 1, 24, .inr (.inl f_ba))), (a_ad, .inl (G.2 0, 1536, .inl f_ad)), (a_nx, .inl (G.2 1, 2048, .inr (.inl z18))), (a_cn, .inl (G.2 1, 2048, .inr (.inl z16)))]) [0, 1, 2, 4, 3] (by decide) rfl
                    have hFc := va_free (wc := [(a_th, .inr (7, [.ref a_h, .ref a_k, .ref a_ba, .ref a_ad, .int e_fu, .ref a_nx, .ref a_cn, .ref a_hp, .ref a_hl, .ref a_lv])), (a_ba, .inl (G.2 1, 24, .inr (.inl f_ba))), (a_ad, .inl (G.2 0, 1536, .inl f_ad)), (a_nx, .inl (G.2 1, 2048, .inr (.inl z18))), (a_cn, .inl (G.2 1, 2048, .inr (.inl z16)))]) hD hS hA [0, 1, 2, 4, 3] rfl
                    refine va_callv (va_runV (As := [.int 8]) (rest := []) ⟨hx, hb, hml, hown, hts⟩ (th_step l G a_th a_ba a_ad a_nx a_cn a_h a_k a_hp a_hl a_lv H.size e_fu 8 f_ba f_ad z18 z16 ⟨by decide, by decide⟩ (e_tk)) (cwV 1 hts gV_X7_102 rfl rfl rfl hv_X7_stepTo ⟨Nat.le_of_ble_eq_true rfl, Nat.le_of_ble_eq_true rfl⟩) (g5_preV hPc hK hDc hN hT hS hFc (ci := 7) (q0 := 0) rfl rfl) rfl rfl hl.1 rfl (lv_room (Nat.le_of_ble_eq_true rfl)) dX7_countRows_72 ⟨Nat.le_of_ble_eq_true rfl, Nat.le_of_ble_eq_true rfl⟩) hS (fun q _ h => hFc q h) hFc (fun u t H1 locs ht hvm hw hB hz1 hk1 hS => ?_)
                    obtain ⟨hP1, hD1⟩ := hB
                    rw [ht] at hP1
                    obtain ⟨z20, rfl⟩ := hw
                    obtain ⟨hP, hD⟩ := va_join (wr := []) (w1 := [(a_th, .inr (7, [.ref a_h, .ref a_k, .ref a_ba, .ref a_ad, .int e_fu, .ref a_cn, .ref a_nx, .ref a_hp, .ref a_hl, .ref a_lv])), (a_ba, .inl (G.2 1, 24, .inr (.inl f_ba))), (a_ad, .inl (G.2 0, 1536, .inl f_ad)), (a_nx, .inl (G.2 1, 2048, .inr (.inl z18))), (a_cn, .inl (G.2 1, 2048, .inr (.inl z20)))]) hP hD [0, 1, 2, 4, 3] [] rfl rfl (by decide) (by decide) hk1 hFc hP1 hD1
                    generalize H1 = H at hP hS ⊢
                    have hP : va_P G.1 vwCl [(a_th, .inr (7, [.ref a_h, .ref a_k, .ref a_ba, .ref a_ad, .int e_fu, .ref a_cn, .ref a_nx, .ref a_hp, .ref a_hl, .ref a_lv])), (a_ba, .inl (G.2 1, 24, .inr (.inl f_ba))), (a_ad, .inl (G.2 0, 1536, .inl f_ad)), (a_nx, .inl (G.2 1, 2048, .inr (.inl z18))), (a_cn, .inl (G.2 1, 2048, .inr (.inl z20)))] H := hP
                    have hD : va_D A [(a_th, .inr (7, [.ref a_h, .ref a_k, .ref a_ba, .ref a_ad, .int e_fu, .ref a_cn, .ref a_nx, .ref a_hp, .ref a_hl, .ref a_lv])), (a_ba, .inl (G.2 1, 24, .inr (.inl f_ba))), (a_ad, .inl (G.2 0, 1536, .inl f_ad)), (a_nx, .inl (G.2 1, 2048, .inr (.inl z18))), (a_cn, .inl (G.2 1, 2048, .inr (.inl z20)))] := hD
                    refine lv_iinc (v := 9) (lv' := [(2, .int 9), (1, .int (e_fu + 1)), (0, .ref a_th)]) hx hb dX7_countRows_75 hl (k := 0) rfl (by decide) (by decide) rfl (fun ls hl => ?_)
                    refine lv_goto (tgt := 64) hx hb dX7_countRows_78 (by decide) ?_
                    refine lv_iload_n hx hb dX7_countRows_64 rfl (lv_at hl 0 rfl) ?_
                    refine lv_bipush (v := 24) hx hb dX7_countRows_65 (by decide) ?_
                    refine lv_icmp_ge (tgt := 81) hx hb dX7_countRows_67 (by decide) (fun c_21 => ?_) (fun c_21 => ?_)
                    ·
                      exact absurd c_21 (by decide)
                    ·
                      refine lv_aload_n hx hb dX7_countRows_70 rfl (lv_at hl 2 rfl) ?_
                      refine lv_iload_n hx hb dX7_countRows_71 rfl (lv_at hl 0 rfl) ?_
                      have hPc := hP.sub (ws' := [(a_th, .inr (7, [.ref a_h, .ref a_k, .ref a_ba, .ref a_ad, .int e_fu, .ref a_cn, .ref a_nx, .ref a_hp, .ref a_hl, .ref a_lv])), (a_ba, .inl (G.2 1, 24, .inr (.inl f_ba))), (a_ad, .inl (G.2 0, 1536, .inl f_ad)), (a_cn, .inl (G.2 1, 2048, .inr (.inl z20))), (a_nx, .inl (G.2 1, 2048, .inr (.inl z18)))]) [0, 1, 2, 4, 3] rfl
                      have hDc := hD.sub (ws' := [(a_th, .inr (7, [.ref a_h, .ref a_k, .ref a_ba, .ref a_ad, .int e_fu, .ref a_cn, .ref a_nx, .ref a_hp, .ref a_hl, .ref a_lv])), (a_ba, .inl (G.2 1, 24, .inr (.inl f_ba))), (a_ad, .inl (G.2 0, 1536, .inl f_ad)), (a_cn, .inl (G.2 1, 2048, .inr (.inl z20))), (a_nx, .inl (G.2 1, 2048, .inr (.inl z18)))]) [0, 1, 2, 4, 3] (by decide) rfl
                      have hFc := va_free (wc := [(a_th, .inr (7, [.ref a_h, .ref a_k, .ref a_ba, .ref a_ad, .int e_fu, .ref a_cn, .ref a_nx, .ref a_hp, .ref a_hl, .ref a_lv])), (a_ba, .inl (G.2 1, 24, .inr (.inl f_ba))), (a_ad, .inl (G.2 0, 1536, .inl f_ad)), (a_cn, .inl (G.2 1, 2048, .inr (.inl z20))), (a_nx, .inl (G.2 1, 2048, .inr (.inl z18)))]) hD hS hA [0, 1, 2, 4, 3] rfl
                      refine va_callv (va_runV (As := [.int 9]) (rest := []) ⟨hx, hb, hml, hown, hts⟩ (th_step l G a_th a_ba a_ad a_cn a_nx a_h a_k a_hp a_hl a_lv H.size e_fu 9 f_ba f_ad z20 z18 ⟨by decide, by decide⟩ (e_tk)) (cwV 1 hts gV_X7_102 rfl rfl rfl hv_X7_stepTo ⟨Nat.le_of_ble_eq_true rfl, Nat.le_of_ble_eq_true rfl⟩) (g5_preV hPc hK hDc hN hT hS hFc (ci := 7) (q0 := 0) rfl rfl) rfl rfl hl.1 rfl (lv_room (Nat.le_of_ble_eq_true rfl)) dX7_countRows_72 ⟨Nat.le_of_ble_eq_true rfl, Nat.le_of_ble_eq_true rfl⟩) hS (fun q _ h => hFc q h) hFc (fun u t H1 locs ht hvm hw hB hz1 hk1 hS => ?_)
                      obtain ⟨hP1, hD1⟩ := hB
                      rw [ht] at hP1
                      obtain ⟨z22, rfl⟩ := hw
                      obtain ⟨hP, hD⟩ := va_join (wr := []) (w1 := [(a_th, .inr (7, [.ref a_h, .ref a_k, .ref a_ba, .ref a_ad, .int e_fu, .ref a_nx, .ref a_cn, .ref a_hp, .ref a_hl, .ref a_lv])), (a_ba, .inl (G.2 1, 24, .inr (.inl f_ba))), (a_ad, .inl (G.2 0, 1536, .inl f_ad)), (a_cn, .inl (G.2 1, 2048, .inr (.inl z20))), (a_nx, .inl (G.2 1, 2048, .inr (.inl z22)))]) hP hD [0, 1, 2, 4, 3] [] rfl rfl (by decide) (by decide) hk1 hFc hP1 hD1
                      generalize H1 = H at hP hS ⊢
                      have hP : va_P G.1 vwCl [(a_th, .inr (7, [.ref a_h, .ref a_k, .ref a_ba, .ref a_ad, .int e_fu, .ref a_nx, .ref a_cn, .ref a_hp, .ref a_hl, .ref a_lv])), (a_ba, .inl (G.2 1, 24, .inr (.inl f_ba))), (a_ad, .inl (G.2 0, 1536, .inl f_ad)), (a_cn, .inl (G.2 1, 2048, .inr (.inl z20))), (a_nx, .inl (G.2 1, 2048, .inr (.inl z22)))] H := hP
                      have hD : va_D A [(a_th, .inr (7, [.ref a_h, .ref a_k, .ref a_ba, .ref a_ad, .int e_fu, .ref a_nx, .ref a_cn, .ref a_hp, .ref a_hl, .ref a_lv])), (a_ba, .inl (G.2 1, 24, .inr (.inl f_ba))), (a_ad, .inl (G.2 0, 1536, .inl f_ad)), (a_cn, .inl (G.2 1, 2048, .inr (.inl z20))), (a_nx, .inl (G.2 1, 2048, .inr (.inl z22)))] := hD
                      refine lv_iinc (v := 10) (lv' := [(2, .int 10), (1, .int (e_fu + 1)), (0, .ref a_th)]) hx hb dX7_countRows_75 hl (k := 0) rfl (by decide) (by decide) rfl (fun ls hl => ?_)
                      refine lv_goto (tgt := 64) hx hb dX7_countRows_78 (by decide) ?_
                      refine lv_iload_n hx hb dX7_countRows_64 rfl (lv_at hl 0 rfl) ?_
                      refine lv_bipush (v := 24) hx hb dX7_countRows_65 (by decide) ?_
                      refine lv_icmp_ge (tgt := 81) hx hb dX7_countRows_67 (by decide) (fun c_23 => ?_) (fun c_23 => ?_)
                      ·
                        exact absurd c_23 (by decide)
                      ·
                        refine lv_aload_n hx hb dX7_countRows_70 rfl (lv_at hl 2 rfl) ?_
                        refine lv_iload_n hx hb dX7_countRows_71 rfl (lv_at hl 0 rfl) ?_
                        have hPc := hP.sub (ws' := [(a_th, .inr (7, [.ref a_h, .ref a_k, .ref a_ba, .ref a_ad, .int e_fu, .ref a_nx, .ref a_cn, .ref a_hp, .ref a_hl, .ref a_lv])), (a_ba, .inl (G.2 1, 24, .inr (.inl f_ba))), (a_ad, .inl (G.2 0, 1536, .inl f_ad)), (a_nx, .inl (G.2 1, 2048, .inr (.inl z22))), (a_cn, .inl (G.2 1, 2048, .inr (.inl z20)))]) [0, 1, 2, 4, 3] rfl
                        have hDc := hD.sub (ws' := [(a_th, .inr (7, [.ref a_h, .ref a_k, .ref a_ba, .ref a_ad, .int e_fu, .ref a_nx, .ref a_cn, .ref a_hp, .ref a_hl, .ref a_lv])), (a_ba, .inl (G.2 1, 24, .inr (.inl f_ba))), (a_ad, .inl (G.2 0, 1536, .inl f_ad)), (a_nx, .inl (G.2 1, 2048, .inr (.inl z22))), (a_cn, .inl (G.2 1, 2048, .inr (.inl z20)))]) [0, 1, 2, 4, 3] (by decide) rfl
                        have hFc := va_free (wc := [(a_th, .inr (7, [.ref a_h, .ref a_k, .ref a_ba, .ref a_ad, .int e_fu, .ref a_nx, .ref a_cn, .ref a_hp, .ref a_hl, .ref a_lv])), (a_ba, .inl (G.2 1, 24, .inr (.inl f_ba))), (a_ad, .inl (G.2 0, 1536, .inl f_ad)), (a_nx, .inl (G.2 1, 2048, .inr (.inl z22))), (a_cn, .inl (G.2 1, 2048, .inr (.inl z20)))]) hD hS hA [0, 1, 2, 4, 3] rfl
                        refine va_callv (va_runV (As := [.int 10]) (rest := []) ⟨hx, hb, hml, hown, hts⟩ (th_step l G a_th a_ba a_ad a_nx a_cn a_h a_k a_hp a_hl a_lv H.size e_fu 10 f_ba f_ad z22 z20 ⟨by decide, by decide⟩ (e_tk)) (cwV 1 hts gV_X7_102 rfl rfl rfl hv_X7_stepTo ⟨Nat.le_of_ble_eq_true rfl, Nat.le_of_ble_eq_true rfl⟩) (g5_preV hPc hK hDc hN hT hS hFc (ci := 7) (q0 := 0) rfl rfl) rfl rfl hl.1 rfl (lv_room (Nat.le_of_ble_eq_true rfl)) dX7_countRows_72 ⟨Nat.le_of_ble_eq_true rfl, Nat.le_of_ble_eq_true rfl⟩) hS (fun q _ h => hFc q h) hFc (fun u t H1 locs ht hvm hw hB hz1 hk1 hS => ?_)
                        obtain ⟨hP1, hD1⟩ := hB
                        rw [ht] at hP1
                        obtain ⟨z24, rfl⟩ := hw
                        obtain ⟨hP, hD⟩ := va_join (wr := []) (w1 := [(a_th, .inr (7, [.ref a_h, .ref a_k, .ref a_ba, .ref a_ad, .int e_fu, .ref a_cn, .ref a_nx, .ref a_hp, .ref a_hl, .ref a_lv])), (a_ba, .inl (G.2 1, 24, .inr (.inl f_ba))), (a_ad, .inl (G.2 0, 1536, .inl f_ad)), (a_nx, .inl (G.2 1, 2048, .inr (.inl z22))), (a_cn, .inl (G.2 1, 2048, .inr (.inl z24)))]) hP hD [0, 1, 2, 4, 3] [] rfl rfl (by decide) (by decide) hk1 hFc hP1 hD1
                        generalize H1 = H at hP hS ⊢
                        have hP : va_P G.1 vwCl [(a_th, .inr (7, [.ref a_h, .ref a_k, .ref a_ba, .ref a_ad, .int e_fu, .ref a_cn, .ref a_nx, .ref a_hp, .ref a_hl, .ref a_lv])), (a_ba, .inl (G.2 1, 24, .inr (.inl f_ba))), (a_ad, .inl (G.2 0, 1536, .inl f_ad)), (a_nx, .inl (G.2 1, 2048, .inr (.inl z22))), (a_cn, .inl (G.2 1, 2048, .inr (.inl z24)))] H := hP
                        have hD : va_D A [(a_th, .inr (7, [.ref a_h, .ref a_k, .ref a_ba, .ref a_ad, .int e_fu, .ref a_cn, .ref a_nx, .ref a_hp, .ref a_hl, .ref a_lv])), (a_ba, .inl (G.2 1, 24, .inr (.inl f_ba))), (a_ad, .inl (G.2 0, 1536, .inl f_ad)), (a_nx, .inl (G.2 1, 2048, .inr (.inl z22))), (a_cn, .inl (G.2 1, 2048, .inr (.inl z24)))] := hD
                        refine lv_iinc (v := 11) (lv' := [(2, .int 11), (1, .int (e_fu + 1)), (0, .ref a_th)]) hx hb dX7_countRows_75 hl (k := 0) rfl (by decide) (by decide) rfl (fun ls hl => ?_)
                        refine lv_goto (tgt := 64) hx hb dX7_countRows_78 (by decide) ?_
                        refine lv_iload_n hx hb dX7_countRows_64 rfl (lv_at hl 0 rfl) ?_
                        refine lv_bipush (v := 24) hx hb dX7_countRows_65 (by decide) ?_
                        refine lv_icmp_ge (tgt := 81) hx hb dX7_countRows_67 (by decide) (fun c_25 => ?_) (fun c_25 => ?_)
                        ·
                          exact absurd c_25 (by decide)
                        ·
                          refine lv_aload_n hx hb dX7_countRows_70 rfl (lv_at hl 2 rfl) ?_
                          refine lv_iload_n hx hb dX7_countRows_71 rfl (lv_at hl 0 rfl) ?_
                          have hPc := hP.sub (ws' := [(a_th, .inr (7, [.ref a_h, .ref a_k, .ref a_ba, .ref a_ad, .int e_fu, .ref a_cn, .ref a_nx, .ref a_hp, .ref a_hl, .ref a_lv])), (a_ba, .inl (G.2 1, 24, .inr (.inl f_ba))), (a_ad, .inl (G.2 0, 1536, .inl f_ad)), (a_cn, .inl (G.2 1, 2048, .inr (.inl z24))), (a_nx, .inl (G.2 1, 2048, .inr (.inl z22)))]) [0, 1, 2, 4, 3] rfl
                          have hDc := hD.sub (ws' := [(a_th, .inr (7, [.ref a_h, .ref a_k, .ref a_ba, .ref a_ad, .int e_fu, .ref a_cn, .ref a_nx, .ref a_hp, .ref a_hl, .ref a_lv])), (a_ba, .inl (G.2 1, 24, .inr (.inl f_ba))), (a_ad, .inl (G.2 0, 1536, .inl f_ad)), (a_cn, .inl (G.2 1, 2048, .inr (.inl z24))), (a_nx, .inl (G.2 1, 2048, .inr (.inl z22)))]) [0, 1, 2, 4, 3] (by decide) rfl
                          have hFc := va_free (wc := [(a_th, .inr (7, [.ref a_h, .ref a_k, .ref a_ba, .ref a_ad, .int e_fu, .ref a_cn, .ref a_nx, .ref a_hp, .ref a_hl, .ref a_lv])), (a_ba, .inl (G.2 1, 24, .inr (.inl f_ba))), (a_ad, .inl (G.2 0, 1536, .inl f_ad)), (a_cn, .inl (G.2 1, 2048, .inr (.inl z24))), (a_nx, .inl (G.2 1, 2048, .inr (.inl z22)))]) hD hS hA [0, 1, 2, 4, 3] rfl
                          refine va_callv (va_runV (As := [.int 11]) (rest := []) ⟨hx, hb, hml, hown, hts⟩ (th_step l G a_th a_ba a_ad a_cn a_nx a_h a_k a_hp a_hl a_lv H.size e_fu 11 f_ba f_ad z24 z22 ⟨by decide, by decide⟩ (e_tk)) (cwV 1 hts gV_X7_102 rfl rfl rfl hv_X7_stepTo ⟨Nat.le_of_ble_eq_true rfl, Nat.le_of_ble_eq_true rfl⟩) (g5_preV hPc hK hDc hN hT hS hFc (ci := 7) (q0 := 0) rfl rfl) rfl rfl hl.1 rfl (lv_room (Nat.le_of_ble_eq_true rfl)) dX7_countRows_72 ⟨Nat.le_of_ble_eq_true rfl, Nat.le_of_ble_eq_true rfl⟩) hS (fun q _ h => hFc q h) hFc (fun u t H1 locs ht hvm hw hB hz1 hk1 hS => ?_)
                          obtain ⟨hP1, hD1⟩ := hB
                          rw [ht] at hP1
                          obtain ⟨z26, rfl⟩ := hw
                          obtain ⟨hP, hD⟩ := va_join (wr := []) (w1 := [(a_th, .inr (7, [.ref a_h, .ref a_k, .ref a_ba, .ref a_ad, .int e_fu, .ref a_nx, .ref a_cn, .ref a_hp, .ref a_hl, .ref a_lv])), (a_ba, .inl (G.2 1, 24, .inr (.inl f_ba))), (a_ad, .inl (G.2 0, 1536, .inl f_ad)), (a_cn, .inl (G.2 1, 2048, .inr (.inl z24))), (a_nx, .inl (G.2 1, 2048, .inr (.inl z26)))]) hP hD [0, 1, 2, 4, 3] [] rfl rfl (by decide) (by decide) hk1 hFc hP1 hD1
                          generalize H1 = H at hP hS ⊢
                          have hP : va_P G.1 vwCl [(a_th, .inr (7, [.ref a_h, .ref a_k, .ref a_ba, .ref a_ad, .int e_fu, .ref a_nx, .ref a_cn, .ref a_hp, .ref a_hl, .ref a_lv])), (a_ba, .inl (G.2 1, 24, .inr (.inl f_ba))), (a_ad, .inl (G.2 0, 1536, .inl f_ad)), (a_cn, .inl (G.2 1, 2048, .inr (.inl z24))), (a_nx, .inl (G.2 1, 2048, .inr (.inl z26)))] H := hP
                          have hD : va_D A [(a_th, .inr (7, [.ref a_h, .ref a_k, .ref a_ba, .ref a_ad, .int e_fu, .ref a_nx, .ref a_cn, .ref a_hp, .ref a_hl, .ref a_lv])), (a_ba, .inl (G.2 1, 24, .inr (.inl f_ba))), (a_ad, .inl (G.2 0, 1536, .inl f_ad)), (a_cn, .inl (G.2 1, 2048, .inr (.inl z24))), (a_nx, .inl (G.2 1, 2048, .inr (.inl z26)))] := hD
                          refine lv_iinc (v := 12) (lv' := [(2, .int 12), (1, .int (e_fu + 1)), (0, .ref a_th)]) hx hb dX7_countRows_75 hl (k := 0) rfl (by decide) (by decide) rfl (fun ls hl => ?_)
                          refine lv_goto (tgt := 64) hx hb dX7_countRows_78 (by decide) ?_
                          refine lv_iload_n hx hb dX7_countRows_64 rfl (lv_at hl 0 rfl) ?_
                          refine lv_bipush (v := 24) hx hb dX7_countRows_65 (by decide) ?_
                          refine lv_icmp_ge (tgt := 81) hx hb dX7_countRows_67 (by decide) (fun c_27 => ?_) (fun c_27 => ?_)
                          ·
                            exact absurd c_27 (by decide)
                          ·
                            refine lv_aload_n hx hb dX7_countRows_70 rfl (lv_at hl 2 rfl) ?_
                            refine lv_iload_n hx hb dX7_countRows_71 rfl (lv_at hl 0 rfl) ?_
                            have hPc := hP.sub (ws' := [(a_th, .inr (7, [.ref a_h, .ref a_k, .ref a_ba, .ref a_ad, .int e_fu, .ref a_nx, .ref a_cn, .ref a_hp, .ref a_hl, .ref a_lv])), (a_ba, .inl (G.2 1, 24, .inr (.inl f_ba))), (a_ad, .inl (G.2 0, 1536, .inl f_ad)), (a_nx, .inl (G.2 1, 2048, .inr (.inl z26))), (a_cn, .inl (G.2 1, 2048, .inr (.inl z24)))]) [0, 1, 2, 4, 3] rfl
                            have hDc := hD.sub (ws' := [(a_th, .inr (7, [.ref a_h, .ref a_k, .ref a_ba, .ref a_ad, .int e_fu, .ref a_nx, .ref a_cn, .ref a_hp, .ref a_hl, .ref a_lv])), (a_ba, .inl (G.2 1, 24, .inr (.inl f_ba))), (a_ad, .inl (G.2 0, 1536, .inl f_ad)), (a_nx, .inl (G.2 1, 2048, .inr (.inl z26))), (a_cn, .inl (G.2 1, 2048, .inr (.inl z24)))]) [0, 1, 2, 4, 3] (by decide) rfl
                            have hFc := va_free (wc := [(a_th, .inr (7, [.ref a_h, .ref a_k, .ref a_ba, .ref a_ad, .int e_fu, .ref a_nx, .ref a_cn, .ref a_hp, .ref a_hl, .ref a_lv])), (a_ba, .inl (G.2 1, 24, .inr (.inl f_ba))), (a_ad, .inl (G.2 0, 1536, .inl f_ad)), (a_nx, .inl (G.2 1, 2048, .inr (.inl z26))), (a_cn, .inl (G.2 1, 2048, .inr (.inl z24)))]) hD hS hA [0, 1, 2, 4, 3] rfl
                            refine va_callv (va_runV (As := [.int 12]) (rest := []) ⟨hx, hb, hml, hown, hts⟩ (th_step l G a_th a_ba a_ad a_nx a_cn a_h a_k a_hp a_hl a_lv H.size e_fu 12 f_ba f_ad z26 z24 ⟨by decide, by decide⟩ (e_tk)) (cwV 1 hts gV_X7_102 rfl rfl rfl hv_X7_stepTo ⟨Nat.le_of_ble_eq_true rfl, Nat.le_of_ble_eq_true rfl⟩) (g5_preV hPc hK hDc hN hT hS hFc (ci := 7) (q0 := 0) rfl rfl) rfl rfl hl.1 rfl (lv_room (Nat.le_of_ble_eq_true rfl)) dX7_countRows_72 ⟨Nat.le_of_ble_eq_true rfl, Nat.le_of_ble_eq_true rfl⟩) hS (fun q _ h => hFc q h) hFc (fun u t H1 locs ht hvm hw hB hz1 hk1 hS => ?_)
                            obtain ⟨hP1, hD1⟩ := hB
                            rw [ht] at hP1
                            obtain ⟨z28, rfl⟩ := hw
                            obtain ⟨hP, hD⟩ := va_join (wr := []) (w1 := [(a_th, .inr (7, [.ref a_h, .ref a_k, .ref a_ba, .ref a_ad, .int e_fu, .ref a_cn, .ref a_nx, .ref a_hp, .ref a_hl, .ref a_lv])), (a_ba, .inl (G.2 1, 24, .inr (.inl f_ba))), (a_ad, .inl (G.2 0, 1536, .inl f_ad)), (a_nx, .inl (G.2 1, 2048, .inr (.inl z26))), (a_cn, .inl (G.2 1, 2048, .inr (.inl z28)))]) hP hD [0, 1, 2, 4, 3] [] rfl rfl (by decide) (by decide) hk1 hFc hP1 hD1
                            generalize H1 = H at hP hS ⊢
                            have hP : va_P G.1 vwCl [(a_th, .inr (7, [.ref a_h, .ref a_k, .ref a_ba, .ref a_ad, .int e_fu, .ref a_cn, .ref a_nx, .ref a_hp, .ref a_hl, .ref a_lv])), (a_ba, .inl (G.2 1, 24, .inr (.inl f_ba))), (a_ad, .inl (G.2 0, 1536, .inl f_ad)), (a_nx, .inl (G.2 1, 2048, .inr (.inl z26))), (a_cn, .inl (G.2 1, 2048, .inr (.inl z28)))] H := hP
                            have hD : va_D A [(a_th, .inr (7, [.ref a_h, .ref a_k, .ref a_ba, .ref a_ad, .int e_fu, .ref a_cn, .ref a_nx, .ref a_hp, .ref a_hl, .ref a_lv])), (a_ba, .inl (G.2 1, 24, .inr (.inl f_ba))), (a_ad, .inl (G.2 0, 1536, .inl f_ad)), (a_nx, .inl (G.2 1, 2048, .inr (.inl z26))), (a_cn, .inl (G.2 1, 2048, .inr (.inl z28)))] := hD
                            refine lv_iinc (v := 13) (lv' := [(2, .int 13), (1, .int (e_fu + 1)), (0, .ref a_th)]) hx hb dX7_countRows_75 hl (k := 0) rfl (by decide) (by decide) rfl (fun ls hl => ?_)
                            refine lv_goto (tgt := 64) hx hb dX7_countRows_78 (by decide) ?_
                            refine lv_iload_n hx hb dX7_countRows_64 rfl (lv_at hl 0 rfl) ?_
                            refine lv_bipush (v := 24) hx hb dX7_countRows_65 (by decide) ?_
                            refine lv_icmp_ge (tgt := 81) hx hb dX7_countRows_67 (by decide) (fun c_29 => ?_) (fun c_29 => ?_)
                            ·
                              exact absurd c_29 (by decide)
                            ·
                              refine lv_aload_n hx hb dX7_countRows_70 rfl (lv_at hl 2 rfl) ?_
                              refine lv_iload_n hx hb dX7_countRows_71 rfl (lv_at hl 0 rfl) ?_
                              have hPc := hP.sub (ws' := [(a_th, .inr (7, [.ref a_h, .ref a_k, .ref a_ba, .ref a_ad, .int e_fu, .ref a_cn, .ref a_nx, .ref a_hp, .ref a_hl, .ref a_lv])), (a_ba, .inl (G.2 1, 24, .inr (.inl f_ba))), (a_ad, .inl (G.2 0, 1536, .inl f_ad)), (a_cn, .inl (G.2 1, 2048, .inr (.inl z28))), (a_nx, .inl (G.2 1, 2048, .inr (.inl z26)))]) [0, 1, 2, 4, 3] rfl
                              have hDc := hD.sub (ws' := [(a_th, .inr (7, [.ref a_h, .ref a_k, .ref a_ba, .ref a_ad, .int e_fu, .ref a_cn, .ref a_nx, .ref a_hp, .ref a_hl, .ref a_lv])), (a_ba, .inl (G.2 1, 24, .inr (.inl f_ba))), (a_ad, .inl (G.2 0, 1536, .inl f_ad)), (a_cn, .inl (G.2 1, 2048, .inr (.inl z28))), (a_nx, .inl (G.2 1, 2048, .inr (.inl z26)))]) [0, 1, 2, 4, 3] (by decide) rfl
                              have hFc := va_free (wc := [(a_th, .inr (7, [.ref a_h, .ref a_k, .ref a_ba, .ref a_ad, .int e_fu, .ref a_cn, .ref a_nx, .ref a_hp, .ref a_hl, .ref a_lv])), (a_ba, .inl (G.2 1, 24, .inr (.inl f_ba))), (a_ad, .inl (G.2 0, 1536, .inl f_ad)), (a_cn, .inl (G.2 1, 2048, .inr (.inl z28))), (a_nx, .inl (G.2 1, 2048, .inr (.inl z26)))]) hD hS hA [0, 1, 2, 4, 3] rfl
                              refine va_callv (va_runV (As := [.int 13]) (rest := []) ⟨hx, hb, hml, hown, hts⟩ (th_step l G a_th a_ba a_ad a_cn a_nx a_h a_k a_hp a_hl a_lv H.size e_fu 13 f_ba f_ad z28 z26 ⟨by decide, by decide⟩ (e_tk)) (cwV 1 hts gV_X7_102 rfl rfl rfl hv_X7_stepTo ⟨Nat.le_of_ble_eq_true rfl, Nat.le_of_ble_eq_true rfl⟩) (g5_preV hPc hK hDc hN hT hS hFc (ci := 7) (q0 := 0) rfl rfl) rfl rfl hl.1 rfl (lv_room (Nat.le_of_ble_eq_true rfl)) dX7_countRows_72 ⟨Nat.le_of_ble_eq_true rfl, Nat.le_of_ble_eq_true rfl⟩) hS (fun q _ h => hFc q h) hFc (fun u t H1 locs ht hvm hw hB hz1 hk1 hS => ?_)
                              obtain ⟨hP1, hD1⟩ := hB
                              rw [ht] at hP1
                              obtain ⟨z30, rfl⟩ := hw
                              obtain ⟨hP, hD⟩ := va_join (wr := []) (w1 := [(a_th, .inr (7, [.ref a_h, .ref a_k, .ref a_ba, .ref a_ad, .int e_fu, .ref a_nx, .ref a_cn, .ref a_hp, .ref a_hl, .ref a_lv])), (a_ba, .inl (G.2 1, 24, .inr (.inl f_ba))), (a_ad, .inl (G.2 0, 1536, .inl f_ad)), (a_cn, .inl (G.2 1, 2048, .inr (.inl z28))), (a_nx, .inl (G.2 1, 2048, .inr (.inl z30)))]) hP hD [0, 1, 2, 4, 3] [] rfl rfl (by decide) (by decide) hk1 hFc hP1 hD1
                              generalize H1 = H at hP hS ⊢
                              have hP : va_P G.1 vwCl [(a_th, .inr (7, [.ref a_h, .ref a_k, .ref a_ba, .ref a_ad, .int e_fu, .ref a_nx, .ref a_cn, .ref a_hp, .ref a_hl, .ref a_lv])), (a_ba, .inl (G.2 1, 24, .inr (.inl f_ba))), (a_ad, .inl (G.2 0, 1536, .inl f_ad)), (a_cn, .inl (G.2 1, 2048, .inr (.inl z28))), (a_nx, .inl (G.2 1, 2048, .inr (.inl z30)))] H := hP
                              have hD : va_D A [(a_th, .inr (7, [.ref a_h, .ref a_k, .ref a_ba, .ref a_ad, .int e_fu, .ref a_nx, .ref a_cn, .ref a_hp, .ref a_hl, .ref a_lv])), (a_ba, .inl (G.2 1, 24, .inr (.inl f_ba))), (a_ad, .inl (G.2 0, 1536, .inl f_ad)), (a_cn, .inl (G.2 1, 2048, .inr (.inl z28))), (a_nx, .inl (G.2 1, 2048, .inr (.inl z30)))] := hD
                              refine lv_iinc (v := 14) (lv' := [(2, .int 14), (1, .int (e_fu + 1)), (0, .ref a_th)]) hx hb dX7_countRows_75 hl (k := 0) rfl (by decide) (by decide) rfl (fun ls hl => ?_)
                              refine lv_goto (tgt := 64) hx hb dX7_countRows_78 (by decide) ?_
                              refine lv_iload_n hx hb dX7_countRows_64 rfl (lv_at hl 0 rfl) ?_
                              refine lv_bipush (v := 24) hx hb dX7_countRows_65 (by decide) ?_
                              refine lv_icmp_ge (tgt := 81) hx hb dX7_countRows_67 (by decide) (fun c_31 => ?_) (fun c_31 => ?_)
                              ·
                                exact absurd c_31 (by decide)
                              ·
                                refine lv_aload_n hx hb dX7_countRows_70 rfl (lv_at hl 2 rfl) ?_
                                refine lv_iload_n hx hb dX7_countRows_71 rfl (lv_at hl 0 rfl) ?_
                                have hPc := hP.sub (ws' := [(a_th, .inr (7, [.ref a_h, .ref a_k, .ref a_ba, .ref a_ad, .int e_fu, .ref a_nx, .ref a_cn, .ref a_hp, .ref a_hl, .ref a_lv])), (a_ba, .inl (G.2 1, 24, .inr (.inl f_ba))), (a_ad, .inl (G.2 0, 1536, .inl f_ad)), (a_nx, .inl (G.2 1, 2048, .inr (.inl z30))), (a_cn, .inl (G.2 1, 2048, .inr (.inl z28)))]) [0, 1, 2, 4, 3] rfl
                                have hDc := hD.sub (ws' := [(a_th, .inr (7, [.ref a_h, .ref a_k, .ref a_ba, .ref a_ad, .int e_fu, .ref a_nx, .ref a_cn, .ref a_hp, .ref a_hl, .ref a_lv])), (a_ba, .inl (G.2 1, 24, .inr (.inl f_ba))), (a_ad, .inl (G.2 0, 1536, .inl f_ad)), (a_nx, .inl (G.2 1, 2048, .inr (.inl z30))), (a_cn, .inl (G.2 1, 2048, .inr (.inl z28)))]) [0, 1, 2, 4, 3] (by decide) rfl
                                have hFc := va_free (wc := [(a_th, .inr (7, [.ref a_h, .ref a_k, .ref a_ba, .ref a_ad, .int e_fu, .ref a_nx, .ref a_cn, .ref a_hp, .ref a_hl, .ref a_lv])), (a_ba, .inl (G.2 1, 24, .inr (.inl f_ba))), (a_ad, .inl (G.2 0, 1536, .inl f_ad)), (a_nx, .inl (G.2 1, 2048, .inr (.inl z30))), (a_cn, .inl (G.2 1, 2048, .inr (.inl z28)))]) hD hS hA [0, 1, 2, 4, 3] rfl
                                refine va_callv (va_runV (As := [.int 14]) (rest := []) ⟨hx, hb, hml, hown, hts⟩ (th_step l G a_th a_ba a_ad a_nx a_cn a_h a_k a_hp a_hl a_lv H.size e_fu 14 f_ba f_ad z30 z28 ⟨by decide, by decide⟩ (e_tk)) (cwV 1 hts gV_X7_102 rfl rfl rfl hv_X7_stepTo ⟨Nat.le_of_ble_eq_true rfl, Nat.le_of_ble_eq_true rfl⟩) (g5_preV hPc hK hDc hN hT hS hFc (ci := 7) (q0 := 0) rfl rfl) rfl rfl hl.1 rfl (lv_room (Nat.le_of_ble_eq_true rfl)) dX7_countRows_72 ⟨Nat.le_of_ble_eq_true rfl, Nat.le_of_ble_eq_true rfl⟩) hS (fun q _ h => hFc q h) hFc (fun u t H1 locs ht hvm hw hB hz1 hk1 hS => ?_)
                                obtain ⟨hP1, hD1⟩ := hB
                                rw [ht] at hP1
                                obtain ⟨z32, rfl⟩ := hw
                                obtain ⟨hP, hD⟩ := va_join (wr := []) (w1 := [(a_th, .inr (7, [.ref a_h, .ref a_k, .ref a_ba, .ref a_ad, .int e_fu, .ref a_cn, .ref a_nx, .ref a_hp, .ref a_hl, .ref a_lv])), (a_ba, .inl (G.2 1, 24, .inr (.inl f_ba))), (a_ad, .inl (G.2 0, 1536, .inl f_ad)), (a_nx, .inl (G.2 1, 2048, .inr (.inl z30))), (a_cn, .inl (G.2 1, 2048, .inr (.inl z32)))]) hP hD [0, 1, 2, 4, 3] [] rfl rfl (by decide) (by decide) hk1 hFc hP1 hD1
                                generalize H1 = H at hP hS ⊢
                                have hP : va_P G.1 vwCl [(a_th, .inr (7, [.ref a_h, .ref a_k, .ref a_ba, .ref a_ad, .int e_fu, .ref a_cn, .ref a_nx, .ref a_hp, .ref a_hl, .ref a_lv])), (a_ba, .inl (G.2 1, 24, .inr (.inl f_ba))), (a_ad, .inl (G.2 0, 1536, .inl f_ad)), (a_nx, .inl (G.2 1, 2048, .inr (.inl z30))), (a_cn, .inl (G.2 1, 2048, .inr (.inl z32)))] H := hP
                                have hD : va_D A [(a_th, .inr (7, [.ref a_h, .ref a_k, .ref a_ba, .ref a_ad, .int e_fu, .ref a_cn, .ref a_nx, .ref a_hp, .ref a_hl, .ref a_lv])), (a_ba, .inl (G.2 1, 24, .inr (.inl f_ba))), (a_ad, .inl (G.2 0, 1536, .inl f_ad)), (a_nx, .inl (G.2 1, 2048, .inr (.inl z30))), (a_cn, .inl (G.2 1, 2048, .inr (.inl z32)))] := hD
                                refine lv_iinc (v := 15) (lv' := [(2, .int 15), (1, .int (e_fu + 1)), (0, .ref a_th)]) hx hb dX7_countRows_75 hl (k := 0) rfl (by decide) (by decide) rfl (fun ls hl => ?_)
                                refine lv_goto (tgt := 64) hx hb dX7_countRows_78 (by decide) ?_
                                refine lv_iload_n hx hb dX7_countRows_64 rfl (lv_at hl 0 rfl) ?_
                                refine lv_bipush (v := 24) hx hb dX7_countRows_65 (by decide) ?_
                                refine lv_icmp_ge (tgt := 81) hx hb dX7_countRows_67 (by decide) (fun c_33 => ?_) (fun c_33 => ?_)
                                ·
                                  exact absurd c_33 (by decide)
                                ·
                                  refine lv_aload_n hx hb dX7_countRows_70 rfl (lv_at hl 2 rfl) ?_
                                  refine lv_iload_n hx hb dX7_countRows_71 rfl (lv_at hl 0 rfl) ?_
                                  have hPc := hP.sub (ws' := [(a_th, .inr (7, [.ref a_h, .ref a_k, .ref a_ba, .ref a_ad, .int e_fu, .ref a_cn, .ref a_nx, .ref a_hp, .ref a_hl, .ref a_lv])), (a_ba, .inl (G.2 1, 24, .inr (.inl f_ba))), (a_ad, .inl (G.2 0, 1536, .inl f_ad)), (a_cn, .inl (G.2 1, 2048, .inr (.inl z32))), (a_nx, .inl (G.2 1, 2048, .inr (.inl z30)))]) [0, 1, 2, 4, 3] rfl
                                  have hDc := hD.sub (ws' := [(a_th, .inr (7, [.ref a_h, .ref a_k, .ref a_ba, .ref a_ad, .int e_fu, .ref a_cn, .ref a_nx, .ref a_hp, .ref a_hl, .ref a_lv])), (a_ba, .inl (G.2 1, 24, .inr (.inl f_ba))), (a_ad, .inl (G.2 0, 1536, .inl f_ad)), (a_cn, .inl (G.2 1, 2048, .inr (.inl z32))), (a_nx, .inl (G.2 1, 2048, .inr (.inl z30)))]) [0, 1, 2, 4, 3] (by decide) rfl
                                  have hFc := va_free (wc := [(a_th, .inr (7, [.ref a_h, .ref a_k, .ref a_ba, .ref a_ad, .int e_fu, .ref a_cn, .ref a_nx, .ref a_hp, .ref a_hl, .ref a_lv])), (a_ba, .inl (G.2 1, 24, .inr (.inl f_ba))), (a_ad, .inl (G.2 0, 1536, .inl f_ad)), (a_cn, .inl (G.2 1, 2048, .inr (.inl z32))), (a_nx, .inl (G.2 1, 2048, .inr (.inl z30)))]) hD hS hA [0, 1, 2, 4, 3] rfl
                                  refine va_callv (va_runV (As := [.int 15]) (rest := []) ⟨hx, hb, hml, hown, hts⟩ (th_step l G a_th a_ba a_ad a_cn a_nx a_h a_k a_hp a_hl a_lv H.size e_fu 15 f_ba f_ad z32 z30 ⟨by decide, by decide⟩ (e_tk)) (cwV 1 hts gV_X7_102 rfl rfl rfl hv_X7_stepTo ⟨Nat.le_of_ble_eq_true rfl, Nat.le_of_ble_eq_true rfl⟩) (g5_preV hPc hK hDc hN hT hS hFc (ci := 7) (q0 := 0) rfl rfl) rfl rfl hl.1 rfl (lv_room (Nat.le_of_ble_eq_true rfl)) dX7_countRows_72 ⟨Nat.le_of_ble_eq_true rfl, Nat.le_of_ble_eq_true rfl⟩) hS (fun q _ h => hFc q h) hFc (fun u t H1 locs ht hvm hw hB hz1 hk1 hS => ?_)
                                  obtain ⟨hP1, hD1⟩ := hB
                                  rw [ht] at hP1
                                  obtain ⟨z34, rfl⟩ := hw
                                  obtain ⟨hP, hD⟩ := va_join (wr := []) (w1 := [(a_th, .inr (7, [.ref a_h, .ref a_k, .ref a_ba, .ref a_ad, .int e_fu, .ref a_nx, .ref a_cn, .ref a_hp, .ref a_hl, .ref a_lv])), (a_ba, .inl (G.2 1, 24, .inr (.inl f_ba))), (a_ad, .inl (G.2 0, 1536, .inl f_ad)), (a_cn, .inl (G.2 1, 2048, .inr (.inl z32))), (a_nx, .inl (G.2 1, 2048, .inr (.inl z34)))]) hP hD [0, 1, 2, 4, 3] [] rfl rfl (by decide) (by decide) hk1 hFc hP1 hD1
                                  generalize H1 = H at hP hS ⊢
                                  have hP : va_P G.1 vwCl [(a_th, .inr (7, [.ref a_h, .ref a_k, .ref a_ba, .ref a_ad, .int e_fu, .ref a_nx, .ref a_cn, .ref a_hp, .ref a_hl, .ref a_lv])), (a_ba, .inl (G.2 1, 24, .inr (.inl f_ba))), (a_ad, .inl (G.2 0, 1536, .inl f_ad)), (a_cn, .inl (G.2 1, 2048, .inr (.inl z32))), (a_nx, .inl (G.2 1, 2048, .inr (.inl z34)))] H := hP
                                  have hD : va_D A [(a_th, .inr (7, [.ref a_h, .ref a_k, .ref a_ba, .ref a_ad, .int e_fu, .ref a_nx, .ref a_cn, .ref a_hp, .ref a_hl, .ref a_lv])), (a_ba, .inl (G.2 1, 24, .inr (.inl f_ba))), (a_ad, .inl (G.2 0, 1536, .inl f_ad)), (a_cn, .inl (G.2 1, 2048, .inr (.inl z32))), (a_nx, .inl (G.2 1, 2048, .inr (.inl z34)))] := hD
                                  refine lv_iinc (v := 16) (lv' := [(2, .int 16), (1, .int (e_fu + 1)), (0, .ref a_th)]) hx hb dX7_countRows_75 hl (k := 0) rfl (by decide) (by decide) rfl (fun ls hl => ?_)
                                  refine lv_goto (tgt := 64) hx hb dX7_countRows_78 (by decide) ?_
                                  refine lv_iload_n hx hb dX7_countRows_64 rfl (lv_at hl 0 rfl) ?_
                                  refine lv_bipush (v := 24) hx hb dX7_countRows_65 (by decide) ?_
                                  refine lv_icmp_ge (tgt := 81) hx hb dX7_countRows_67 (by decide) (fun c_35 => ?_) (fun c_35 => ?_)
                                  ·
                                    exact absurd c_35 (by decide)
                                  ·
                                    refine lv_aload_n hx hb dX7_countRows_70 rfl (lv_at hl 2 rfl) ?_
                                    refine lv_iload_n hx hb dX7_countRows_71 rfl (lv_at hl 0 rfl) ?_
                                    have hPc := hP.sub (ws' := [(a_th, .inr (7, [.ref a_h, .ref a_k, .ref a_ba, .ref a_ad, .int e_fu, .ref a_nx, .ref a_cn, .ref a_hp, .ref a_hl, .ref a_lv])), (a_ba, .inl (G.2 1, 24, .inr (.inl f_ba))), (a_ad, .inl (G.2 0, 1536, .inl f_ad)), (a_nx, .inl (G.2 1, 2048, .inr (.inl z34))), (a_cn, .inl (G.2 1, 2048, .inr (.inl z32)))]) [0, 1, 2, 4, 3] rfl
                                    have hDc := hD.sub (ws' := [(a_th, .inr (7, [.ref a_h, .ref a_k, .ref a_ba, .ref a_ad, .int e_fu, .ref a_nx, .ref a_cn, .ref a_hp, .ref a_hl, .ref a_lv])), (a_ba, .inl (G.2 1, 24, .inr (.inl f_ba))), (a_ad, .inl (G.2 0, 1536, .inl f_ad)), (a_nx, .inl (G.2 1, 2048, .inr (.inl z34))), (a_cn, .inl (G.2 1, 2048, .inr (.inl z32)))]) [0, 1, 2, 4, 3] (by decide) rfl
                                    have hFc := va_free (wc := [(a_th, .inr (7, [.ref a_h, .ref a_k, .ref a_ba, .ref a_ad, .int e_fu, .ref a_nx, .ref a_cn, .ref a_hp, .ref a_hl, .ref a_lv])), (a_ba, .inl (G.2 1, 24, .inr (.inl f_ba))), (a_ad, .inl (G.2 0, 1536, .inl f_ad)), (a_nx, .inl (G.2 1, 2048, .inr (.inl z34))), (a_cn, .inl (G.2 1, 2048, .inr (.inl z32)))]) hD hS hA [0, 1, 2, 4, 3] rfl
                                    refine va_callv (va_runV (As := [.int 16]) (rest := []) ⟨hx, hb, hml, hown, hts⟩ (th_step l G a_th a_ba a_ad a_nx a_cn a_h a_k a_hp a_hl a_lv H.size e_fu 16 f_ba f_ad z34 z32 ⟨by decide, by decide⟩ (e_tk)) (cwV 1 hts gV_X7_102 rfl rfl rfl hv_X7_stepTo ⟨Nat.le_of_ble_eq_true rfl, Nat.le_of_ble_eq_true rfl⟩) (g5_preV hPc hK hDc hN hT hS hFc (ci := 7) (q0 := 0) rfl rfl) rfl rfl hl.1 rfl (lv_room (Nat.le_of_ble_eq_true rfl)) dX7_countRows_72 ⟨Nat.le_of_ble_eq_true rfl, Nat.le_of_ble_eq_true rfl⟩) hS (fun q _ h => hFc q h) hFc (fun u t H1 locs ht hvm hw hB hz1 hk1 hS => ?_)
                                    obtain ⟨hP1, hD1⟩ := hB
                                    rw [ht] at hP1
                                    obtain ⟨z36, rfl⟩ := hw
                                    obtain ⟨hP, hD⟩ := va_join (wr := []) (w1 := [(a_th, .inr (7, [.ref a_h, .ref a_k, .ref a_ba, .ref a_ad, .int e_fu, .ref a_cn, .ref a_nx, .ref a_hp, .ref a_hl, .ref a_lv])), (a_ba, .inl (G.2 1, 24, .inr (.inl f_ba))), (a_ad, .inl (G.2 0, 1536, .inl f_ad)), (a_nx, .inl (G.2 1, 2048, .inr (.inl z34))), (a_cn, .inl (G.2 1, 2048, .inr (.inl z36)))]) hP hD [0, 1, 2, 4, 3] [] rfl rfl (by decide) (by decide) hk1 hFc hP1 hD1
                                    generalize H1 = H at hP hS ⊢
                                    have hP : va_P G.1 vwCl [(a_th, .inr (7, [.ref a_h, .ref a_k, .ref a_ba, .ref a_ad, .int e_fu, .ref a_cn, .ref a_nx, .ref a_hp, .ref a_hl, .ref a_lv])), (a_ba, .inl (G.2 1, 24, .inr (.inl f_ba))), (a_ad, .inl (G.2 0, 1536, .inl f_ad)), (a_nx, .inl (G.2 1, 2048, .inr (.inl z34))), (a_cn, .inl (G.2 1, 2048, .inr (.inl z36)))] H := hP
                                    have hD : va_D A [(a_th, .inr (7, [.ref a_h, .ref a_k, .ref a_ba, .ref a_ad, .int e_fu, .ref a_cn, .ref a_nx, .ref a_hp, .ref a_hl, .ref a_lv])), (a_ba, .inl (G.2 1, 24, .inr (.inl f_ba))), (a_ad, .inl (G.2 0, 1536, .inl f_ad)), (a_nx, .inl (G.2 1, 2048, .inr (.inl z34))), (a_cn, .inl (G.2 1, 2048, .inr (.inl z36)))] := hD
                                    refine lv_iinc (v := 17) (lv' := [(2, .int 17), (1, .int (e_fu + 1)), (0, .ref a_th)]) hx hb dX7_countRows_75 hl (k := 0) rfl (by decide) (by decide) rfl (fun ls hl => ?_)
                                    refine lv_goto (tgt := 64) hx hb dX7_countRows_78 (by decide) ?_
                                    refine lv_iload_n hx hb dX7_countRows_64 rfl (lv_at hl 0 rfl) ?_
                                    refine lv_bipush (v := 24) hx hb dX7_countRows_65 (by decide) ?_
                                    refine lv_icmp_ge (tgt := 81) hx hb dX7_countRows_67 (by decide) (fun c_37 => ?_) (fun c_37 => ?_)
                                    ·
                                      exact absurd c_37 (by decide)
                                    ·
                                      refine lv_aload_n hx hb dX7_countRows_70 rfl (lv_at hl 2 rfl) ?_
                                      refine lv_iload_n hx hb dX7_countRows_71 rfl (lv_at hl 0 rfl) ?_
                                      have hPc := hP.sub (ws' := [(a_th, .inr (7, [.ref a_h, .ref a_k, .ref a_ba, .ref a_ad, .int e_fu, .ref a_cn, .ref a_nx, .ref a_hp, .ref a_hl, .ref a_lv])), (a_ba, .inl (G.2 1, 24, .inr (.inl f_ba))), (a_ad, .inl (G.2 0, 1536, .inl f_ad)), (a_cn, .inl (G.2 1, 2048, .inr (.inl z36))), (a_nx, .inl (G.2 1, 2048, .inr (.inl z34)))]) [0, 1, 2, 4, 3] rfl
                                      have hDc := hD.sub (ws' := [(a_th, .inr (7, [.ref a_h, .ref a_k, .ref a_ba, .ref a_ad, .int e_fu, .ref a_cn, .ref a_nx, .ref a_hp, .ref a_hl, .ref a_lv])), (a_ba, .inl (G.2 1, 24, .inr (.inl f_ba))), (a_ad, .inl (G.2 0, 1536, .inl f_ad)), (a_cn, .inl (G.2 1, 2048, .inr (.inl z36))), (a_nx, .inl (G.2 1, 2048, .inr (.inl z34)))]) [0, 1, 2, 4, 3] (by decide) rfl
                                      have hFc := va_free (wc := [(a_th, .inr (7, [.ref a_h, .ref a_k, .ref a_ba, .ref a_ad, .int e_fu, .ref a_cn, .ref a_nx, .ref a_hp, .ref a_hl, .ref a_lv])), (a_ba, .inl (G.2 1, 24, .inr (.inl f_ba))), (a_ad, .inl (G.2 0, 1536, .inl f_ad)), (a_cn, .inl (G.2 1, 2048, .inr (.inl z36))), (a_nx, .inl (G.2 1, 2048, .inr (.inl z34)))]) hD hS hA [0, 1, 2, 4, 3] rfl
                                      refine va_callv (va_runV (As := [.int 17]) (rest := []) ⟨hx, hb, hml, hown, hts⟩ (th_step l G a_th a_ba a_ad a_cn a_nx a_h a_k a_hp a_hl a_lv H.size e_fu 17 f_ba f_ad z36 z34 ⟨by decide, by decide⟩ (e_tk)) (cwV 1 hts gV_X7_102 rfl rfl rfl hv_X7_stepTo ⟨Nat.le_of_ble_eq_true rfl, Nat.le_of_ble_eq_true rfl⟩) (g5_preV hPc hK hDc hN hT hS hFc (ci := 7) (q0 := 0) rfl rfl) rfl rfl hl.1 rfl (lv_room (Nat.le_of_ble_eq_true rfl)) dX7_countRows_72 ⟨Nat.le_of_ble_eq_true rfl, Nat.le_of_ble_eq_true rfl⟩) hS (fun q _ h => hFc q h) hFc (fun u t H1 locs ht hvm hw hB hz1 hk1 hS => ?_)
                                      obtain ⟨hP1, hD1⟩ := hB
                                      rw [ht] at hP1
                                      obtain ⟨z38, rfl⟩ := hw
                                      obtain ⟨hP, hD⟩ := va_join (wr := []) (w1 := [(a_th, .inr (7, [.ref a_h, .ref a_k, .ref a_ba, .ref a_ad, .int e_fu, .ref a_nx, .ref a_cn, .ref a_hp, .ref a_hl, .ref a_lv])), (a_ba, .inl (G.2 1, 24, .inr (.inl f_ba))), (a_ad, .inl (G.2 0, 1536, .inl f_ad)), (a_cn, .inl (G.2 1, 2048, .inr (.inl z36))), (a_nx, .inl (G.2 1, 2048, .inr (.inl z38)))]) hP hD [0, 1, 2, 4, 3] [] rfl rfl (by decide) (by decide) hk1 hFc hP1 hD1
                                      generalize H1 = H at hP hS ⊢
                                      have hP : va_P G.1 vwCl [(a_th, .inr (7, [.ref a_h, .ref a_k, .ref a_ba, .ref a_ad, .int e_fu, .ref a_nx, .ref a_cn, .ref a_hp, .ref a_hl, .ref a_lv])), (a_ba, .inl (G.2 1, 24, .inr (.inl f_ba))), (a_ad, .inl (G.2 0, 1536, .inl f_ad)), (a_cn, .inl (G.2 1, 2048, .inr (.inl z36))), (a_nx, .inl (G.2 1, 2048, .inr (.inl z38)))] H := hP
                                      have hD : va_D A [(a_th, .inr (7, [.ref a_h, .ref a_k, .ref a_ba, .ref a_ad, .int e_fu, .ref a_nx, .ref a_cn, .ref a_hp, .ref a_hl, .ref a_lv])), (a_ba, .inl (G.2 1, 24, .inr (.inl f_ba))), (a_ad, .inl (G.2 0, 1536, .inl f_ad)), (a_cn, .inl (G.2 1, 2048, .inr (.inl z36))), (a_nx, .inl (G.2 1, 2048, .inr (.inl z38)))] := hD
                                      refine lv_iinc (v := 18) (lv' := [(2, .int 18), (1, .int (e_fu + 1)), (0, .ref a_th)]) hx hb dX7_countRows_75 hl (k := 0) rfl (by decide) (by decide) rfl (fun ls hl => ?_)
                                      refine lv_goto (tgt := 64) hx hb dX7_countRows_78 (by decide) ?_
                                      refine lv_iload_n hx hb dX7_countRows_64 rfl (lv_at hl 0 rfl) ?_
                                      refine lv_bipush (v := 24) hx hb dX7_countRows_65 (by decide) ?_
                                      refine lv_icmp_ge (tgt := 81) hx hb dX7_countRows_67 (by decide) (fun c_39 => ?_) (fun c_39 => ?_)
                                      ·
                                        exact absurd c_39 (by decide)
                                      ·
                                        refine lv_aload_n hx hb dX7_countRows_70 rfl (lv_at hl 2 rfl) ?_
                                        refine lv_iload_n hx hb dX7_countRows_71 rfl (lv_at hl 0 rfl) ?_
                                        have hPc := hP.sub (ws' := [(a_th, .inr (7, [.ref a_h, .ref a_k, .ref a_ba, .ref a_ad, .int e_fu, .ref a_nx, .ref a_cn, .ref a_hp, .ref a_hl, .ref a_lv])), (a_ba, .inl (G.2 1, 24, .inr (.inl f_ba))), (a_ad, .inl (G.2 0, 1536, .inl f_ad)), (a_nx, .inl (G.2 1, 2048, .inr (.inl z38))), (a_cn, .inl (G.2 1, 2048, .inr (.inl z36)))]) [0, 1, 2, 4, 3] rfl
                                        have hDc := hD.sub (ws' := [(a_th, .inr (7, [.ref a_h, .ref a_k, .ref a_ba, .ref a_ad, .int e_fu, .ref a_nx, .ref a_cn, .ref a_hp, .ref a_hl, .ref a_lv])), (a_ba, .inl (G.2 1, 24, .inr (.inl f_ba))), (a_ad, .inl (G.2 0, 1536, .inl f_ad)), (a_nx, .inl (G.2 1, 2048, .inr (.inl z38))), (a_cn, .inl (G.2 1, 2048, .inr (.inl z36)))]) [0, 1, 2, 4, 3] (by decide) rfl
                                        have hFc := va_free (wc := [(a_th, .inr (7, [.ref a_h, .ref a_k, .ref a_ba, .ref a_ad, .int e_fu, .ref a_nx, .ref a_cn, .ref a_hp, .ref a_hl, .ref a_lv])), (a_ba, .inl (G.2 1, 24, .inr (.inl f_ba))), (a_ad, .inl (G.2 0, 1536, .inl f_ad)), (a_nx, .inl (G.2 1, 2048, .inr (.inl z38))), (a_cn, .inl (G.2 1, 2048, .inr (.inl z36)))]) hD hS hA [0, 1, 2, 4, 3] rfl
                                        refine va_callv (va_runV (As := [.int 18]) (rest := []) ⟨hx, hb, hml, hown, hts⟩ (th_step l G a_th a_ba a_ad a_nx a_cn a_h a_k a_hp a_hl a_lv H.size e_fu 18 f_ba f_ad z38 z36 ⟨by decide, by decide⟩ (e_tk)) (cwV 1 hts gV_X7_102 rfl rfl rfl hv_X7_stepTo ⟨Nat.le_of_ble_eq_true rfl, Nat.le_of_ble_eq_true rfl⟩) (g5_preV hPc hK hDc hN hT hS hFc (ci := 7) (q0 := 0) rfl rfl) rfl rfl hl.1 rfl (lv_room (Nat.le_of_ble_eq_true rfl)) dX7_countRows_72 ⟨Nat.le_of_ble_eq_true rfl, Nat.le_of_ble_eq_true rfl⟩) hS (fun q _ h => hFc q h) hFc (fun u t H1 locs ht hvm hw hB hz1 hk1 hS => ?_)
                                        obtain ⟨hP1, hD1⟩ := hB
                                        rw [ht] at hP1
                                        obtain ⟨z40, rfl⟩ := hw
                                        obtain ⟨hP, hD⟩ := va_join (wr := []) (w1 := [(a_th, .inr (7, [.ref a_h, .ref a_k, .ref a_ba, .ref a_ad, .int e_fu, .ref a_cn, .ref a_nx, .ref a_hp, .ref a_hl, .ref a_lv])), (a_ba, .inl (G.2 1, 24, .inr (.inl f_ba))), (a_ad, .inl (G.2 0, 1536, .inl f_ad)), (a_nx, .inl (G.2 1, 2048, .inr (.inl z38))), (a_cn, .inl (G.2 1, 2048, .inr (.inl z40)))]) hP hD [0, 1, 2, 4, 3] [] rfl rfl (by decide) (by decide) hk1 hFc hP1 hD1
                                        generalize H1 = H at hP hS ⊢
                                        have hP : va_P G.1 vwCl [(a_th, .inr (7, [.ref a_h, .ref a_k, .ref a_ba, .ref a_ad, .int e_fu, .ref a_cn, .ref a_nx, .ref a_hp, .ref a_hl, .ref a_lv])), (a_ba, .inl (G.2 1, 24, .inr (.inl f_ba))), (a_ad, .inl (G.2 0, 1536, .inl f_ad)), (a_nx, .inl (G.2 1, 2048, .inr (.inl z38))), (a_cn, .inl (G.2 1, 2048, .inr (.inl z40)))] H := hP
                                        have hD : va_D A [(a_th, .inr (7, [.ref a_h, .ref a_k, .ref a_ba, .ref a_ad, .int e_fu, .ref a_cn, .ref a_nx, .ref a_hp, .ref a_hl, .ref a_lv])), (a_ba, .inl (G.2 1, 24, .inr (.inl f_ba))), (a_ad, .inl (G.2 0, 1536, .inl f_ad)), (a_nx, .inl (G.2 1, 2048, .inr (.inl z38))), (a_cn, .inl (G.2 1, 2048, .inr (.inl z40)))] := hD
                                        refine lv_iinc (v := 19) (lv' := [(2, .int 19), (1, .int (e_fu + 1)), (0, .ref a_th)]) hx hb dX7_countRows_75 hl (k := 0) rfl (by decide) (by decide) rfl (fun ls hl => ?_)
                                        refine lv_goto (tgt := 64) hx hb dX7_countRows_78 (by decide) ?_
                                        refine lv_iload_n hx hb dX7_countRows_64 rfl (lv_at hl 0 rfl) ?_
                                        refine lv_bipush (v := 24) hx hb dX7_countRows_65 (by decide) ?_
                                        refine lv_icmp_ge (tgt := 81) hx hb dX7_countRows_67 (by decide) (fun c_41 => ?_) (fun c_41 => ?_)
                                        ·
                                          exact absurd c_41 (by decide)
                                        ·
                                          refine lv_aload_n hx hb dX7_countRows_70 rfl (lv_at hl 2 rfl) ?_
                                          refine lv_iload_n hx hb dX7_countRows_71 rfl (lv_at hl 0 rfl) ?_
                                          have hPc := hP.sub (ws' := [(a_th, .inr (7, [.ref a_h, .ref a_k, .ref a_ba, .ref a_ad, .int e_fu, .ref a_cn, .ref a_nx, .ref a_hp, .ref a_hl, .ref a_lv])), (a_ba, .inl (G.2 1, 24, .inr (.inl f_ba))), (a_ad, .inl (G.2 0, 1536, .inl f_ad)), (a_cn, .inl (G.2 1, 2048, .inr (.inl z40))), (a_nx, .inl (G.2 1, 2048, .inr (.inl z38)))]) [0, 1, 2, 4, 3] rfl
                                          have hDc := hD.sub (ws' := [(a_th, .inr (7, [.ref a_h, .ref a_k, .ref a_ba, .ref a_ad, .int e_fu, .ref a_cn, .ref a_nx, .ref a_hp, .ref a_hl, .ref a_lv])), (a_ba, .inl (G.2 1, 24, .inr (.inl f_ba))), (a_ad, .inl (G.2 0, 1536, .inl f_ad)), (a_cn, .inl (G.2 1, 2048, .inr (.inl z40))), (a_nx, .inl (G.2 1, 2048, .inr (.inl z38)))]) [0, 1, 2, 4, 3] (by decide) rfl
                                          have hFc := va_free (wc := [(a_th, .inr (7, [.ref a_h, .ref a_k, .ref a_ba, .ref a_ad, .int e_fu, .ref a_cn, .ref a_nx, .ref a_hp, .ref a_hl, .ref a_lv])), (a_ba, .inl (G.2 1, 24, .inr (.inl f_ba))), (a_ad, .inl (G.2 0, 1536, .inl f_ad)), (a_cn, .inl (G.2 1, 2048, .inr (.inl z40))), (a_nx, .inl (G.2 1, 2048, .inr (.inl z38)))]) hD hS hA [0, 1, 2, 4, 3] rfl
                                          refine va_callv (va_runV (As := [.int 19]) (rest := []) ⟨hx, hb, hml, hown, hts⟩ (th_step l G a_th a_ba a_ad a_cn a_nx a_h a_k a_hp a_hl a_lv H.size e_fu 19 f_ba f_ad z40 z38 ⟨by decide, by decide⟩ (e_tk)) (cwV 1 hts gV_X7_102 rfl rfl rfl hv_X7_stepTo ⟨Nat.le_of_ble_eq_true rfl, Nat.le_of_ble_eq_true rfl⟩) (g5_preV hPc hK hDc hN hT hS hFc (ci := 7) (q0 := 0) rfl rfl) rfl rfl hl.1 rfl (lv_room (Nat.le_of_ble_eq_true rfl)) dX7_countRows_72 ⟨Nat.le_of_ble_eq_true rfl, Nat.le_of_ble_eq_true rfl⟩) hS (fun q _ h => hFc q h) hFc (fun u t H1 locs ht hvm hw hB hz1 hk1 hS => ?_)
                                          obtain ⟨hP1, hD1⟩ := hB
                                          rw [ht] at hP1
                                          obtain ⟨z42, rfl⟩ := hw
                                          obtain ⟨hP, hD⟩ := va_join (wr := []) (w1 := [(a_th, .inr (7, [.ref a_h, .ref a_k, .ref a_ba, .ref a_ad, .int e_fu, .ref a_nx, .ref a_cn, .ref a_hp, .ref a_hl, .ref a_lv])), (a_ba, .inl (G.2 1, 24, .inr (.inl f_ba))), (a_ad, .inl (G.2 0, 1536, .inl f_ad)), (a_cn, .inl (G.2 1, 2048, .inr (.inl z40))), (a_nx, .inl (G.2 1, 2048, .inr (.inl z42)))]) hP hD [0, 1, 2, 4, 3] [] rfl rfl (by decide) (by decide) hk1 hFc hP1 hD1
                                          generalize H1 = H at hP hS ⊢
                                          have hP : va_P G.1 vwCl [(a_th, .inr (7, [.ref a_h, .ref a_k, .ref a_ba, .ref a_ad, .int e_fu, .ref a_nx, .ref a_cn, .ref a_hp, .ref a_hl, .ref a_lv])), (a_ba, .inl (G.2 1, 24, .inr (.inl f_ba))), (a_ad, .inl (G.2 0, 1536, .inl f_ad)), (a_cn, .inl (G.2 1, 2048, .inr (.inl z40))), (a_nx, .inl (G.2 1, 2048, .inr (.inl z42)))] H := hP
                                          have hD : va_D A [(a_th, .inr (7, [.ref a_h, .ref a_k, .ref a_ba, .ref a_ad, .int e_fu, .ref a_nx, .ref a_cn, .ref a_hp, .ref a_hl, .ref a_lv])), (a_ba, .inl (G.2 1, 24, .inr (.inl f_ba))), (a_ad, .inl (G.2 0, 1536, .inl f_ad)), (a_cn, .inl (G.2 1, 2048, .inr (.inl z40))), (a_nx, .inl (G.2 1, 2048, .inr (.inl z42)))] := hD
                                          refine lv_iinc (v := 20) (lv' := [(2, .int 20), (1, .int (e_fu + 1)), (0, .ref a_th)]) hx hb dX7_countRows_75 hl (k := 0) rfl (by decide) (by decide) rfl (fun ls hl => ?_)
                                          refine lv_goto (tgt := 64) hx hb dX7_countRows_78 (by decide) ?_
                                          refine lv_iload_n hx hb dX7_countRows_64 rfl (lv_at hl 0 rfl) ?_
                                          refine lv_bipush (v := 24) hx hb dX7_countRows_65 (by decide) ?_
                                          refine lv_icmp_ge (tgt := 81) hx hb dX7_countRows_67 (by decide) (fun c_43 => ?_) (fun c_43 => ?_)
                                          ·
                                            exact absurd c_43 (by decide)
                                          ·
                                            refine lv_aload_n hx hb dX7_countRows_70 rfl (lv_at hl 2 rfl) ?_
                                            refine lv_iload_n hx hb dX7_countRows_71 rfl (lv_at hl 0 rfl) ?_
                                            have hPc := hP.sub (ws' := [(a_th, .inr (7, [.ref a_h, .ref a_k, .ref a_ba, .ref a_ad, .int e_fu, .ref a_nx, .ref a_cn, .ref a_hp, .ref a_hl, .ref a_lv])), (a_ba, .inl (G.2 1, 24, .inr (.inl f_ba))), (a_ad, .inl (G.2 0, 1536, .inl f_ad)), (a_nx, .inl (G.2 1, 2048, .inr (.inl z42))), (a_cn, .inl (G.2 1, 2048, .inr (.inl z40)))]) [0, 1, 2, 4, 3] rfl
                                            have hDc := hD.sub (ws' := [(a_th, .inr (7, [.ref a_h, .ref a_k, .ref a_ba, .ref a_ad, .int e_fu, .ref a_nx, .ref a_cn, .ref a_hp, .ref a_hl, .ref a_lv])), (a_ba, .inl (G.2 1, 24, .inr (.inl f_ba))), (a_ad, .inl (G.2 0, 1536, .inl f_ad)), (a_nx, .inl (G.2 1, 2048, .inr (.inl z42))), (a_cn, .inl (G.2 1, 2048, .inr (.inl z40)))]) [0, 1, 2, 4, 3] (by decide) rfl
                                            have hFc := va_free (wc := [(a_th, .inr (7, [.ref a_h, .ref a_k, .ref a_ba, .ref a_ad, .int e_fu, .ref a_nx, .ref a_cn, .ref a_hp, .ref a_hl, .ref a_lv])), (a_ba, .inl (G.2 1, 24, .inr (.inl f_ba))), (a_ad, .inl (G.2 0, 1536, .inl f_ad)), (a_nx, .inl (G.2 1, 2048, .inr (.inl z42))), (a_cn, .inl (G.2 1, 2048, .inr (.inl z40)))]) hD hS hA [0, 1, 2, 4, 3] rfl
                                            refine va_callv (va_runV (As := [.int 20]) (rest := []) ⟨hx, hb, hml, hown, hts⟩ (th_step l G a_th a_ba a_ad a_nx a_cn a_h a_k a_hp a_hl a_lv H.size e_fu 20 f_ba f_ad z42 z40 ⟨by decide, by decide⟩ (e_tk)) (cwV 1 hts gV_X7_102 rfl rfl rfl hv_X7_stepTo ⟨Nat.le_of_ble_eq_true rfl, Nat.le_of_ble_eq_true rfl⟩) (g5_preV hPc hK hDc hN hT hS hFc (ci := 7) (q0 := 0) rfl rfl) rfl rfl hl.1 rfl (lv_room (Nat.le_of_ble_eq_true rfl)) dX7_countRows_72 ⟨Nat.le_of_ble_eq_true rfl, Nat.le_of_ble_eq_true rfl⟩) hS (fun q _ h => hFc q h) hFc (fun u t H1 locs ht hvm hw hB hz1 hk1 hS => ?_)
                                            obtain ⟨hP1, hD1⟩ := hB
                                            rw [ht] at hP1
                                            obtain ⟨z44, rfl⟩ := hw
                                            obtain ⟨hP, hD⟩ := va_join (wr := []) (w1 := [(a_th, .inr (7, [.ref a_h, .ref a_k, .ref a_ba, .ref a_ad, .int e_fu, .ref a_cn, .ref a_nx, .ref a_hp, .ref a_hl, .ref a_lv])), (a_ba, .inl (G.2 1, 24, .inr (.inl f_ba))), (a_ad, .inl (G.2 0, 1536, .inl f_ad)), (a_nx, .inl (G.2 1, 2048, .inr (.inl z42))), (a_cn, .inl (G.2 1, 2048, .inr (.inl z44)))]) hP hD [0, 1, 2, 4, 3] [] rfl rfl (by decide) (by decide) hk1 hFc hP1 hD1
                                            generalize H1 = H at hP hS ⊢
                                            have hP : va_P G.1 vwCl [(a_th, .inr (7, [.ref a_h, .ref a_k, .ref a_ba, .ref a_ad, .int e_fu, .ref a_cn, .ref a_nx, .ref a_hp, .ref a_hl, .ref a_lv])), (a_ba, .inl (G.2 1, 24, .inr (.inl f_ba))), (a_ad, .inl (G.2 0, 1536, .inl f_ad)), (a_nx, .inl (G.2 1, 2048, .inr (.inl z42))), (a_cn, .inl (G.2 1, 2048, .inr (.inl z44)))] H := hP
                                            have hD : va_D A [(a_th, .inr (7, [.ref a_h, .ref a_k, .ref a_ba, .ref a_ad, .int e_fu, .ref a_cn, .ref a_nx, .ref a_hp, .ref a_hl, .ref a_lv])), (a_ba, .inl (G.2 1, 24, .inr (.inl f_ba))), (a_ad, .inl (G.2 0, 1536, .inl f_ad)), (a_nx, .inl (G.2 1, 2048, .inr (.inl z42))), (a_cn, .inl (G.2 1, 2048, .inr (.inl z44)))] := hD
                                            refine lv_iinc (v := 21) (lv' := [(2, .int 21), (1, .int (e_fu + 1)), (0, .ref a_th)]) hx hb dX7_countRows_75 hl (k := 0) rfl (by decide) (by decide) rfl (fun ls hl => ?_)
                                            refine lv_goto (tgt := 64) hx hb dX7_countRows_78 (by decide) ?_
                                            refine lv_iload_n hx hb dX7_countRows_64 rfl (lv_at hl 0 rfl) ?_
                                            refine lv_bipush (v := 24) hx hb dX7_countRows_65 (by decide) ?_
                                            refine lv_icmp_ge (tgt := 81) hx hb dX7_countRows_67 (by decide) (fun c_45 => ?_) (fun c_45 => ?_)
                                            ·
                                              exact absurd c_45 (by decide)
                                            ·
                                              refine lv_aload_n hx hb dX7_countRows_70 rfl (lv_at hl 2 rfl) ?_
                                              refine lv_iload_n hx hb dX7_countRows_71 rfl (lv_at hl 0 rfl) ?_
                                              have hPc := hP.sub (ws' := [(a_th, .inr (7, [.ref a_h, .ref a_k, .ref a_ba, .ref a_ad, .int e_fu, .ref a_cn, .ref a_nx, .ref a_hp, .ref a_hl, .ref a_lv])), (a_ba, .inl (G.2 1, 24, .inr (.inl f_ba))), (a_ad, .inl (G.2 0, 1536, .inl f_ad)), (a_cn, .inl (G.2 1, 2048, .inr (.inl z44))), (a_nx, .inl (G.2 1, 2048, .inr (.inl z42)))]) [0, 1, 2, 4, 3] rfl
                                              have hDc := hD.sub (ws' := [(a_th, .inr (7, [.ref a_h, .ref a_k, .ref a_ba, .ref a_ad, .int e_fu, .ref a_cn, .ref a_nx, .ref a_hp, .ref a_hl, .ref a_lv])), (a_ba, .inl (G.2 1, 24, .inr (.inl f_ba))), (a_ad, .inl (G.2 0, 1536, .inl f_ad)), (a_cn, .inl (G.2 1, 2048, .inr (.inl z44))), (a_nx, .inl (G.2 1, 2048, .inr (.inl z42)))]) [0, 1, 2, 4, 3] (by decide) rfl
                                              have hFc := va_free (wc := [(a_th, .inr (7, [.ref a_h, .ref a_k, .ref a_ba, .ref a_ad, .int e_fu, .ref a_cn, .ref a_nx, .ref a_hp, .ref a_hl, .ref a_lv])), (a_ba, .inl (G.2 1, 24, .inr (.inl f_ba))), (a_ad, .inl (G.2 0, 1536, .inl f_ad)), (a_cn, .inl (G.2 1, 2048, .inr (.inl z44))), (a_nx, .inl (G.2 1, 2048, .inr (.inl z42)))]) hD hS hA [0, 1, 2, 4, 3] rfl
                                              refine va_callv (va_runV (As := [.int 21]) (rest := []) ⟨hx, hb, hml, hown, hts⟩ (th_step l G a_th a_ba a_ad a_cn a_nx a_h a_k a_hp a_hl a_lv H.size e_fu 21 f_ba f_ad z44 z42 ⟨by decide, by decide⟩ (e_tk)) (cwV 1 hts gV_X7_102 rfl rfl rfl hv_X7_stepTo ⟨Nat.le_of_ble_eq_true rfl, Nat.le_of_ble_eq_true rfl⟩) (g5_preV hPc hK hDc hN hT hS hFc (ci := 7) (q0 := 0) rfl rfl) rfl rfl hl.1 rfl (lv_room (Nat.le_of_ble_eq_true rfl)) dX7_countRows_72 ⟨Nat.le_of_ble_eq_true rfl, Nat.le_of_ble_eq_true rfl⟩) hS (fun q _ h => hFc q h) hFc (fun u t H1 locs ht hvm hw hB hz1 hk1 hS => ?_)
                                              obtain ⟨hP1, hD1⟩ := hB
                                              rw [ht] at hP1
                                              obtain ⟨z46, rfl⟩ := hw
                                              obtain ⟨hP, hD⟩ := va_join (wr := []) (w1 := [(a_th, .inr (7, [.ref a_h, .ref a_k, .ref a_ba, .ref a_ad, .int e_fu, .ref a_nx, .ref a_cn, .ref a_hp, .ref a_hl, .ref a_lv])), (a_ba, .inl (G.2 1, 24, .inr (.inl f_ba))), (a_ad, .inl (G.2 0, 1536, .inl f_ad)), (a_cn, .inl (G.2 1, 2048, .inr (.inl z44))), (a_nx, .inl (G.2 1, 2048, .inr (.inl z46)))]) hP hD [0, 1, 2, 4, 3] [] rfl rfl (by decide) (by decide) hk1 hFc hP1 hD1
                                              generalize H1 = H at hP hS ⊢
                                              have hP : va_P G.1 vwCl [(a_th, .inr (7, [.ref a_h, .ref a_k, .ref a_ba, .ref a_ad, .int e_fu, .ref a_nx, .ref a_cn, .ref a_hp, .ref a_hl, .ref a_lv])), (a_ba, .inl (G.2 1, 24, .inr (.inl f_ba))), (a_ad, .inl (G.2 0, 1536, .inl f_ad)), (a_cn, .inl (G.2 1, 2048, .inr (.inl z44))), (a_nx, .inl (G.2 1, 2048, .inr (.inl z46)))] H := hP
                                              have hD : va_D A [(a_th, .inr (7, [.ref a_h, .ref a_k, .ref a_ba, .ref a_ad, .int e_fu, .ref a_nx, .ref a_cn, .ref a_hp, .ref a_hl, .ref a_lv])), (a_ba, .inl (G.2 1, 24, .inr (.inl f_ba))), (a_ad, .inl (G.2 0, 1536, .inl f_ad)), (a_cn, .inl (G.2 1, 2048, .inr (.inl z44))), (a_nx, .inl (G.2 1, 2048, .inr (.inl z46)))] := hD
                                              refine lv_iinc (v := 22) (lv' := [(2, .int 22), (1, .int (e_fu + 1)), (0, .ref a_th)]) hx hb dX7_countRows_75 hl (k := 0) rfl (by decide) (by decide) rfl (fun ls hl => ?_)
                                              refine lv_goto (tgt := 64) hx hb dX7_countRows_78 (by decide) ?_
                                              refine lv_iload_n hx hb dX7_countRows_64 rfl (lv_at hl 0 rfl) ?_
                                              refine lv_bipush (v := 24) hx hb dX7_countRows_65 (by decide) ?_
                                              refine lv_icmp_ge (tgt := 81) hx hb dX7_countRows_67 (by decide) (fun c_47 => ?_) (fun c_47 => ?_)
                                              ·
                                                exact absurd c_47 (by decide)
                                              ·
                                                refine lv_aload_n hx hb dX7_countRows_70 rfl (lv_at hl 2 rfl) ?_
                                                refine lv_iload_n hx hb dX7_countRows_71 rfl (lv_at hl 0 rfl) ?_
                                                have hPc := hP.sub (ws' := [(a_th, .inr (7, [.ref a_h, .ref a_k, .ref a_ba, .ref a_ad, .int e_fu, .ref a_nx, .ref a_cn, .ref a_hp, .ref a_hl, .ref a_lv])), (a_ba, .inl (G.2 1, 24, .inr (.inl f_ba))), (a_ad, .inl (G.2 0, 1536, .inl f_ad)), (a_nx, .inl (G.2 1, 2048, .inr (.inl z46))), (a_cn, .inl (G.2 1, 2048, .inr (.inl z44)))]) [0, 1, 2, 4, 3] rfl
                                                have hDc := hD.sub (ws' := [(a_th, .inr (7, [.ref a_h, .ref a_k, .ref a_ba, .ref a_ad, .int e_fu, .ref a_nx, .ref a_cn, .ref a_hp, .ref a_hl, .ref a_lv])), (a_ba, .inl (G.2 1, 24, .inr (.inl f_ba))), (a_ad, .inl (G.2 0, 1536, .inl f_ad)), (a_nx, .inl (G.2 1, 2048, .inr (.inl z46))), (a_cn, .inl (G.2 1, 2048, .inr (.inl z44)))]) [0, 1, 2, 4, 3] (by decide) rfl
                                                have hFc := va_free (wc := [(a_th, .inr (7, [.ref a_h, .ref a_k, .ref a_ba, .ref a_ad, .int e_fu, .ref a_nx, .ref a_cn, .ref a_hp, .ref a_hl, .ref a_lv])), (a_ba, .inl (G.2 1, 24, .inr (.inl f_ba))), (a_ad, .inl (G.2 0, 1536, .inl f_ad)), (a_nx, .inl (G.2 1, 2048, .inr (.inl z46))), (a_cn, .inl (G.2 1, 2048, .inr (.inl z44)))]) hD hS hA [0, 1, 2, 4, 3] rfl
                                                refine va_callv (va_runV (As := [.int 22]) (rest := []) ⟨hx, hb, hml, hown, hts⟩ (th_step l G a_th a_ba a_ad a_nx a_cn a_h a_k a_hp a_hl a_lv H.size e_fu 22 f_ba f_ad z46 z44 ⟨by decide, by decide⟩ (e_tk)) (cwV 1 hts gV_X7_102 rfl rfl rfl hv_X7_stepTo ⟨Nat.le_of_ble_eq_true rfl, Nat.le_of_ble_eq_true rfl⟩) (g5_preV hPc hK hDc hN hT hS hFc (ci := 7) (q0 := 0) rfl rfl) rfl rfl hl.1 rfl (lv_room (Nat.le_of_ble_eq_true rfl)) dX7_countRows_72 ⟨Nat.le_of_ble_eq_true rfl, Nat.le_of_ble_eq_true rfl⟩) hS (fun q _ h => hFc q h) hFc (fun u t H1 locs ht hvm hw hB hz1 hk1 hS => ?_)
                                                obtain ⟨hP1, hD1⟩ := hB
                                                rw [ht] at hP1
                                                obtain ⟨z48, rfl⟩ := hw
                                                obtain ⟨hP, hD⟩ := va_join (wr := []) (w1 := [(a_th, .inr (7, [.ref a_h, .ref a_k, .ref a_ba, .ref a_ad, .int e_fu, .ref a_cn, .ref a_nx, .ref a_hp, .ref a_hl, .ref a_lv])), (a_ba, .inl (G.2 1, 24, .inr (.inl f_ba))), (a_ad, .inl (G.2 0, 1536, .inl f_ad)), (a_nx, .inl (G.2 1, 2048, .inr (.inl z46))), (a_cn, .inl (G.2 1, 2048, .inr (.inl z48)))]) hP hD [0, 1, 2, 4, 3] [] rfl rfl (by decide) (by decide) hk1 hFc hP1 hD1
                                                generalize H1 = H at hP hS ⊢
                                                have hP : va_P G.1 vwCl [(a_th, .inr (7, [.ref a_h, .ref a_k, .ref a_ba, .ref a_ad, .int e_fu, .ref a_cn, .ref a_nx, .ref a_hp, .ref a_hl, .ref a_lv])), (a_ba, .inl (G.2 1, 24, .inr (.inl f_ba))), (a_ad, .inl (G.2 0, 1536, .inl f_ad)), (a_nx, .inl (G.2 1, 2048, .inr (.inl z46))), (a_cn, .inl (G.2 1, 2048, .inr (.inl z48)))] H := hP
                                                have hD : va_D A [(a_th, .inr (7, [.ref a_h, .ref a_k, .ref a_ba, .ref a_ad, .int e_fu, .ref a_cn, .ref a_nx, .ref a_hp, .ref a_hl, .ref a_lv])), (a_ba, .inl (G.2 1, 24, .inr (.inl f_ba))), (a_ad, .inl (G.2 0, 1536, .inl f_ad)), (a_nx, .inl (G.2 1, 2048, .inr (.inl z46))), (a_cn, .inl (G.2 1, 2048, .inr (.inl z48)))] := hD
                                                refine lv_iinc (v := 23) (lv' := [(2, .int 23), (1, .int (e_fu + 1)), (0, .ref a_th)]) hx hb dX7_countRows_75 hl (k := 0) rfl (by decide) (by decide) rfl (fun ls hl => ?_)
                                                refine lv_goto (tgt := 64) hx hb dX7_countRows_78 (by decide) ?_
                                                refine lv_iload_n hx hb dX7_countRows_64 rfl (lv_at hl 0 rfl) ?_
                                                refine lv_bipush (v := 24) hx hb dX7_countRows_65 (by decide) ?_
                                                refine lv_icmp_ge (tgt := 81) hx hb dX7_countRows_67 (by decide) (fun c_49 => ?_) (fun c_49 => ?_)
                                                ·
                                                  exact absurd c_49 (by decide)
                                                ·
                                                  refine lv_aload_n hx hb dX7_countRows_70 rfl (lv_at hl 2 rfl) ?_
                                                  refine lv_iload_n hx hb dX7_countRows_71 rfl (lv_at hl 0 rfl) ?_
                                                  have hPc := hP.sub (ws' := [(a_th, .inr (7, [.ref a_h, .ref a_k, .ref a_ba, .ref a_ad, .int e_fu, .ref a_cn, .ref a_nx, .ref a_hp, .ref a_hl, .ref a_lv])), (a_ba, .inl (G.2 1, 24, .inr (.inl f_ba))), (a_ad, .inl (G.2 0, 1536, .inl f_ad)), (a_cn, .inl (G.2 1, 2048, .inr (.inl z48))), (a_nx, .inl (G.2 1, 2048, .inr (.inl z46)))]) [0, 1, 2, 4, 3] rfl
                                                  have hDc := hD.sub (ws' := [(a_th, .inr (7, [.ref a_h, .ref a_k, .ref a_ba, .ref a_ad, .int e_fu, .ref a_cn, .ref a_nx, .ref a_hp, .ref a_hl, .ref a_lv])), (a_ba, .inl (G.2 1, 24, .inr (.inl f_ba))), (a_ad, .inl (G.2 0, 1536, .inl f_ad)), (a_cn, .inl (G.2 1, 2048, .inr (.inl z48))), (a_nx, .inl (G.2 1, 2048, .inr (.inl z46)))]) [0, 1, 2, 4, 3] (by decide) rfl
                                                  have hFc := va_free (wc := [(a_th, .inr (7, [.ref a_h, .ref a_k, .ref a_ba, .ref a_ad, .int e_fu, .ref a_cn, .ref a_nx, .ref a_hp, .ref a_hl, .ref a_lv])), (a_ba, .inl (G.2 1, 24, .inr (.inl f_ba))), (a_ad, .inl (G.2 0, 1536, .inl f_ad)), (a_cn, .inl (G.2 1, 2048, .inr (.inl z48))), (a_nx, .inl (G.2 1, 2048, .inr (.inl z46)))]) hD hS hA [0, 1, 2, 4, 3] rfl
                                                  refine va_callv (va_runV (As := [.int 23]) (rest := []) ⟨hx, hb, hml, hown, hts⟩ (th_step l G a_th a_ba a_ad a_cn a_nx a_h a_k a_hp a_hl a_lv H.size e_fu 23 f_ba f_ad z48 z46 ⟨by decide, by decide⟩ (e_tk)) (cwV 1 hts gV_X7_102 rfl rfl rfl hv_X7_stepTo ⟨Nat.le_of_ble_eq_true rfl, Nat.le_of_ble_eq_true rfl⟩) (g5_preV hPc hK hDc hN hT hS hFc (ci := 7) (q0 := 0) rfl rfl) rfl rfl hl.1 rfl (lv_room (Nat.le_of_ble_eq_true rfl)) dX7_countRows_72 ⟨Nat.le_of_ble_eq_true rfl, Nat.le_of_ble_eq_true rfl⟩) hS (fun q _ h => hFc q h) hFc (fun u t H1 locs ht hvm hw hB hz1 hk1 hS => ?_)
                                                  obtain ⟨hP1, hD1⟩ := hB
                                                  rw [ht] at hP1
                                                  obtain ⟨z50, rfl⟩ := hw
                                                  obtain ⟨hP, hD⟩ := va_join (wr := []) (w1 := [(a_th, .inr (7, [.ref a_h, .ref a_k, .ref a_ba, .ref a_ad, .int e_fu, .ref a_nx, .ref a_cn, .ref a_hp, .ref a_hl, .ref a_lv])), (a_ba, .inl (G.2 1, 24, .inr (.inl f_ba))), (a_ad, .inl (G.2 0, 1536, .inl f_ad)), (a_cn, .inl (G.2 1, 2048, .inr (.inl z48))), (a_nx, .inl (G.2 1, 2048, .inr (.inl z50)))]) hP hD [0, 1, 2, 4, 3] [] rfl rfl (by decide) (by decide) hk1 hFc hP1 hD1
                                                  generalize H1 = H at hP hS ⊢
                                                  have hP : va_P G.1 vwCl [(a_th, .inr (7, [.ref a_h, .ref a_k, .ref a_ba, .ref a_ad, .int e_fu, .ref a_nx, .ref a_cn, .ref a_hp, .ref a_hl, .ref a_lv])), (a_ba, .inl (G.2 1, 24, .inr (.inl f_ba))), (a_ad, .inl (G.2 0, 1536, .inl f_ad)), (a_cn, .inl (G.2 1, 2048, .inr (.inl z48))), (a_nx, .inl (G.2 1, 2048, .inr (.inl z50)))] H := hP
                                                  have hD : va_D A [(a_th, .inr (7, [.ref a_h, .ref a_k, .ref a_ba, .ref a_ad, .int e_fu, .ref a_nx, .ref a_cn, .ref a_hp, .ref a_hl, .ref a_lv])), (a_ba, .inl (G.2 1, 24, .inr (.inl f_ba))), (a_ad, .inl (G.2 0, 1536, .inl f_ad)), (a_cn, .inl (G.2 1, 2048, .inr (.inl z48))), (a_nx, .inl (G.2 1, 2048, .inr (.inl z50)))] := hD
                                                  refine lv_iinc (v := 24) (lv' := [(2, .int 24), (1, .int (e_fu + 1)), (0, .ref a_th)]) hx hb dX7_countRows_75 hl (k := 0) rfl (by decide) (by decide) rfl (fun ls hl => ?_)
                                                  refine lv_goto (tgt := 64) hx hb dX7_countRows_78 (by decide) ?_
                                                  refine lv_iload_n hx hb dX7_countRows_64 rfl (lv_at hl 0 rfl) ?_
                                                  refine lv_bipush (v := 24) hx hb dX7_countRows_65 (by decide) ?_
                                                  refine lv_icmp_ge (tgt := 81) hx hb dX7_countRows_67 (by decide) (fun c_51 => ?_) (fun c_51 => ?_)
                                                  ·
                                                    refine lv_lconst (v := 0) hx hb dX7_countRows_81 (by decide) ?_
                                                    refine lv_lstore_n (lv' := [(2, .long 0), (1, .int (e_fu + 1)), (0, .ref a_th)]) hx hb dX7_countRows_82 rfl hl (by decide) rfl (fun ls hl => ?_)
                                                    refine lv_iconst (v := 0) hx hb dX7_countRows_83 (by decide) ?_
                                                    refine lv_istore (lv' := [(4, .int 0), (2, .long 0), (1, .int (e_fu + 1)), (0, .ref a_th)]) hx hb dX7_countRows_84 hl (by decide) rfl (fun ls hl => ?_)
                                                    refine g5_loop (α := (Int32) × (Int64)) (fun (q : (Int32) × (Int64)) (ls : Array Slot) (H : Heap) (locs : List Loc) => match q with | (n_c, n_x) => lv_has ls 5 [(2, .long n_x), (4, .int n_c), (1, .int (e_fu + 1)), (0, .ref a_th)] ∧ va_P G.1 vwCl [(a_th, .inr (7, [.ref a_h, .ref a_k, .ref a_ba, .ref a_ad, .int e_fu, .ref a_nx, .ref a_cn, .ref a_hp, .ref a_hl, .ref a_lv])), (a_ba, .inl (G.2 1, 24, .inr (.inl f_ba))), (a_ad, .inl (G.2 0, 1536, .inl f_ad)), (a_cn, .inl (G.2 1, 2048, .inr (.inl z48))), (a_nx, .inl (G.2 1, 2048, .inr (.inl z50)))] H ∧ va_D A [(a_th, .inr (7, [.ref a_h, .ref a_k, .ref a_ba, .ref a_ad, .int e_fu, .ref a_nx, .ref a_cn, .ref a_hp, .ref a_hl, .ref a_lv])), (a_ba, .inl (G.2 1, 24, .inr (.inl f_ba))), (a_ad, .inl (G.2 0, 1536, .inl f_ad)), (a_cn, .inl (G.2 1, 2048, .inr (.inl z48))), (a_nx, .inl (G.2 1, 2048, .inr (.inl z50)))] ∧ va_S A s.heap H locs ∧ (0 ≤ n_c.toInt ∧ n_c.toInt ≤ 64)) (fun (q : (Int32) × (Int64)) => match q with | (n_c, n_x) => Int.toNat (64 - n_c.toInt)) (0, 0) ⟨lv_sub hl [1, 0, 2, 3] rfl, hP, hD, hS, ⟨by decide, by decide⟩⟩ ?_
                                                    rintro ⟨n_c, n_x⟩ ls H locs ⟨hl, hP, hD, hS, i_52⟩ ih_86_53
                                                    have hl : lv_has ls 5 [(2, .long n_x), (4, .int n_c), (1, .int (e_fu + 1)), (0, .ref a_th)] := hl
                                                    have i_52 : 0 ≤ n_c.toInt ∧ n_c.toInt ≤ 64 := i_52
                                                    have hP : va_P G.1 vwCl [(a_th, .inr (7, [.ref a_h, .ref a_k, .ref a_ba, .ref a_ad, .int e_fu, .ref a_nx, .ref a_cn, .ref a_hp, .ref a_hl, .ref a_lv])), (a_ba, .inl (G.2 1, 24, .inr (.inl f_ba))), (a_ad, .inl (G.2 0, 1536, .inl f_ad)), (a_cn, .inl (G.2 1, 2048, .inr (.inl z48))), (a_nx, .inl (G.2 1, 2048, .inr (.inl z50)))] H := hP
                                                    have hD : va_D A [(a_th, .inr (7, [.ref a_h, .ref a_k, .ref a_ba, .ref a_ad, .int e_fu, .ref a_nx, .ref a_cn, .ref a_hp, .ref a_hl, .ref a_lv])), (a_ba, .inl (G.2 1, 24, .inr (.inl f_ba))), (a_ad, .inl (G.2 0, 1536, .inl f_ad)), (a_cn, .inl (G.2 1, 2048, .inr (.inl z48))), (a_nx, .inl (G.2 1, 2048, .inr (.inl z50)))] := hD
                                                    refine lv_iload hx hb dX7_countRows_86 (lv_at hl 1 rfl) ?_
                                                    refine lv_bipush (v := 64) hx hb dX7_countRows_88 (by decide) ?_
                                                    refine lv_icmp_ge (tgt := 116) hx hb dX7_countRows_90 (by decide) (fun c_54 => ?_) (fun c_54 => ?_)
                                                    ·
                                                      have i_54 : n_c.toInt ≥ 64 := by have z := g5_ge (a := n_c.toInt) (b := 64) (by rfl) (by decide) c_54; omega
                                                      refine lv_lload_n hx hb dX7_countRows_116 rfl (lv_at hl 0 rfl) ?_
                                                      exact W.lret (v := n_x) hx hb hr (fun t ht hW => ⟨⟨n_x, [(a_th, .inr (7, [.ref a_h, .ref a_k, .ref a_ba, .ref a_ad, .int e_fu, .ref a_nx, .ref a_cn, .ref a_hp, .ref a_hl, .ref a_lv])), (a_ba, .inl (G.2 1, 24, .inr (.inl f_ba))), (a_ad, .inl (G.2 0, 1536, .inl f_ad)), (a_cn, .inl (G.2 1, 2048, .inr (.inl z48))), (a_nx, .inl (G.2 1, 2048, .inr (.inl z50)))], rfl, ⟨n_x, z48, z50, rfl, rfl⟩, by rw [ht]; exact hP.sub [0, 1, 2, 3, 4] rfl, hD.sub [0, 1, 2, 3, 4] (by decide) rfl⟩, hS.F ht⟩) hS.2.2 dX7_countRows_117
                                                    ·
                                                      have i_54 : n_c.toInt < 64 := by have z := g5_geN (a := n_c.toInt) (b := 64) (by rfl) (by decide) c_54; omega
                                                      refine lv_lload_n hx hb dX7_countRows_93 rfl (lv_at hl 0 rfl) ?_
                                                      refine lv_aload_n hx hb dX7_countRows_94 rfl (lv_at hl 3 rfl) ?_
                                                      refine va_get (D := G.1) (ci := 7) (v := .ref a_nx) (C := RX7) (T := TX7) (N := 10) hx hb hts inG_X7 hown hK hP 0 rfl rfl 5 (by decide) (hts _ fl_X7_19) (fun _ h9 => h9) rfl dX7_countRows_95 ?_
                                                      refine lv_iload hx hb dX7_countRows_98 (lv_at hl 1 rfl) ?_
                                                      refine lv_iload_n hx hb dX7_countRows_100 rfl (lv_at hl 2 rfl) ?_
                                                      refine lv_imul hx hb dX7_countRows_101 ?_
                                                      have hm_55 := g_mulc (c := n_c) (m := (e_fu + 1)) ⟨by omega, by omega⟩ ⟨by omega, by omega⟩
                                                      refine lv_aload_n hx hb dX7_countRows_102 rfl (lv_at hl 3 rfl) ?_
                                                      refine va_get (D := G.1) (ci := 7) (v := .int e_fu) (C := RX7) (T := TX7) (N := 10) hx hb hts inG_X7 hown hK hP 0 rfl rfl 4 (by decide) (hts _ fl_X7_89) (fun _ h9 => h9) rfl dX7_countRows_103 ?_
                                                      refine lv_iadd hx hb dX7_countRows_106 ?_
                                                      have t_56 : ((n_c * (e_fu + 1)) + e_fu).toInt = (n_c * (e_fu + 1)).toInt + e_fu.toInt := g5_iadd (a := (n_c * (e_fu + 1)).toInt) (b := e_fu.toInt) (by rfl) (by rfl) (by omega) (by omega)
                                                      refine va_lald hx hb hK hP 4 1 rfl rfl (i := ((n_c * (e_fu + 1)) + e_fu)) (vp_in_iff.mpr ⟨by omega, by omega⟩) dX7_countRows_107 ?_
                                                      refine lv_ladd hx hb dX7_countRows_108 ?_
                                                      refine lv_lstore_n (lv' := [(2, .long (n_x + (z50 ((n_c * (e_fu + 1)) + e_fu).toNatClampNeg))), (4, .int n_c), (1, .int (e_fu + 1)), (0, .ref a_th)]) hx hb dX7_countRows_109 rfl hl (by decide) rfl (fun ls hl => ?_)
                                                      refine lv_iinc (v := (n_c + 1)) (lv' := [(4, .int (n_c + 1)), (2, .long (n_x + (z50 ((n_c * (e_fu + 1)) + e_fu).toNatClampNeg))), (1, .int (e_fu + 1)), (0, .ref a_th)]) hx hb dX7_countRows_110 hl (k := 1) rfl rfl (by decide) rfl (fun ls hl => ?_)
                                                      have t_57 : (n_c + 1).toInt = n_c.toInt + 1 := g5_iadd (a := n_c.toInt) (b := 1) rfl (by decide) (by omega) (by omega)
                                                      refine lv_goto (tgt := 86) hx hb dX7_countRows_113 (by decide) ?_
                                                      exact ih_86_53 ((n_c + 1), (n_x + (z50 ((n_c * (e_fu + 1)) + e_fu).toNatClampNeg))) ls H locs (show Int.toNat (64 - (n_c + 1).toInt) < Int.toNat (64 - n_c.toInt) from g_up (show n_c.toInt < (n_c + 1).toInt by omega) (show n_c.toInt < 64 by omega)) ⟨lv_sub hl [1, 0, 2, 3] rfl, hP, hD, hS, ⟨by omega, by omega⟩⟩
                                                  ·
                                                    exact absurd c_51 (by decide)
  ·
    have i_4 : k_c.toInt < 64 := by have z := g5_geN (a := k_c.toInt) (b := 64) (by rfl) (by decide) c_4; omega
    refine lv_aload_n hx hb dX7_countRows_23 rfl (lv_at hl 2 rfl) ?_
    refine va_get (D := G.1) (ci := 7) (v := .ref a_cn) (C := RX7) (T := TX7) (N := 10) hx hb hts inG_X7 hown hK hP 0 rfl rfl 5 (by decide) (hts _ fl_X7_19) (fun _ h9 => h9) rfl dX7_countRows_24 ?_
    refine lv_iload_n hx hb dX7_countRows_27 rfl (lv_at hl 0 rfl) ?_
    refine lv_iload_n hx hb dX7_countRows_28 rfl (lv_at hl 1 rfl) ?_
    refine lv_imul hx hb dX7_countRows_29 ?_
    have hm_58 := g_mulc (c := k_c) (m := (e_fu + 1)) ⟨by omega, by omega⟩ ⟨by omega, by omega⟩
    refine lv_aload_n hx hb dX7_countRows_30 rfl (lv_at hl 2 rfl) ?_
    refine va_get (D := G.1) (ci := 7) (v := .ref a_ad) (C := RX7) (T := TX7) (N := 10) hx hb hts inG_X7 hown hK hP 0 rfl rfl 3 (by decide) (hts _ fl_X7_15) (fun _ h9 => h9) rfl dX7_countRows_31 ?_
    refine lv_iload_n hx hb dX7_countRows_34 rfl (lv_at hl 0 rfl) ?_
    refine va_iald hx hb hK hP 2 0 rfl rfl (i := k_c) (vp_in_iff.mpr ⟨by omega, by omega⟩) dX7_countRows_35 ?_
    have hp_59 : 0 ≤ (f_ad k_c.toNatClampNeg).toInt ∧ (f_ad k_c.toNatClampNeg).toInt ≤ e_fu.toInt := tk_ad e_tk (by have zz := g5_clamp k_c; omega)
    refine lv_iadd hx hb dX7_countRows_36 ?_
    have t_60 : ((k_c * (e_fu + 1)) + (f_ad k_c.toNatClampNeg)).toInt = (k_c * (e_fu + 1)).toInt + (f_ad k_c.toNatClampNeg).toInt := g5_iadd (a := (k_c * (e_fu + 1)).toInt) (b := (f_ad k_c.toNatClampNeg).toInt) (by rfl) (by rfl) (by omega) (by omega)
    refine lv_aload_n hx hb dX7_countRows_37 rfl (lv_at hl 2 rfl) ?_
    refine va_get (D := G.1) (ci := 7) (v := .ref a_ba) (C := RX7) (T := TX7) (N := 10) hx hb hts inG_X7 hown hK hP 0 rfl rfl 2 (by decide) (hts _ fl_X7_9) (fun _ h9 => h9) rfl dX7_countRows_38 ?_
    refine lv_iconst (v := 0) hx hb dX7_countRows_41 (by decide) ?_
    refine va_lald hx hb hK hP 1 1 rfl rfl (i := 0) (by unfold vp_in; decide) dX7_countRows_42 ?_
    refine g5_tl (v := (f_ba 0)) rfl ?_
    refine lv_iload_n hx hb dX7_countRows_43 rfl (lv_at hl 0 rfl) ?_
    have hPc := hP.sub (ws' := []) [] rfl
    have hDc := hD.sub (ws' := []) [] (by decide) rfl
    have hFc := va_free (wc := []) hD hS hA [] rfl
    refine va_calli (va_runSN (As := [.long (f_ba 0), .int k_c]) (rest := [.int ((k_c * (e_fu + 1)) + (f_ad k_c.toNatClampNeg)), .ref a_cn]) ⟨hx, hb, hml, hown, hts⟩ (k_isOn l G H.size k_c (f_ba 0) ⟨by omega, by omega⟩) ⟨va_cnB 2 hts gW_X11_isOn rfl rfl rfl (hN.1 _ g5_nw_X7_98) (hts _ ini_X11) hs_X11_isOn ⟨Nat.le_of_ble_eq_true rfl, Nat.le_of_ble_eq_true rfl⟩, hts _ st_X11_isOn, trivial⟩ (g5_preS hPc hK hDc hN hT hS hFc) rfl rfl hl.1 rfl (lv_room (Nat.le_of_ble_eq_true rfl)) dX7_countRows_44 ⟨Nat.le_of_ble_eq_true rfl, Nat.le_of_ble_eq_true rfl⟩) hS (fun q _ h => hFc q h) hFc (fun r u t H1 locs ht hvm hw hB hz1 hk1 hS => ?_)
    obtain ⟨hP1, hD1⟩ := hB
    rw [ht] at hP1
    rcases hw with ⟨i_61, rfl, rfl⟩ | ⟨i_62, rfl, rfl⟩
    ·
      have i_61 : onB (f_ba 0) k_c.toInt = false := i_61
      have hP := g5_same hP hk1
      generalize H1 = H at hP hS ⊢
      refine lv_if_eq (tgt := 54) hx hb dX7_countRows_47 (by decide) (fun c_63 => ?_) (fun c_63 => ?_)
      ·
        refine lv_lconst (v := 1) hx hb dX7_countRows_54 (by decide) ?_
        refine va_last hx hb hK hP hD hS 4 1 rfl rfl (i := ((k_c * (e_fu + 1)) + (f_ad k_c.toNatClampNeg))) (x := 1) (vp_in_iff.mpr ⟨by omega, by omega⟩) dX7_countRows_55 (fun H locs hP hD hS => ?_)
        have hP : va_P G.1 vwCl [(a_th, .inr (7, [.ref a_h, .ref a_k, .ref a_ba, .ref a_ad, .int e_fu, .ref a_cn, .ref a_nx, .ref a_hp, .ref a_hl, .ref a_lv])), (a_ba, .inl (G.2 1, 24, .inr (.inl f_ba))), (a_ad, .inl (G.2 0, 1536, .inl f_ad)), (a_nx, .inl (G.2 1, 2048, .inr (.inl f_nx))), (a_cn, .inl (G.2 1, 2048, .inr (.inl (vp_updL k_f ((k_c * (e_fu + 1)) + (f_ad k_c.toNatClampNeg)).toNatClampNeg 1))))] H := hP
        have hD : va_D A [(a_th, .inr (7, [.ref a_h, .ref a_k, .ref a_ba, .ref a_ad, .int e_fu, .ref a_cn, .ref a_nx, .ref a_hp, .ref a_hl, .ref a_lv])), (a_ba, .inl (G.2 1, 24, .inr (.inl f_ba))), (a_ad, .inl (G.2 0, 1536, .inl f_ad)), (a_nx, .inl (G.2 1, 2048, .inr (.inl f_nx))), (a_cn, .inl (G.2 1, 2048, .inr (.inl (vp_updL k_f ((k_c * (e_fu + 1)) + (f_ad k_c.toNatClampNeg)).toNatClampNeg 1))))] := hD
        refine lv_iinc (v := (k_c + 1)) (lv' := [(2, .int (k_c + 1)), (1, .int (e_fu + 1)), (0, .ref a_th)]) hx hb dX7_countRows_56 hl (k := 0) rfl rfl (by decide) rfl (fun ls hl => ?_)
        have t_64 : (k_c + 1).toInt = k_c.toInt + 1 := g5_iadd (a := k_c.toInt) (b := 1) rfl (by decide) (by omega) (by omega)
        refine lv_goto (tgt := 17) hx hb dX7_countRows_59 (by decide) ?_
        exact ih_17_3 ((k_c + 1), (vp_updL k_f ((k_c * (e_fu + 1)) + (f_ad k_c.toNatClampNeg)).toNatClampNeg 1)) ls H locs (show Int.toNat (64 - (k_c + 1).toInt) < Int.toNat (64 - k_c.toInt) from g_up (show k_c.toInt < (k_c + 1).toInt by omega) (show k_c.toInt < 64 by omega)) ⟨lv_sub hl [0, 1, 2] rfl, hP, hD, hS, ⟨by omega, by omega⟩⟩
      ·
        exact absurd c_63 (by decide)
    ·
      have i_62 : onB (f_ba 0) k_c.toInt = true := i_62
      have hP := g5_same hP hk1
      generalize H1 = H at hP hS ⊢
      refine lv_if_eq (tgt := 54) hx hb dX7_countRows_47 (by decide) (fun c_65 => ?_) (fun c_65 => ?_)
      ·
        exact absurd c_65 (by decide)
      ·
        refine lv_lconst (v := 0) hx hb dX7_countRows_50 (by decide) ?_
        refine lv_goto (tgt := 55) hx hb dX7_countRows_51 (by decide) ?_
        refine va_last hx hb hK hP hD hS 4 1 rfl rfl (i := ((k_c * (e_fu + 1)) + (f_ad k_c.toNatClampNeg))) (x := 0) (vp_in_iff.mpr ⟨by omega, by omega⟩) dX7_countRows_55 (fun H locs hP hD hS => ?_)
        have hP : va_P G.1 vwCl [(a_th, .inr (7, [.ref a_h, .ref a_k, .ref a_ba, .ref a_ad, .int e_fu, .ref a_cn, .ref a_nx, .ref a_hp, .ref a_hl, .ref a_lv])), (a_ba, .inl (G.2 1, 24, .inr (.inl f_ba))), (a_ad, .inl (G.2 0, 1536, .inl f_ad)), (a_nx, .inl (G.2 1, 2048, .inr (.inl f_nx))), (a_cn, .inl (G.2 1, 2048, .inr (.inl (vp_updL k_f ((k_c * (e_fu + 1)) + (f_ad k_c.toNatClampNeg)).toNatClampNeg 0))))] H := hP
        have hD : va_D A [(a_th, .inr (7, [.ref a_h, .ref a_k, .ref a_ba, .ref a_ad, .int e_fu, .ref a_cn, .ref a_nx, .ref a_hp, .ref a_hl, .ref a_lv])), (a_ba, .inl (G.2 1, 24, .inr (.inl f_ba))), (a_ad, .inl (G.2 0, 1536, .inl f_ad)), (a_nx, .inl (G.2 1, 2048, .inr (.inl f_nx))), (a_cn, .inl (G.2 1, 2048, .inr (.inl (vp_updL k_f ((k_c * (e_fu + 1)) + (f_ad k_c.toNatClampNeg)).toNatClampNeg 0))))] := hD
        refine lv_iinc (v := (k_c + 1)) (lv' := [(2, .int (k_c + 1)), (1, .int (e_fu + 1)), (0, .ref a_th)]) hx hb dX7_countRows_56 hl (k := 0) rfl rfl (by decide) rfl (fun ls hl => ?_)
        have t_66 : (k_c + 1).toInt = k_c.toInt + 1 := g5_iadd (a := k_c.toInt) (b := 1) rfl (by decide) (by omega) (by omega)
        refine lv_goto (tgt := 17) hx hb dX7_countRows_59 (by decide) ?_
        exact ih_17_3 ((k_c + 1), (vp_updL k_f ((k_c * (e_fu + 1)) + (f_ad k_c.toNatClampNeg)).toNatClampNeg 0)) ls H locs (show Int.toNat (64 - (k_c + 1).toInt) < Int.toNat (64 - k_c.toInt) from g_up (show k_c.toInt < (k_c + 1).toInt by omega) (show k_c.toInt < 64 by omega)) ⟨lv_sub hl [0, 1, 2] rfl, hP, hD, hS, ⟨by omega, by omega⟩⟩
