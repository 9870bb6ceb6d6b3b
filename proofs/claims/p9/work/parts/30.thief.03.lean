set_option maxHeartbeats 4000000 in
set_option maxRecDepth 100000 in
theorem th_count (l : Launch) (G : g5_G) (a_th a_ba a_ad a_cn a_nx a_h a_k a_hp a_hl a_lv : Nat) (sz : Nat) (e_fu : Int32) (f_ba : Nat → Int64) (f_ad : Nat → Int32) (f_cn : Nat → Int64) (f_nx : Nat → Int64) (e_tk : TOK e_fu f_ad) : Met l yX7_countRows (wsG yX7_countRows cX7_countRows 5 (some .long)) ({ frames := 2, cells := 0, slots := 0, locals := 49 }) (va_Pc [.ref a_th] (g5_P G [(a_th, (oc7 a_h a_k a_ba a_ad e_fu a_cn a_nx a_hp a_hl a_lv)), (a_ba, (arJ G 24 f_ba)), (a_ad, (arI G 1536 f_ad)), (a_cn, (arJ G 2048 f_cn)), (a_nx, (arJ G 2048 f_nx))] sz)) (va_Ql (fun (r : Int64) (u : va_W) => (∃ (o_r : Int64) (o_f : Nat → Int64) (o_g : Nat → Int64), (r = o_r) ∧ (u = [(a_th, (oc7 a_h a_k a_ba a_ad e_fu a_nx a_cn a_hp a_hl a_lv)), (a_ba, (arJ G 24 f_ba)), (a_ad, (arI G 1536 f_ad)), (a_cn, (arJ G 2048 o_f)), (a_nx, (arJ G 2048 o_g))]))) (g5_B G (va_A [(a_th, (oc7 a_h a_k a_ba a_ad e_fu a_cn a_nx a_hp a_hl a_lv)), (a_ba, (arJ G 24 f_ba)), (a_ad, (arI G 1536 f_ad)), (a_cn, (arJ G 2048 f_cn)), (a_nx, (arJ G 2048 f_nx))] sz)) (va_A [(a_th, (oc7 a_h a_k a_ba a_ad e_fu a_cn a_nx a_hp a_hl a_lv)), (a_ba, (arJ G 24 f_ba)), (a_ad, (arI G 1536 f_ad)), (a_cn, (arJ G 2048 f_cn)), (a_nx, (arJ G 2048 f_nx))] sz)) 0 0 (va_A [(a_th, (oc7 a_h a_k a_ba a_ad e_fu a_cn a_nx a_hp a_hl a_lv)), (a_ba, (arJ G 24 f_ba)), (a_ad, (arI G 1536 f_ad)), (a_cn, (arJ G 2048 f_cn)), (a_nx, (arJ G 2048 f_nx))] sz) := by
  refine Met.ofW (cc := cX7_countRows) (maxL := 5) (ret := (some .long)) (by decide) rfl ?_
  intro p e s m args below meth c s₁ B hml hv
  obtain ⟨rfl, hsz, hP, hK, hD0, hN, hT⟩ := hv
  have hx := B.exec
  have hb := B.bytes
  have hr := B.returns
  have hts : ∀ w ∈ tblG, w.before _ s = true := fun w h => atoms_spec (ws := (wsG yX7_countRows cX7_countRows 5 (some .long))) B.pre w (List.mem_cons_of_mem _ h)
  have hown : s.vm.findClass RX7 = some m.cls := findClass_of_methodNamed B.named
  have hlocks := B.notSynchronized
  subst hsz
  have hD := hD0.self (sz := s.heap.size)
  generalize hAe : va_A [(a_th, (oc7 a_h a_k a_ba a_ad e_fu a_cn a_nx a_hp a_hl a_lv)), (a_ba, (arJ G 24 f_ba)), (a_ad, (arI G 1536 f_ad)), (a_cn, (arJ G 2048 f_cn)), (a_nx, (arJ G 2048 f_nx))] s.heap.size = A at hD hT ⊢
  have hA : ∀ q : Nat, s.heap.size ≤ q → A q := fun q h => by rw [← hAe]; exact Or.inr h
  have hS : va_S A s.heap s.heap [] := va_S.rf
  have hP : va_P G.1 vwCl [(a_th, (oc7 a_h a_k a_ba a_ad e_fu a_cn a_nx a_hp a_hl a_lv)), (a_ba, (arJ G 24 f_ba)), (a_ad, (arI G 1536 f_ad)), (a_cn, (arJ G 2048 f_cn)), (a_nx, (arJ G 2048 f_nx))] s.heap := hP
  have hl := lv_entry ([.ref a_th]) (n := 5) (Nat.le_of_ble_eq_true rfl)
  rw [lg_entry_eq]
  generalize (lg_sl ([.ref a_th]) ++ List.replicate (5 - (lg_sl ([.ref a_th])).length) Slot.unset).toArray = ls at hl ⊢
  have hl : lv_has ls 5 [(0, .ref a_th)] := hl
  have hfu := tk_fu e_tk
  refine lv_aload_n hx hb dX7_countRows_0 rfl (lv_at hl 0 rfl) ?_
  refine va_get (D := G.1) (ci := 7) (v := .int e_fu) (C := RX7) (T := TX7) (N := 10) hx hb hts inG_X7 hown hK hP 0 rfl rfl 4 (by decide) (hts _ fl_X7_89) (fun _ h9 => h9) rfl dX7_countRows_1 ?_
  refine lv_iconst (v := 1) hx hb dX7_countRows_4 (by decide) ?_
  refine lv_iadd hx hb dX7_countRows_5 ?_
  have t_1 : (e_fu + 1).toInt = e_fu.toInt + 1 := g5_iadd (a := e_fu.toInt) (b := 1) (by rfl) (by decide) (by omega) (by omega)
  refine lv_istore_n (lv' := [(1, .int (e_fu + 1)), (0, .ref a_th)]) hx hb dX7_countRows_6 rfl hl (by decide) rfl (fun ls hl => ?_)
  refine lv_aload_n hx hb dX7_countRows_7 rfl (lv_at hl 1 rfl) ?_
  refine va_get (D := G.1) (ci := 7) (v := .ref a_cn) (C := RX7) (T := TX7) (N := 10) hx hb hts inG_X7 hown hK hP 0 rfl rfl 5 (by decide) (hts _ fl_X7_19) (fun _ h9 => h9) rfl dX7_countRows_8 ?_
  refine lv_lconst (v := 0) hx hb dX7_countRows_11 (by decide) ?_
  obtain ⟨hPc, hDc, hFc⟩ := g5_sub3 (wc := [(a_cn, (arJ G 2048 f_cn))]) hP hD hS hA [3] (by decide) rfl
  refine va_callv (va_runS (As := [.ref a_cn, .long 0]) (rest := []) ⟨hx, hb, hml, hown, hts⟩ (k_fillJ2048 l G a_cn s.heap.size 0 f_cn) (va_cwS 2 hts gS_X7_58 rfl rfl rfl hs_J7_fill_d0a16 ⟨Nat.le_of_ble_eq_true rfl, Nat.le_of_ble_eq_true rfl⟩) (g5_preS hPc hK hDc hN hT hS hFc) rfl rfl hl.1 rfl (lv_room (Nat.le_of_ble_eq_true rfl)) dX7_countRows_12 ⟨Nat.le_of_ble_eq_true rfl, Nat.le_of_ble_eq_true rfl⟩) hS (fun q _ h => hFc q h) hFc (fun u t H1 locs ht hvm hw hB hz1 hk1 hS => ?_)
  obtain ⟨hP1, hD1⟩ := hB
  rw [ht] at hP1
  obtain rfl := hw
  obtain ⟨hP, hD⟩ := va_join (wr := [(a_th, (oc7 a_h a_k a_ba a_ad e_fu a_cn a_nx a_hp a_hl a_lv)), (a_ba, (arJ G 24 f_ba)), (a_ad, (arI G 1536 f_ad)), (a_nx, (arJ G 2048 f_nx))]) hP hD [3] [0, 1, 2, 4] rfl rfl (by decide) (by decide) hk1 hFc hP1 hD1
  generalize H1 = H at hP hS ⊢
  refine g5_rs [(a_th, (oc7 a_h a_k a_ba a_ad e_fu a_cn a_nx a_hp a_hl a_lv)), (a_ba, (arJ G 24 f_ba)), (a_ad, (arI G 1536 f_ad)), (a_nx, (arJ G 2048 f_nx)), (a_cn, (arJ G 2048 (fun _ => 0)))] hP hD (fun hP hD => ?_)
  refine lv_iconst (v := 0) hx hb dX7_countRows_15 (by decide) ?_
  refine lv_istore_n (lv' := [(2, .int 0), (1, .int (e_fu + 1)), (0, .ref a_th)]) hx hb dX7_countRows_16 rfl hl (by decide) rfl (fun ls hl => ?_)
  refine g5_loop (α := (Int32) × (Nat → Int64)) (fun (q : (Int32) × (Nat → Int64)) (ls : Array Slot) (H : Heap) (locs : List Loc) => match q with | (k_c, k_f) => lv_has ls 5 [(2, .int k_c), (1, .int (e_fu + 1)), (0, .ref a_th)] ∧ va_P G.1 vwCl [(a_th, (oc7 a_h a_k a_ba a_ad e_fu a_cn a_nx a_hp a_hl a_lv)), (a_ba, (arJ G 24 f_ba)), (a_ad, (arI G 1536 f_ad)), (a_nx, (arJ G 2048 f_nx)), (a_cn, (arJ G 2048 k_f))] H ∧ va_D A [(a_th, (oc7 a_h a_k a_ba a_ad e_fu a_cn a_nx a_hp a_hl a_lv)), (a_ba, (arJ G 24 f_ba)), (a_ad, (arI G 1536 f_ad)), (a_nx, (arJ G 2048 f_nx)), (a_cn, (arJ G 2048 k_f))] ∧ va_S A s.heap H locs ∧ (0 ≤ k_c.toInt ∧ k_c.toInt ≤ 64)) (fun (q : (Int32) × (Nat → Int64)) => match q with | (k_c, k_f) => Int.toNat (64 - k_c.toInt)) (0, (fun _ => 0)) ⟨lv_sub hl [0, 1, 2] rfl, hP, hD, hS, ⟨by decide, by decide⟩⟩ ?_
  rintro ⟨k_c, k_f⟩ ls H locs ⟨hl, hP, hD, hS, i_2⟩ ih_17_3
  have hl : lv_has ls 5 [(2, .int k_c), (1, .int (e_fu + 1)), (0, .ref a_th)] := hl
  have i_2 : 0 ≤ k_c.toInt ∧ k_c.toInt ≤ 64 := i_2
  refine g5_rs [(a_th, (oc7 a_h a_k a_ba a_ad e_fu a_cn a_nx a_hp a_hl a_lv)), (a_ba, (arJ G 24 f_ba)), (a_ad, (arI G 1536 f_ad)), (a_nx, (arJ G 2048 f_nx)), (a_cn, (arJ G 2048 k_f))] hP hD (fun hP hD => ?_)
  refine lv_iload_n hx hb dX7_countRows_17 rfl (lv_at hl 0 rfl) ?_
  refine lv_bipush (v := 64) hx hb dX7_countRows_18 (by decide) ?_
  refine lv_icmp_ge (tgt := 62) hx hb dX7_countRows_20 (by decide) (fun c_4 => ?_) (fun c_4 => ?_)
  ·
    have i_4 : k_c.toInt ≥ 64 := by have z := g5_ge (a := k_c.toInt) (b := 64) (by rfl) (by decide) c_4; omega
    refine lv_iconst (v := 1) hx hb dX7_countRows_62 (by decide) ?_
    refine lv_istore_n (lv' := [(2, .int 1), (1, .int (e_fu + 1)), (0, .ref a_th)]) hx hb dX7_countRows_63 rfl hl (by decide) rfl (fun ls hl => ?_)
    refine lv_iload_n hx hb dX7_countRows_64 rfl (lv_at hl 0 rfl) ?_
    refine lv_bipush (v := 24) hx hb dX7_countRows_65 (by decide) ?_
    refine lv_icmp_ge (tgt := 81) hx hb dX7_countRows_67 (by decide) (fun c_5 => ?_) (fun c_5 => ?_)
    ·
      exact absurd c_5 (by decide)
    ·
      refine lv_aload_n hx hb dX7_countRows_70 rfl (lv_at hl 2 rfl) ?_
      refine lv_iload_n hx hb dX7_countRows_71 rfl (lv_at hl 0 rfl) ?_
      obtain ⟨hPc, hDc, hFc⟩ := g5_sub3 (wc := [(a_th, (oc7 a_h a_k a_ba a_ad e_fu a_cn a_nx a_hp a_hl a_lv)), (a_ba, (arJ G 24 f_ba)), (a_ad, (arI G 1536 f_ad)), (a_cn, (arJ G 2048 k_f)), (a_nx, (arJ G 2048 f_nx))]) hP hD hS hA [0, 1, 2, 4, 3] (by decide) rfl
      refine va_callv (va_runV (As := [.int 1]) (rest := []) ⟨hx, hb, hml, hown, hts⟩ (th_step l G a_th a_ba a_ad a_cn a_nx a_h a_k a_hp a_hl a_lv H.size e_fu 1 f_ba f_ad k_f f_nx ⟨by decide, by decide⟩ (e_tk)) (cwV 1 hts gV_X7_102 rfl rfl rfl hv_X7_stepTo ⟨Nat.le_of_ble_eq_true rfl, Nat.le_of_ble_eq_true rfl⟩) (g5_preV hPc hK hDc hN hT hS hFc (ci := 7) (q0 := 0) rfl rfl) rfl rfl hl.1 rfl (lv_room (Nat.le_of_ble_eq_true rfl)) dX7_countRows_72 ⟨Nat.le_of_ble_eq_true rfl, Nat.le_of_ble_eq_true rfl⟩) hS (fun q _ h => hFc q h) hFc (fun u t H1 locs ht hvm hw hB hz1 hk1 hS => ?_)
      obtain ⟨hP1, hD1⟩ := hB
      rw [ht] at hP1
      obtain ⟨z6, rfl⟩ := hw
      obtain ⟨hP, hD⟩ := va_join (wr := []) hP hD [0, 1, 2, 4, 3] [] rfl rfl (by decide) (by decide) hk1 hFc hP1 hD1
      generalize H1 = H at hP hS ⊢
      refine g5_rs [(a_th, (oc7 a_h a_k a_ba a_ad e_fu a_nx a_cn a_hp a_hl a_lv)), (a_ba, (arJ G 24 f_ba)), (a_ad, (arI G 1536 f_ad)), (a_cn, (arJ G 2048 k_f)), (a_nx, (arJ G 2048 z6))] hP hD (fun hP hD => ?_)
      refine lv_iinc (v := 2) (lv' := [(2, .int 2), (1, .int (e_fu + 1)), (0, .ref a_th)]) hx hb dX7_countRows_75 hl (k := 0) rfl (by decide) (by decide) rfl (fun ls hl => ?_)
      refine lv_goto (tgt := 64) hx hb dX7_countRows_78 (by decide) ?_
      refine lv_iload_n hx hb dX7_countRows_64 rfl (lv_at hl 0 rfl) ?_
      refine lv_bipush (v := 24) hx hb dX7_countRows_65 (by decide) ?_
      refine lv_icmp_ge (tgt := 81) hx hb dX7_countRows_67 (by decide) (fun c_7 => ?_) (fun c_7 => ?_)
      ·
        exact absurd c_7 (by decide)
      ·
        refine lv_aload_n hx hb dX7_countRows_70 rfl (lv_at hl 2 rfl) ?_
        refine lv_iload_n hx hb dX7_countRows_71 rfl (lv_at hl 0 rfl) ?_
        obtain ⟨hPc, hDc, hFc⟩ := g5_sub3 (wc := [(a_th, (oc7 a_h a_k a_ba a_ad e_fu a_nx a_cn a_hp a_hl a_lv)), (a_ba, (arJ G 24 f_ba)), (a_ad, (arI G 1536 f_ad)), (a_nx, (arJ G 2048 z6)), (a_cn, (arJ G 2048 k_f))]) hP hD hS hA [0, 1, 2, 4, 3] (by decide) rfl
        refine va_callv (va_runV (As := [.int 2]) (rest := []) ⟨hx, hb, hml, hown, hts⟩ (th_step l G a_th a_ba a_ad a_nx a_cn a_h a_k a_hp a_hl a_lv H.size e_fu 2 f_ba f_ad z6 k_f ⟨by decide, by decide⟩ (e_tk)) (cwV 1 hts gV_X7_102 rfl rfl rfl hv_X7_stepTo ⟨Nat.le_of_ble_eq_true rfl, Nat.le_of_ble_eq_true rfl⟩) (g5_preV hPc hK hDc hN hT hS hFc (ci := 7) (q0 := 0) rfl rfl) rfl rfl hl.1 rfl (lv_room (Nat.le_of_ble_eq_true rfl)) dX7_countRows_72 ⟨Nat.le_of_ble_eq_true rfl, Nat.le_of_ble_eq_true rfl⟩) hS (fun q _ h => hFc q h) hFc (fun u t H1 locs ht hvm hw hB hz1 hk1 hS => ?_)
        obtain ⟨hP1, hD1⟩ := hB
        rw [ht] at hP1
        obtain ⟨z8, rfl⟩ := hw
        obtain ⟨hP, hD⟩ := va_join (wr := []) hP hD [0, 1, 2, 4, 3] [] rfl rfl (by decide) (by decide) hk1 hFc hP1 hD1
        generalize H1 = H at hP hS ⊢
        refine g5_rs [(a_th, (oc7 a_h a_k a_ba a_ad e_fu a_cn a_nx a_hp a_hl a_lv)), (a_ba, (arJ G 24 f_ba)), (a_ad, (arI G 1536 f_ad)), (a_nx, (arJ G 2048 z6)), (a_cn, (arJ G 2048 z8))] hP hD (fun hP hD => ?_)
        refine lv_iinc (v := 3) (lv' := [(2, .int 3), (1, .int (e_fu + 1)), (0, .ref a_th)]) hx hb dX7_countRows_75 hl (k := 0) rfl (by decide) (by decide) rfl (fun ls hl => ?_)
        refine lv_goto (tgt := 64) hx hb dX7_countRows_78 (by decide) ?_
        refine lv_iload_n hx hb dX7_countRows_64 rfl (lv_at hl 0 rfl) ?_
        refine lv_bipush (v := 24) hx hb dX7_countRows_65 (by decide) ?_
        refine lv_icmp_ge (tgt := 81) hx hb dX7_countRows_67 (by decide) (fun c_9 => ?_) (fun c_9 => ?_)
        ·
          exact absurd c_9 (by decide)
        ·
          refine lv_aload_n hx hb dX7_countRows_70 rfl (lv_at hl 2 rfl) ?_
          refine lv_iload_n hx hb dX7_countRows_71 rfl (lv_at hl 0 rfl) ?_
          obtain ⟨hPc, hDc, hFc⟩ := g5_sub3 (wc := [(a_th, (oc7 a_h a_k a_ba a_ad e_fu a_cn a_nx a_hp a_hl a_lv)), (a_ba, (arJ G 24 f_ba)), (a_ad, (arI G 1536 f_ad)), (a_cn, (arJ G 2048 z8)), (a_nx, (arJ G 2048 z6))]) hP hD hS hA [0, 1, 2, 4, 3] (by decide) rfl
          refine va_callv (va_runV (As := [.int 3]) (rest := []) ⟨hx, hb, hml, hown, hts⟩ (th_step l G a_th a_ba a_ad a_cn a_nx a_h a_k a_hp a_hl a_lv H.size e_fu 3 f_ba f_ad z8 z6 ⟨by decide, by decide⟩ (e_tk)) (cwV 1 hts gV_X7_102 rfl rfl rfl hv_X7_stepTo ⟨Nat.le_of_ble_eq_true rfl, Nat.le_of_ble_eq_true rfl⟩) (g5_preV hPc hK hDc hN hT hS hFc (ci := 7) (q0 := 0) rfl rfl) rfl rfl hl.1 rfl (lv_room (Nat.le_of_ble_eq_true rfl)) dX7_countRows_72 ⟨Nat.le_of_ble_eq_true rfl, Nat.le_of_ble_eq_true rfl⟩) hS (fun q _ h => hFc q h) hFc (fun u t H1 locs ht hvm hw hB hz1 hk1 hS => ?_)
          obtain ⟨hP1, hD1⟩ := hB
          rw [ht] at hP1
          obtain ⟨z10, rfl⟩ := hw
          obtain ⟨hP, hD⟩ := va_join (wr := []) hP hD [0, 1, 2, 4, 3] [] rfl rfl (by decide) (by decide) hk1 hFc hP1 hD1
          generalize H1 = H at hP hS ⊢
          refine g5_rs [(a_th, (oc7 a_h a_k a_ba a_ad e_fu a_nx a_cn a_hp a_hl a_lv)), (a_ba, (arJ G 24 f_ba)), (a_ad, (arI G 1536 f_ad)), (a_cn, (arJ G 2048 z8)), (a_nx, (arJ G 2048 z10))] hP hD (fun hP hD => ?_)
          refine lv_iinc (v := 4) (lv' := [(2, .int 4), (1, .int (e_fu + 1)), (0, .ref a_th)]) hx hb dX7_countRows_75 hl (k := 0) rfl (by decide) (by decide) rfl (fun ls hl => ?_)
          refine lv_goto (tgt := 64) hx hb dX7_countRows_78 (by decide) ?_
          refine lv_iload_n hx hb dX7_countRows_64 rfl (lv_at hl 0 rfl) ?_
          refine lv_bipush (v := 24) hx hb dX7_countRows_65 (by decide) ?_
          refine lv_icmp_ge (tgt := 81) hx hb dX7_countRows_67 (by decide) (fun c_11 => ?_) (fun c_11 => ?_)
          ·
            exact absurd c_11 (by decide)
          ·
            refine lv_aload_n hx hb dX7_countRows_70 rfl (lv_at hl 2 rfl) ?_
            refine lv_iload_n hx hb dX7_countRows_71 rfl (lv_at hl 0 rfl) ?_
            obtain ⟨hPc, hDc, hFc⟩ := g5_sub3 (wc := [(a_th, (oc7 a_h a_k a_ba a_ad e_fu a_nx a_cn a_hp a_hl a_lv)), (a_ba, (arJ G 24 f_ba)), (a_ad, (arI G 1536 f_ad)), (a_nx, (arJ G 2048 z10)), (a_cn, (arJ G 2048 z8))]) hP hD hS hA [0, 1, 2, 4, 3] (by decide) rfl
            refine va_callv (va_runV (As := [.int 4]) (rest := []) ⟨hx, hb, hml, hown, hts⟩ (th_step l G a_th a_ba a_ad a_nx a_cn a_h a_k a_hp a_hl a_lv H.size e_fu 4 f_ba f_ad z10 z8 ⟨by decide, by decide⟩ (e_tk)) (cwV 1 hts gV_X7_102 rfl rfl rfl hv_X7_stepTo ⟨Nat.le_of_ble_eq_true rfl, Nat.le_of_ble_eq_true rfl⟩) (g5_preV hPc hK hDc hN hT hS hFc (ci := 7) (q0 := 0) rfl rfl) rfl rfl hl.1 rfl (lv_room (Nat.le_of_ble_eq_true rfl)) dX7_countRows_72 ⟨Nat.le_of_ble_eq_true rfl, Nat.le_of_ble_eq_true rfl⟩) hS (fun q _ h => hFc q h) hFc (fun u t H1 locs ht hvm hw hB hz1 hk1 hS => ?_)
            obtain ⟨hP1, hD1⟩ := hB
            rw [ht] at hP1
            obtain ⟨z12, rfl⟩ := hw
            obtain ⟨hP, hD⟩ := va_join (wr := []) hP hD [0, 1, 2, 4, 3] [] rfl rfl (by decide) (by decide) hk1 hFc hP1 hD1
            generalize H1 = H at hP hS ⊢
            refine g5_rs [(a_th, (oc7 a_h a_k a_ba a_ad e_fu a_cn a_nx a_hp a_hl a_lv)), (a_ba, (arJ G 24 f_ba)), (a_ad, (arI G 1536 f_ad)), (a_nx, (arJ G 2048 z10)), (a_cn, (arJ G 2048 z12))] hP hD (fun hP hD => ?_)
            refine lv_iinc (v := 5) (lv' := [(2, .int 5), (1, .int (e_fu + 1)), (0, .ref a_th)]) hx hb dX7_countRows_75 hl (k := 0) rfl (by decide) (by decide) rfl (fun ls hl => ?_)
            refine lv_goto (tgt := 64) hx hb dX7_countRows_78 (by decide) ?_
            refine lv_iload_n hx hb dX7_countRows_64 rfl (lv_at hl 0 rfl) ?_
            refine lv_bipush (v := 24) hx hb dX7_countRows_65 (by decide) ?_
            refine lv_icmp_ge (tgt := 81) hx hb dX7_countRows_67 (by decide) (fun c_13 => ?_) (fun c_13 => ?_)
            ·
              exact absurd c_13 (by decide)
            ·
              refine lv_aload_n hx hb dX7_countRows_70 rfl (lv_at hl 2 rfl) ?_
              refine lv_iload_n hx hb dX7_countRows_71 rfl (lv_at hl 0 rfl) ?_
              obtain ⟨hPc, hDc, hFc⟩ := g5_sub3 (wc := [(a_th, (oc7 a_h a_k a_ba a_ad e_fu a_cn a_nx a_hp a_hl a_lv)), (a_ba, (arJ G 24 f_ba)), (a_ad, (arI G 1536 f_ad)), (a_cn, (arJ G 2048 z12)), (a_nx, (arJ G 2048 z10))]) hP hD hS hA [0, 1, 2, 4, 3] (by decide) rfl
              refine va_callv (va_runV (As := [.int 5]) (rest := []) ⟨hx, hb, hml, hown, hts⟩ (th_step l G a_th a_ba a_ad a_cn a_nx a_h a_k a_hp a_hl a_lv H.size e_fu 5 f_ba f_ad z12 z10 ⟨by decide, by decide⟩ (e_tk)) (cwV 1 hts gV_X7_102 rfl rfl rfl hv_X7_stepTo ⟨Nat.le_of_ble_eq_true rfl, Nat.le_of_ble_eq_true rfl⟩) (g5_preV hPc hK hDc hN hT hS hFc (ci := 7) (q0 := 0) rfl rfl) rfl rfl hl.1 rfl (lv_room (Nat.le_of_ble_eq_true rfl)) dX7_countRows_72 ⟨Nat.le_of_ble_eq_true rfl, Nat.le_of_ble_eq_true rfl⟩) hS (fun q _ h => hFc q h) hFc (fun u t H1 locs ht hvm hw hB hz1 hk1 hS => ?_)
              obtain ⟨hP1, hD1⟩ := hB
              rw [ht] at hP1
              obtain ⟨z14, rfl⟩ := hw
              obtain ⟨hP, hD⟩ := va_join (wr := []) hP hD [0, 1, 2, 4, 3] [] rfl rfl (by decide) (by decide) hk1 hFc hP1 hD1
              generalize H1 = H at hP hS ⊢
              refine g5_rs [(a_th, (oc7 a_h a_k a_ba a_ad e_fu a_nx a_cn a_hp a_hl a_lv)), (a_ba, (arJ G 24 f_ba)), (a_ad, (arI G 1536 f_ad)), (a_cn, (arJ G 2048 z12)), (a_nx, (arJ G 2048 z14))] hP hD (fun hP hD => ?_)
              refine lv_iinc (v := 6) (lv' := [(2, .int 6), (1, .int (e_fu + 1)), (0, .ref a_th)]) hx hb dX7_countRows_75 hl (k := 0) rfl (by decide) (by decide) rfl (fun ls hl => ?_)
              refine lv_goto (tgt := 64) hx hb dX7_countRows_78 (by decide) ?_
              refine lv_iload_n hx hb dX7_countRows_64 rfl (lv_at hl 0 rfl) ?_
              refine lv_bipush (v := 24) hx hb dX7_countRows_65 (by decide) ?_
              refine lv_icmp_ge (tgt := 81) hx hb dX7_countRows_67 (by decide) (fun c_15 => ?_) (fun c_15 => ?_)
              ·
                exact absurd c_15 (by decide)
              ·
                refine lv_aload_n hx hb dX7_countRows_70 rfl (lv_at hl 2 rfl) ?_
                refine lv_iload_n hx hb dX7_countRows_71 rfl (lv_at hl 0 rfl) ?_
                obtain ⟨hPc, hDc, hFc⟩ := g5_sub3 (wc := [(a_th, (oc7 a_h a_k a_ba a_ad e_fu a_nx a_cn a_hp a_hl a_lv)), (a_ba, (arJ G 24 f_ba)), (a_ad, (arI G 1536 f_ad)), (a_nx, (arJ G 2048 z14)), (a_cn, (arJ G 2048 z12))]) hP hD hS hA [0, 1, 2, 4, 3] (by decide) rfl
                refine va_callv (va_runV (As := [.int 6]) (rest := []) ⟨hx, hb, hml, hown, hts⟩ (th_step l G a_th a_ba a_ad a_nx a_cn a_h a_k a_hp a_hl a_lv H.size e_fu 6 f_ba f_ad z14 z12 ⟨by decide, by decide⟩ (e_tk)) (cwV 1 hts gV_X7_102 rfl rfl rfl hv_X7_stepTo ⟨Nat.le_of_ble_eq_true rfl, Nat.le_of_ble_eq_true rfl⟩) (g5_preV hPc hK hDc hN hT hS hFc (ci := 7) (q0 := 0) rfl rfl) rfl rfl hl.1 rfl (lv_room (Nat.le_of_ble_eq_true rfl)) dX7_countRows_72 ⟨Nat.le_of_ble_eq_true rfl, Nat.le_of_ble_eq_true rfl⟩) hS (fun q _ h => hFc q h) hFc (fun u t H1 locs ht hvm hw hB hz1 hk1 hS => ?_)
                obtain ⟨hP1, hD1⟩ := hB
                rw [ht] at hP1
                obtain ⟨z16, rfl⟩ := hw
                obtain ⟨hP, hD⟩ := va_join (wr := []) hP hD [0, 1, 2, 4, 3] [] rfl rfl (by decide) (by decide) hk1 hFc hP1 hD1
                generalize H1 = H at hP hS ⊢
                refine g5_rs [(a_th, (oc7 a_h a_k a_ba a_ad e_fu a_cn a_nx a_hp a_hl a_lv)), (a_ba, (arJ G 24 f_ba)), (a_ad, (arI G 1536 f_ad)), (a_nx, (arJ G 2048 z14)), (a_cn, (arJ G 2048 z16))] hP hD (fun hP hD => ?_)
                refine lv_iinc (v := 7) (lv' := [(2, .int 7), (1, .int (e_fu + 1)), (0, .ref a_th)]) hx hb dX7_countRows_75 hl (k := 0) rfl (by decide) (by decide) rfl (fun ls hl => ?_)
                refine lv_goto (tgt := 64) hx hb dX7_countRows_78 (by decide) ?_
                refine lv_iload_n hx hb dX7_countRows_64 rfl (lv_at hl 0 rfl) ?_
                refine lv_bipush (v := 24) hx hb dX7_countRows_65 (by decide) ?_
                refine lv_icmp_ge (tgt := 81) hx hb dX7_countRows_67 (by decide) (fun c_17 => ?_) (fun c_17 => ?_)
                ·
                  exact absurd c_17 (by decide)
                ·
                  refine lv_aload_n hx hb dX7_countRows_70 rfl (lv_at hl 2 rfl) ?_
                  refine lv_iload_n hx hb dX7_countRows_71 rfl (lv_at hl 0 rfl) ?_
                  obtain ⟨hPc, hDc, hFc⟩ := g5_sub3 (wc := [(a_th, (oc7 a_h a_k a_ba a_ad e_fu a_cn a_nx a_hp a_hl a_lv)), (a_ba, (arJ G 24 f_ba)), (a_ad, (arI G 1536 f_ad)), (a_cn, (arJ G 2048 z16)), (a_nx, (arJ G 2048 z14))]) hP hD hS hA [0, 1, 2, 4, 3] (by decide) rfl
                  refine va_callv (va_runV (As := [.int 7]) (rest := []) ⟨hx, hb, hml, hown, hts⟩ (th_step l G a_th a_ba a_ad a_cn a_nx a_h a_k a_hp a_hl a_lv H.size e_fu 7 f_ba f_ad z16 z14 ⟨by decide, by decide⟩ (e_tk)) (cwV 1 hts gV_X7_102 rfl rfl rfl hv_X7_stepTo ⟨Nat.le_of_ble_eq_true rfl, Nat.le_of_ble_eq_true rfl⟩) (g5_preV hPc hK hDc hN hT hS hFc (ci := 7) (q0 := 0) rfl rfl) rfl rfl hl.1 rfl (lv_room (Nat.le_of_ble_eq_true rfl)) dX7_countRows_72 ⟨Nat.le_of_ble_eq_true rfl, Nat.le_of_ble_eq_true rfl⟩) hS (fun q _ h => hFc q h) hFc (fun u t H1 locs ht hvm hw hB hz1 hk1 hS => ?_)
                  obtain ⟨hP1, hD1⟩ := hB
                  rw [ht] at hP1
                  obtain ⟨z18, rfl⟩ := hw
                  obtain ⟨hP, hD⟩ := va_join (wr := []) hP hD [0, 1, 2, 4, 3] [] rfl rfl (by decide) (by decide) hk1 hFc hP1 hD1
                  generalize H1 = H at hP hS ⊢
                  refine g5_rs [(a_th, (oc7 a_h a_k a_ba a_ad e_fu a_nx a_cn a_hp a_hl a_lv)), (a_ba, (arJ G 24 f_ba)), (a_ad, (arI G 1536 f_ad)), (a_cn, (arJ G 2048 z16)), (a_nx, (arJ G 2048 z18))] hP hD (fun hP hD => ?_)
                  refine lv_iinc (v := 8) (lv' := [(2, .int 8), (1, .int (e_fu + 1)), (0, .ref a_th)]) hx hb dX7_countRows_75 hl (k := 0) rfl (by decide) (by decide) rfl (fun ls hl => ?_)
                  refine lv_goto (tgt := 64) hx hb dX7_countRows_78 (by decide) ?_
                  refine lv_iload_n hx hb dX7_countRows_64 rfl (lv_at hl 0 rfl) ?_
                  refine lv_bipush (v := 24) hx hb dX7_countRows_65 (by decide) ?_
                  refine lv_icmp_ge (tgt := 81) hx hb dX7_countRows_67 (by decide) (fun c_19 => ?_) (fun c_19 => ?_)
                  ·
                    exact absurd c_19 (by decide)
                  ·
                    refine lv_aload_n hx hb dX7_countRows_70 rfl (lv_at hl 2 rfl) ?_
                    refine lv_iload_n hx hb dX7_countRows_71 rfl (lv_at hl 0 rfl) ?_
                    obtain ⟨hPc, hDc, hFc⟩ := g5_sub3 (wc := [(a_th, (oc7 a_h a_k a_ba a_ad e_fu a_nx a_cn a_hp a_hl a_lv)), (a_ba, (arJ G 24 f_ba)), (a_ad, (arI G 1536 f_ad)), (a_nx, (arJ G 2048 z18)), (a_cn, (arJ G 2048 z16))]) hP hD hS hA [0, 1, 2, 4, 3] (by decide) rfl
                    refine va_callv (va_runV (As := [.int 8]) (rest := []) ⟨hx, hb, hml, hown, hts⟩ (th_step l G a_th a_ba a_ad a_nx a_cn a_h a_k a_hp a_hl a_lv H.size e_fu 8 f_ba f_ad z18 z16 ⟨by decide, by decide⟩ (e_tk)) (cwV 1 hts gV_X7_102 rfl rfl rfl hv_X7_stepTo ⟨Nat.le_of_ble_eq_true rfl, Nat.le_of_ble_eq_true rfl⟩) (g5_preV hPc hK hDc hN hT hS hFc (ci := 7) (q0 := 0) rfl rfl) rfl rfl hl.1 rfl (lv_room (Nat.le_of_ble_eq_true rfl)) dX7_countRows_72 ⟨Nat.le_of_ble_eq_true rfl, Nat.le_of_ble_eq_true rfl⟩) hS (fun q _ h => hFc q h) hFc (fun u t H1 locs ht hvm hw hB hz1 hk1 hS => ?_)
                    obtain ⟨hP1, hD1⟩ := hB
                    rw [ht] at hP1
                    obtain ⟨z20, rfl⟩ := hw
                    obtain ⟨hP, hD⟩ := va_join (wr := []) hP hD [0, 1, 2, 4, 3] [] rfl rfl (by decide) (by decide) hk1 hFc hP1 hD1
                    generalize H1 = H at hP hS ⊢
                    refine g5_rs [(a_th, (oc7 a_h a_k a_ba a_ad e_fu a_cn a_nx a_hp a_hl a_lv)), (a_ba, (arJ G 24 f_ba)), (a_ad, (arI G 1536 f_ad)), (a_nx, (arJ G 2048 z18)), (a_cn, (arJ G 2048 z20))] hP hD (fun hP hD => ?_)
                    refine lv_iinc (v := 9) (lv' := [(2, .int 9), (1, .int (e_fu + 1)), (0, .ref a_th)]) hx hb dX7_countRows_75 hl (k := 0) rfl (by decide) (by decide) rfl (fun ls hl => ?_)
                    refine lv_goto (tgt := 64) hx hb dX7_countRows_78 (by decide) ?_
                    refine lv_iload_n hx hb dX7_countRows_64 rfl (lv_at hl 0 rfl) ?_
                    refine lv_bipush (v := 24) hx hb dX7_countRows_65 (by decide) ?_
                    refine lv_icmp_ge (tgt := 81) hx hb dX7_countRows_67 (by decide) (fun c_21 => ?_) (fun c_21 => ?_)
                    ·
                      exact absurd c_21 (by decide)
                    ·
                      refine lv_aload_n hx hb dX7_countRows_70 rfl (lv_at hl 2 rfl) ?_
                      refine lv_iload_n hx hb dX7_countRows_71 rfl (lv_at hl 0 rfl) ?_
                      obtain ⟨hPc, hDc, hFc⟩ := g5_sub3 (wc := [(a_th, (oc7 a_h a_k a_ba a_ad e_fu a_cn a_nx a_hp a_hl a_lv)), (a_ba, (arJ G 24 f_ba)), (a_ad, (arI G 1536 f_ad)), (a_cn, (arJ G 2048 z20)), (a_nx, (arJ G 2048 z18))]) hP hD hS hA [0, 1, 2, 4, 3] (by decide) rfl
                      refine va_callv (va_runV (As := [.int 9]) (rest := []) ⟨hx, hb, hml, hown, hts⟩ (th_step l G a_th a_ba a_ad a_cn a_nx a_h a_k a_hp a_hl a_lv H.size e_fu 9 f_ba f_ad z20 z18 ⟨by decide, by decide⟩ (e_tk)) (cwV 1 hts gV_X7_102 rfl rfl rfl hv_X7_stepTo ⟨Nat.le_of_ble_eq_true rfl, Nat.le_of_ble_eq_true rfl⟩) (g5_preV hPc hK hDc hN hT hS hFc (ci := 7) (q0 := 0) rfl rfl) rfl rfl hl.1 rfl (lv_room (Nat.le_of_ble_eq_true rfl)) dX7_countRows_72 ⟨Nat.le_of_ble_eq_true rfl, Nat.le_of_ble_eq_true rfl⟩) hS (fun q _ h => hFc q h) hFc (fun u t H1 locs ht hvm hw hB hz1 hk1 hS => ?_)
                      obtain ⟨hP1, hD1⟩ := hB
                      rw [ht] at hP1
                      obtain ⟨z22, rfl⟩ := hw
                      obtain ⟨hP, hD⟩ := va_join (wr := []) hP hD [0, 1, 2, 4, 3] [] rfl rfl (by decide) (by decide) hk1 hFc hP1 hD1
                      generalize H1 = H at hP hS ⊢
                      refine g5_rs [(a_th, (oc7 a_h a_k a_ba a_ad e_fu a_nx a_cn a_hp a_hl a_lv)), (a_ba, (arJ G 24 f_ba)), (a_ad, (arI G 1536 f_ad)), (a_cn, (arJ G 2048 z20)), (a_nx, (arJ G 2048 z22))] hP hD (fun hP hD => ?_)
                      refine lv_iinc (v := 10) (lv' := [(2, .int 10), (1, .int (e_fu + 1)), (0, .ref a_th)]) hx hb dX7_countRows_75 hl (k := 0) rfl (by decide) (by decide) rfl (fun ls hl => ?_)
                      refine lv_goto (tgt := 64) hx hb dX7_countRows_78 (by decide) ?_
                      refine lv_iload_n hx hb dX7_countRows_64 rfl (lv_at hl 0 rfl) ?_
                      refine lv_bipush (v := 24) hx hb dX7_countRows_65 (by decide) ?_
                      refine lv_icmp_ge (tgt := 81) hx hb dX7_countRows_67 (by decide) (fun c_23 => ?_) (fun c_23 => ?_)
                      ·
                        exact absurd c_23 (by decide)
                      ·
                        refine lv_aload_n hx hb dX7_countRows_70 rfl (lv_at hl 2 rfl) ?_
                        refine lv_iload_n hx hb dX7_countRows_71 rfl (lv_at hl 0 rfl) ?_
                        obtain ⟨hPc, hDc, hFc⟩ := g5_sub3 (wc := [(a_th, (oc7 a_h a_k a_ba a_ad e_fu a_nx a_cn a_hp a_hl a_lv)), (a_ba, (arJ G 24 f_ba)), (a_ad, (arI G 1536 f_ad)), (a_nx, (arJ G 2048 z22)), (a_cn, (arJ G 2048 z20))]) hP hD hS hA [0, 1, 2, 4, 3] (by decide) rfl
                        refine va_callv (va_runV (As := [.int 10]) (rest := []) ⟨hx, hb, hml, hown, hts⟩ (th_step l G a_th a_ba a_ad a_nx a_cn a_h a_k a_hp a_hl a_lv H.size e_fu 10 f_ba f_ad z22 z20 ⟨by decide, by decide⟩ (e_tk)) (cwV 1 hts gV_X7_102 rfl rfl rfl hv_X7_stepTo ⟨Nat.le_of_ble_eq_true rfl, Nat.le_of_ble_eq_true rfl⟩) (g5_preV hPc hK hDc hN hT hS hFc (ci := 7) (q0 := 0) rfl rfl) rfl rfl hl.1 rfl (lv_room (Nat.le_of_ble_eq_true rfl)) dX7_countRows_72 ⟨Nat.le_of_ble_eq_true rfl, Nat.le_of_ble_eq_true rfl⟩) hS (fun q _ h => hFc q h) hFc (fun u t H1 locs ht hvm hw hB hz1 hk1 hS => ?_)
                        obtain ⟨hP1, hD1⟩ := hB
                        rw [ht] at hP1
                        obtain ⟨z24, rfl⟩ := hw
                        obtain ⟨hP, hD⟩ := va_join (wr := []) hP hD [0, 1, 2, 4, 3] [] rfl rfl (by decide) (by decide) hk1 hFc hP1 hD1
                        generalize H1 = H at hP hS ⊢
                        refine g5_rs [(a_th, (oc7 a_h a_k a_ba a_ad e_fu a_cn a_nx a_hp a_hl a_lv)), (a_ba, (arJ G 24 f_ba)), (a_ad, (arI G 1536 f_ad)), (a_nx, (arJ G 2048 z22)), (a_cn, (arJ G 2048 z24))] hP hD (fun hP hD => ?_)
                        refine lv_iinc (v := 11) (lv' := [(2, .int 11), (1, .int (e_fu + 1)), (0, .ref a_th)]) hx hb dX7_countRows_75 hl (k := 0) rfl (by decide) (by decide) rfl (fun ls hl => ?_)
                        refine lv_goto (tgt := 64) hx hb dX7_countRows_78 (by decide) ?_
                        refine lv_iload_n hx hb dX7_countRows_64 rfl (lv_at hl 0 rfl) ?_
                        refine lv_bipush (v := 24) hx hb dX7_countRows_65 (by decide) ?_
                        refine lv_icmp_ge (tgt := 81) hx hb dX7_countRows_67 (by decide) (fun c_25 => ?_) (fun c_25 => ?_)
                        ·
                          exact absurd c_25 (by decide)
                        ·
                          refine lv_aload_n hx hb dX7_countRows_70 rfl (lv_at hl 2 rfl) ?_
                          refine lv_iload_n hx hb dX7_countRows_71 rfl (lv_at hl 0 rfl) ?_
                          obtain ⟨hPc, hDc, hFc⟩ := g5_sub3 (wc := [(a_th, (oc7 a_h a_k a_ba a_ad e_fu a_cn a_nx a_hp a_hl a_lv)), (a_ba, (arJ G 24 f_ba)), (a_ad, (arI G 1536 f_ad)), (a_cn, (arJ G 2048 z24)), (a_nx, (arJ G 2048 z22))]) hP hD hS hA [0, 1, 2, 4, 3] (by decide) rfl
                          refine va_callv (va_runV (As := [.int 11]) (rest := []) ⟨hx, hb, hml, hown, hts⟩ (th_step l G a_th a_ba a_ad a_cn a_nx a_h a_k a_hp a_hl a_lv H.size e_fu 11 f_ba f_ad z24 z22 ⟨by decide, by decide⟩ (e_tk)) (cwV 1 hts gV_X7_102 rfl rfl rfl hv_X7_stepTo ⟨Nat.le_of_ble_eq_true rfl, Nat.le_of_ble_eq_true rfl⟩) (g5_preV hPc hK hDc hN hT hS hFc (ci := 7) (q0 := 0) rfl rfl) rfl rfl hl.1 rfl (lv_room (Nat.le_of_ble_eq_true rfl)) dX7_countRows_72 ⟨Nat.le_of_ble_eq_true rfl, Nat.le_of_ble_eq_true rfl⟩) hS (fun q _ h => hFc q h) hFc (fun u t H1 locs ht hvm hw hB hz1 hk1 hS => ?_)
                          obtain ⟨hP1, hD1⟩ := hB
                          rw [ht] at hP1
                          obtain ⟨z26, rfl⟩ := hw
                          obtain ⟨hP, hD⟩ := va_join (wr := []) hP hD [0, 1, 2, 4, 3] [] rfl rfl (by decide) (by decide) hk1 hFc hP1 hD1
                          generalize H1 = H at hP hS ⊢
                          refine g5_rs [(a_th, (oc7 a_h a_k a_ba a_ad e_fu a_nx a_cn a_hp a_hl a_lv)), (a_ba, (arJ G 24 f_ba)), (a_ad, (arI G 1536 f_ad)), (a_cn, (arJ G 2048 z24)), (a_nx, (arJ G 2048 z26))] hP hD (fun hP hD => ?_)
                          refine lv_iinc (v := 12) (lv' := [(2, .int 12), (1, .int (e_fu + 1)), (0, .ref a_th)]) hx hb dX7_countRows_75 hl (k := 0) rfl (by decide) (by decide) rfl (fun ls hl => ?_)
                          refine lv_goto (tgt := 64) hx hb dX7_countRows_78 (by decide) ?_
                          refine lv_iload_n hx hb dX7_countRows_64 rfl (lv_at hl 0 rfl) ?_
                          refine lv_bipush (v := 24) hx hb dX7_countRows_65 (by decide) ?_
                          refine lv_icmp_ge (tgt := 81) hx hb dX7_countRows_67 (by decide) (fun c_27 => ?_) (fun c_27 => ?_)
                          ·
                            exact absurd c_27 (by decide)
                          ·
                            refine lv_aload_n hx hb dX7_countRows_70 rfl (lv_at hl 2 rfl) ?_
                            refine lv_iload_n hx hb dX7_countRows_71 rfl (lv_at hl 0 rfl) ?_
                            obtain ⟨hPc, hDc, hFc⟩ := g5_sub3 (wc := [(a_th, (oc7 a_h a_k a_ba a_ad e_fu a_nx a_cn a_hp a_hl a_lv)), (a_ba, (arJ G 24 f_ba)), (a_ad, (arI G 1536 f_ad)), (a_nx, (arJ G 2048 z26)), (a_cn, (arJ G 2048 z24))]) hP hD hS hA [0, 1, 2, 4, 3] (by decide) rfl
                            refine va_callv (va_runV (As := [.int 12]) (rest := []) ⟨hx, hb, hml, hown, hts⟩ (th_step l G a_th a_ba a_ad a_nx a_cn a_h a_k a_hp a_hl a_lv H.size e_fu 12 f_ba f_ad z26 z24 ⟨by decide, by decide⟩ (e_tk)) (cwV 1 hts gV_X7_102 rfl rfl rfl hv_X7_stepTo ⟨Nat.le_of_ble_eq_true rfl, Nat.le_of_ble_eq_true rfl⟩) (g5_preV hPc hK hDc hN hT hS hFc (ci := 7) (q0 := 0) rfl rfl) rfl rfl hl.1 rfl (lv_room (Nat.le_of_ble_eq_true rfl)) dX7_countRows_72 ⟨Nat.le_of_ble_eq_true rfl, Nat.le_of_ble_eq_true rfl⟩) hS (fun q _ h => hFc q h) hFc (fun u t H1 locs ht hvm hw hB hz1 hk1 hS => ?_)
                            obtain ⟨hP1, hD1⟩ := hB
                            rw [ht] at hP1
                            obtain ⟨z28, rfl⟩ := hw
                            obtain ⟨hP, hD⟩ := va_join (wr := []) hP hD [0, 1, 2, 4, 3] [] rfl rfl (by decide) (by decide) hk1 hFc hP1 hD1
                            generalize H1 = H at hP hS ⊢
                            refine g5_rs [(a_th, (oc7 a_h a_k a_ba a_ad e_fu a_cn a_nx a_hp a_hl a_lv)), (a_ba, (arJ G 24 f_ba)), (a_ad, (arI G 1536 f_ad)), (a_nx, (arJ G 2048 z26)), (a_cn, (arJ G 2048 z28))] hP hD (fun hP hD => ?_)
                            refine lv_iinc (v := 13) (lv' := [(2, .int 13), (1, .int (e_fu + 1)), (0, .ref a_th)]) hx hb dX7_countRows_75 hl (k := 0) rfl (by decide) (by decide) rfl (fun ls hl => ?_)
                            refine lv_goto (tgt := 64) hx hb dX7_countRows_78 (by decide) ?_
                            refine lv_iload_n hx hb dX7_countRows_64 rfl (lv_at hl 0 rfl) ?_
                            refine lv_bipush (v := 24) hx hb dX7_countRows_65 (by decide) ?_
                            refine lv_icmp_ge (tgt := 81) hx hb dX7_countRows_67 (by decide) (fun c_29 => ?_) (fun c_29 => ?_)
                            ·
                              exact absurd c_29 (by decide)
                            ·
                              refine lv_aload_n hx hb dX7_countRows_70 rfl (lv_at hl 2 rfl) ?_
                              refine lv_iload_n hx hb dX7_countRows_71 rfl (lv_at hl 0 rfl) ?_
                              obtain ⟨hPc, hDc, hFc⟩ := g5_sub3 (wc := [(a_th, (oc7 a_h a_k a_ba a_ad e_fu a_cn a_nx a_hp a_hl a_lv)), (a_ba, (arJ G 24 f_ba)), (a_ad, (arI G 1536 f_ad)), (a_cn, (arJ G 2048 z28)), (a_nx, (arJ G 2048 z26))]) hP hD hS hA [0, 1, 2, 4, 3] (by decide) rfl
                              refine va_callv (va_runV (As := [.int 13]) (rest := []) ⟨hx, hb, hml, hown, hts⟩ (th_step l G a_th a_ba a_ad a_cn a_nx a_h a_k a_hp a_hl a_lv H.size e_fu 13 f_ba f_ad z28 z26 ⟨by decide, by decide⟩ (e_tk)) (cwV 1 hts gV_X7_102 rfl rfl rfl hv_X7_stepTo ⟨Nat.le_of_ble_eq_true rfl, Nat.le_of_ble_eq_true rfl⟩) (g5_preV hPc hK hDc hN hT hS hFc (ci := 7) (q0 := 0) rfl rfl) rfl rfl hl.1 rfl (lv_room (Nat.le_of_ble_eq_true rfl)) dX7_countRows_72 ⟨Nat.le_of_ble_eq_true rfl, Nat.le_of_ble_eq_true rfl⟩) hS (fun q _ h => hFc q h) hFc (fun u t H1 locs ht hvm hw hB hz1 hk1 hS => ?_)
                              obtain ⟨hP1, hD1⟩ := hB
                              rw [ht] at hP1
                              obtain ⟨z30, rfl⟩ := hw
                              obtain ⟨hP, hD⟩ := va_join (wr := []) hP hD [0, 1, 2, 4, 3] [] rfl rfl (by decide) (by decide) hk1 hFc hP1 hD1
                              generalize H1 = H at hP hS ⊢
                              refine g5_rs [(a_th, (oc7 a_h a_k a_ba a_ad e_fu a_nx a_cn a_hp a_hl a_lv)), (a_ba, (arJ G 24 f_ba)), (a_ad, (arI G 1536 f_ad)), (a_cn, (arJ G 2048 z28)), (a_nx, (arJ G 2048 z30))] hP hD (fun hP hD => ?_)
                              refine lv_iinc (v := 14) (lv' := [(2, .int 14), (1, .int (e_fu + 1)), (0, .ref a_th)]) hx hb dX7_countRows_75 hl (k := 0) rfl (by decide) (by decide) rfl (fun ls hl => ?_)
                              refine lv_goto (tgt := 64) hx hb dX7_countRows_78 (by decide) ?_
                              refine lv_iload_n hx hb dX7_countRows_64 rfl (lv_at hl 0 rfl) ?_
                              refine lv_bipush (v := 24) hx hb dX7_countRows_65 (by decide) ?_
                              refine lv_icmp_ge (tgt := 81) hx hb dX7_countRows_67 (by decide) (fun c_31 => ?_) (fun c_31 => ?_)
                              ·
                                exact absurd c_31 (by decide)
                              ·
                                refine lv_aload_n hx hb dX7_countRows_70 rfl (lv_at hl 2 rfl) ?_
                                refine lv_iload_n hx hb dX7_countRows_71 rfl (lv_at hl 0 rfl) ?_
                                obtain ⟨hPc, hDc, hFc⟩ := g5_sub3 (wc := [(a_th, (oc7 a_h a_k a_ba a_ad e_fu a_nx a_cn a_hp a_hl a_lv)), (a_ba, (arJ G 24 f_ba)), (a_ad, (arI G 1536 f_ad)), (a_nx, (arJ G 2048 z30)), (a_cn, (arJ G 2048 z28))]) hP hD hS hA [0, 1, 2, 4, 3] (by decide) rfl
                                refine va_callv (va_runV (As := [.int 14]) (rest := []) ⟨hx, hb, hml, hown, hts⟩ (th_step l G a_th a_ba a_ad a_nx a_cn a_h a_k a_hp a_hl a_lv H.size e_fu 14 f_ba f_ad z30 z28 ⟨by decide, by decide⟩ (e_tk)) (cwV 1 hts gV_X7_102 rfl rfl rfl hv_X7_stepTo ⟨Nat.le_of_ble_eq_true rfl, Nat.le_of_ble_eq_true rfl⟩) (g5_preV hPc hK hDc hN hT hS hFc (ci := 7) (q0 := 0) rfl rfl) rfl rfl hl.1 rfl (lv_room (Nat.le_of_ble_eq_true rfl)) dX7_countRows_72 ⟨Nat.le_of_ble_eq_true rfl, Nat.le_of_ble_eq_true rfl⟩) hS (fun q _ h => hFc q h) hFc (fun u t H1 locs ht hvm hw hB hz1 hk1 hS => ?_)
                                obtain ⟨hP1, hD1⟩ := hB
                                rw [ht] at hP1
                                obtain ⟨z32, rfl⟩ := hw
                                obtain ⟨hP, hD⟩ := va_join (wr := []) hP hD [0, 1, 2, 4, 3] [] rfl rfl (by decide) (by decide) hk1 hFc hP1 hD1
                                generalize H1 = H at hP hS ⊢
                                refine g5_rs [(a_th, (oc7 a_h a_k a_ba a_ad e_fu a_cn a_nx a_hp a_hl a_lv)), (a_ba, (arJ G 24 f_ba)), (a_ad, (arI G 1536 f_ad)), (a_nx, (arJ G 2048 z30)), (a_cn, (arJ G 2048 z32))] hP hD (fun hP hD => ?_)
                                refine lv_iinc (v := 15) (lv' := [(2, .int 15), (1, .int (e_fu + 1)), (0, .ref a_th)]) hx hb dX7_countRows_75 hl (k := 0) rfl (by decide) (by decide) rfl (fun ls hl => ?_)
                                refine lv_goto (tgt := 64) hx hb dX7_countRows_78 (by decide) ?_
                                refine lv_iload_n hx hb dX7_countRows_64 rfl (lv_at hl 0 rfl) ?_
                                refine lv_bipush (v := 24) hx hb dX7_countRows_65 (by decide) ?_
                                refine lv_icmp_ge (tgt := 81) hx hb dX7_countRows_67 (by decide) (fun c_33 => ?_) (fun c_33 => ?_)
                                ·
                                  exact absurd c_33 (by decide)
                                ·
                                  refine lv_aload_n hx hb dX7_countRows_70 rfl (lv_at hl 2 rfl) ?_
                                  refine lv_iload_n hx hb dX7_countRows_71 rfl (lv_at hl 0 rfl) ?_
                                  obtain ⟨hPc, hDc, hFc⟩ := g5_sub3 (wc := [(a_th, (oc7 a_h a_k a_ba a_ad e_fu a_cn a_nx a_hp a_hl a_lv)), (a_ba, (arJ G 24 f_ba)), (a_ad, (arI G 1536 f_ad)), (a_cn, (arJ G 2048 z32)), (a_nx, (arJ G 2048 z30))]) hP hD hS hA [0, 1, 2, 4, 3] (by decide) rfl
                                  refine va_callv (va_runV (As := [.int 15]) (rest := []) ⟨hx, hb, hml, hown, hts⟩ (th_step l G a_th a_ba a_ad a_cn a_nx a_h a_k a_hp a_hl a_lv H.size e_fu 15 f_ba f_ad z32 z30 ⟨by decide, by decide⟩ (e_tk)) (cwV 1 hts gV_X7_102 rfl rfl rfl hv_X7_stepTo ⟨Nat.le_of_ble_eq_true rfl, Nat.le_of_ble_eq_true rfl⟩) (g5_preV hPc hK hDc hN hT hS hFc (ci := 7) (q0 := 0) rfl rfl) rfl rfl hl.1 rfl (lv_room (Nat.le_of_ble_eq_true rfl)) dX7_countRows_72 ⟨Nat.le_of_ble_eq_true rfl, Nat.le_of_ble_eq_true rfl⟩) hS (fun q _ h => hFc q h) hFc (fun u t H1 locs ht hvm hw hB hz1 hk1 hS => ?_)
                                  obtain ⟨hP1, hD1⟩ := hB
                                  rw [ht] at hP1
                                  obtain ⟨z34, rfl⟩ := hw
                                  obtain ⟨hP, hD⟩ := va_join (wr := []) hP hD [0, 1, 2, 4, 3] [] rfl rfl (by decide) (by decide) hk1 hFc hP1 hD1
                                  generalize H1 = H at hP hS ⊢
                                  refine g5_rs [(a_th, (oc7 a_h a_k a_ba a_ad e_fu a_nx a_cn a_hp a_hl a_lv)), (a_ba, (arJ G 24 f_ba)), (a_ad, (arI G 1536 f_ad)), (a_cn, (arJ G 2048 z32)), (a_nx, (arJ G 2048 z34))] hP hD (fun hP hD => ?_)
                                  refine lv_iinc (v := 16) (lv' := [(2, .int 16), (1, .int (e_fu + 1)), (0, .ref a_th)]) hx hb dX7_countRows_75 hl (k := 0) rfl (by decide) (by decide) rfl (fun ls hl => ?_)
                                  refine lv_goto (tgt := 64) hx hb dX7_countRows_78 (by decide) ?_
                                  refine lv_iload_n hx hb dX7_countRows_64 rfl (lv_at hl 0 rfl) ?_
                                  refine lv_bipush (v := 24) hx hb dX7_countRows_65 (by decide) ?_
                                  refine lv_icmp_ge (tgt := 81) hx hb dX7_countRows_67 (by decide) (fun c_35 => ?_) (fun c_35 => ?_)
                                  ·
                                    exact absurd c_35 (by decide)
                                  ·
                                    refine lv_aload_n hx hb dX7_countRows_70 rfl (lv_at hl 2 rfl) ?_
                                    refine lv_iload_n hx hb dX7_countRows_71 rfl (lv_at hl 0 rfl) ?_
                                    obtain ⟨hPc, hDc, hFc⟩ := g5_sub3 (wc := [(a_th, (oc7 a_h a_k a_ba a_ad e_fu a_nx a_cn a_hp a_hl a_lv)), (a_ba, (arJ G 24 f_ba)), (a_ad, (arI G 1536 f_ad)), (a_nx, (arJ G 2048 z34)), (a_cn, (arJ G 2048 z32))]) hP hD hS hA [0, 1, 2, 4, 3] (by decide) rfl
                                    refine va_callv (va_runV (As := [.int 16]) (rest := []) ⟨hx, hb, hml, hown, hts⟩ (th_step l G a_th a_ba a_ad a_nx a_cn a_h a_k a_hp a_hl a_lv H.size e_fu 16 f_ba f_ad z34 z32 ⟨by decide, by decide⟩ (e_tk)) (cwV 1 hts gV_X7_102 rfl rfl rfl hv_X7_stepTo ⟨Nat.le_of_ble_eq_true rfl, Nat.le_of_ble_eq_true rfl⟩) (g5_preV hPc hK hDc hN hT hS hFc (ci := 7) (q0 := 0) rfl rfl) rfl rfl hl.1 rfl (lv_room (Nat.le_of_ble_eq_true rfl)) dX7_countRows_72 ⟨Nat.le_of_ble_eq_true rfl, Nat.le_of_ble_eq_true rfl⟩) hS (fun q _ h => hFc q h) hFc (fun u t H1 locs ht hvm hw hB hz1 hk1 hS => ?_)
                                    obtain ⟨hP1, hD1⟩ := hB
                                    rw [ht] at hP1
                                    obtain ⟨z36, rfl⟩ := hw
                                    obtain ⟨hP, hD⟩ := va_join (wr := []) hP hD [0, 1, 2, 4, 3] [] rfl rfl (by decide) (by decide) hk1 hFc hP1 hD1
                                    generalize H1 = H at hP hS ⊢
                                    refine g5_rs [(a_th, (oc7 a_h a_k a_ba a_ad e_fu a_cn a_nx a_hp a_hl a_lv)), (a_ba, (arJ G 24 f_ba)), (a_ad, (arI G 1536 f_ad)), (a_nx, (arJ G 2048 z34)), (a_cn, (arJ G 2048 z36))] hP hD (fun hP hD => ?_)
                                    refine lv_iinc (v := 17) (lv' := [(2, .int 17), (1, .int (e_fu + 1)), (0, .ref a_th)]) hx hb dX7_countRows_75 hl (k := 0) rfl (by decide) (by decide) rfl (fun ls hl => ?_)
                                    refine lv_goto (tgt := 64) hx hb dX7_countRows_78 (by decide) ?_
                                    refine lv_iload_n hx hb dX7_countRows_64 rfl (lv_at hl 0 rfl) ?_
                                    refine lv_bipush (v := 24) hx hb dX7_countRows_65 (by decide) ?_
                                    refine lv_icmp_ge (tgt := 81) hx hb dX7_countRows_67 (by decide) (fun c_37 => ?_) (fun c_37 => ?_)
                                    ·
                                      exact absurd c_37 (by decide)
                                    ·
                                      refine lv_aload_n hx hb dX7_countRows_70 rfl (lv_at hl 2 rfl) ?_
                                      refine lv_iload_n hx hb dX7_countRows_71 rfl (lv_at hl 0 rfl) ?_
                                      obtain ⟨hPc, hDc, hFc⟩ := g5_sub3 (wc := [(a_th, (oc7 a_h a_k a_ba a_ad e_fu a_cn a_nx a_hp a_hl a_lv)), (a_ba, (arJ G 24 f_ba)), (a_ad, (arI G 1536 f_ad)), (a_cn, (arJ G 2048 z36)), (a_nx, (arJ G 2048 z34))]) hP hD hS hA [0, 1, 2, 4, 3] (by decide) rfl
                                      refine va_callv (va_runV (As := [.int 17]) (rest := []) ⟨hx, hb, hml, hown, hts⟩ (th_step l G a_th a_ba a_ad a_cn a_nx a_h a_k a_hp a_hl a_lv H.size e_fu 17 f_ba f_ad z36 z34 ⟨by decide, by decide⟩ (e_tk)) (cwV 1 hts gV_X7_102 rfl rfl rfl hv_X7_stepTo ⟨Nat.le_of_ble_eq_true rfl, Nat.le_of_ble_eq_true rfl⟩) (g5_preV hPc hK hDc hN hT hS hFc (ci := 7) (q0 := 0) rfl rfl) rfl rfl hl.1 rfl (lv_room (Nat.le_of_ble_eq_true rfl)) dX7_countRows_72 ⟨Nat.le_of_ble_eq_true rfl, Nat.le_of_ble_eq_true rfl⟩) hS (fun q _ h => hFc q h) hFc (fun u t H1 locs ht hvm hw hB hz1 hk1 hS => ?_)
                                      obtain ⟨hP1, hD1⟩ := hB
                                      rw [ht] at hP1
                                      obtain ⟨z38, rfl⟩ := hw
                                      obtain ⟨hP, hD⟩ := va_join (wr := []) hP hD [0, 1, 2, 4, 3] [] rfl rfl (by decide) (by decide) hk1 hFc hP1 hD1
                                      generalize H1 = H at hP hS ⊢
                                      refine g5_rs [(a_th, (oc7 a_h a_k a_ba a_ad e_fu a_nx a_cn a_hp a_hl a_lv)), (a_ba, (arJ G 24 f_ba)), (a_ad, (arI G 1536 f_ad)), (a_cn, (arJ G 2048 z36)), (a_nx, (arJ G 2048 z38))] hP hD (fun hP hD => ?_)
                                      refine lv_iinc (v := 18) (lv' := [(2, .int 18), (1, .int (e_fu + 1)), (0, .ref a_th)]) hx hb dX7_countRows_75 hl (k := 0) rfl (by decide) (by decide) rfl (fun ls hl => ?_)
                                      refine lv_goto (tgt := 64) hx hb dX7_countRows_78 (by decide) ?_
                                      refine lv_iload_n hx hb dX7_countRows_64 rfl (lv_at hl 0 rfl) ?_
                                      refine lv_bipush (v := 24) hx hb dX7_countRows_65 (by decide) ?_
                                      refine lv_icmp_ge (tgt := 81) hx hb dX7_countRows_67 (by decide) (fun c_39 => ?_) (fun c_39 => ?_)
                                      ·
                                        exact absurd c_39 (by decide)
                                      ·
                                        refine lv_aload_n hx hb dX7_countRows_70 rfl (lv_at hl 2 rfl) ?_
                                        refine lv_iload_n hx hb dX7_countRows_71 rfl (lv_at hl 0 rfl) ?_
                                        obtain ⟨hPc, hDc, hFc⟩ := g5_sub3 (wc := [(a_th, (oc7 a_h a_k a_ba a_ad e_fu a_nx a_cn a_hp a_hl a_lv)), (a_ba, (arJ G 24 f_ba)), (a_ad, (arI G 1536 f_ad)), (a_nx, (arJ G 2048 z38)), (a_cn, (arJ G 2048 z36))]) hP hD hS hA [0, 1, 2, 4, 3] (by decide) rfl
                                        refine va_callv (va_runV (As := [.int 18]) (rest := []) ⟨hx, hb, hml, hown, hts⟩ (th_step l G a_th a_ba a_ad a_nx a_cn a_h a_k a_hp a_hl a_lv H.size e_fu 18 f_ba f_ad z38 z36 ⟨by decide, by decide⟩ (e_tk)) (cwV 1 hts gV_X7_102 rfl rfl rfl hv_X7_stepTo ⟨Nat.le_of_ble_eq_true rfl, Nat.le_of_ble_eq_true rfl⟩) (g5_preV hPc hK hDc hN hT hS hFc (ci := 7) (q0 := 0) rfl rfl) rfl rfl hl.1 rfl (lv_room (Nat.le_of_ble_eq_true rfl)) dX7_countRows_72 ⟨Nat.le_of_ble_eq_true rfl, Nat.le_of_ble_eq_true rfl⟩) hS (fun q _ h => hFc q h) hFc (fun u t H1 locs ht hvm hw hB hz1 hk1 hS => ?_)
                                        obtain ⟨hP1, hD1⟩ := hB
                                        rw [ht] at hP1
                                        obtain ⟨z40, rfl⟩ := hw
                                        obtain ⟨hP, hD⟩ := va_join (wr := []) hP hD [0, 1, 2, 4, 3] [] rfl rfl (by decide) (by decide) hk1 hFc hP1 hD1
                                        generalize H1 = H at hP hS ⊢
                                        refine g5_rs [(a_th, (oc7 a_h a_k a_ba a_ad e_fu a_cn a_nx a_hp a_hl a_lv)), (a_ba, (arJ G 24 f_ba)), (a_ad, (arI G 1536 f_ad)), (a_nx, (arJ G 2048 z38)), (a_cn, (arJ G 2048 z40))] hP hD (fun hP hD => ?_)
                                        refine lv_iinc (v := 19) (lv' := [(2, .int 19), (1, .int (e_fu + 1)), (0, .ref a_th)]) hx hb dX7_countRows_75 hl (k := 0) rfl (by decide) (by decide) rfl (fun ls hl => ?_)
                                        refine lv_goto (tgt := 64) hx hb dX7_countRows_78 (by decide) ?_
                                        refine lv_iload_n hx hb dX7_countRows_64 rfl (lv_at hl 0 rfl) ?_
                                        refine lv_bipush (v := 24) hx hb dX7_countRows_65 (by decide) ?_
                                        refine lv_icmp_ge (tgt := 81) hx hb dX7_countRows_67 (by decide) (fun c_41 => ?_) (fun c_41 => ?_)
                                        ·
                                          exact absurd c_41 (by decide)
                                        ·
                                          refine lv_aload_n hx hb dX7_countRows_70 rfl (lv_at hl 2 rfl) ?_
                                          refine lv_iload_n hx hb dX7_countRows_71 rfl (lv_at hl 0 rfl) ?_
                                          obtain ⟨hPc, hDc, hFc⟩ := g5_sub3 (wc := [(a_th, (oc7 a_h a_k a_ba a_ad e_fu a_cn a_nx a_hp a_hl a_lv)), (a_ba, (arJ G 24 f_ba)), (a_ad, (arI G 1536 f_ad)), (a_cn, (arJ G 2048 z40)), (a_nx, (arJ G 2048 z38))]) hP hD hS hA [0, 1, 2, 4, 3] (by decide) rfl
                                          refine va_callv (va_runV (As := [.int 19]) (rest := []) ⟨hx, hb, hml, hown, hts⟩ (th_step l G a_th a_ba a_ad a_cn a_nx a_h a_k a_hp a_hl a_lv H.size e_fu 19 f_ba f_ad z40 z38 ⟨by decide, by decide⟩ (e_tk)) (cwV 1 hts gV_X7_102 rfl rfl rfl hv_X7_stepTo ⟨Nat.le_of_ble_eq_true rfl, Nat.le_of_ble_eq_true rfl⟩) (g5_preV hPc hK hDc hN hT hS hFc (ci := 7) (q0 := 0) rfl rfl) rfl rfl hl.1 rfl (lv_room (Nat.le_of_ble_eq_true rfl)) dX7_countRows_72 ⟨Nat.le_of_ble_eq_true rfl, Nat.le_of_ble_eq_true rfl⟩) hS (fun q _ h => hFc q h) hFc (fun u t H1 locs ht hvm hw hB hz1 hk1 hS => ?_)
                                          obtain ⟨hP1, hD1⟩ := hB
                                          rw [ht] at hP1
                                          obtain ⟨z42, rfl⟩ := hw
                                          obtain ⟨hP, hD⟩ := va_join (wr := []) hP hD [0, 1, 2, 4, 3] [] rfl rfl (by decide) (by decide) hk1 hFc hP1 hD1
                                          generalize H1 = H at hP hS ⊢
                                          refine g5_rs [(a_th, (oc7 a_h a_k a_ba a_ad e_fu a_nx a_cn a_hp a_hl a_lv)), (a_ba, (arJ G 24 f_ba)), (a_ad, (arI G 1536 f_ad)), (a_cn, (arJ G 2048 z40)), (a_nx, (arJ G 2048 z42))] hP hD (fun hP hD => ?_)
                                          refine lv_iinc (v := 20) (lv' := [(2, .int 20), (1, .int (e_fu + 1)), (0, .ref a_th)]) hx hb dX7_countRows_75 hl (k := 0) rfl (by decide) (by decide) rfl (fun ls hl => ?_)
                                          refine lv_goto (tgt := 64) hx hb dX7_countRows_78 (by decide) ?_
                                          refine lv_iload_n hx hb dX7_countRows_64 rfl (lv_at hl 0 rfl) ?_
                                          refine lv_bipush (v := 24) hx hb dX7_countRows_65 (by decide) ?_
                                          refine lv_icmp_ge (tgt := 81) hx hb dX7_countRows_67 (by decide) (fun c_43 => ?_) (fun c_43 => ?_)
                                          ·
                                            exact absurd c_43 (by decide)
                                          ·
                                            refine lv_aload_n hx hb dX7_countRows_70 rfl (lv_at hl 2 rfl) ?_
                                            refine lv_iload_n hx hb dX7_countRows_71 rfl (lv_at hl 0 rfl) ?_
                                            obtain ⟨hPc, hDc, hFc⟩ := g5_sub3 (wc := [(a_th, (oc7 a_h a_k a_ba a_ad e_fu a_nx a_cn a_hp a_hl a_lv)), (a_ba, (arJ G 24 f_ba)), (a_ad, (arI G 1536 f_ad)), (a_nx, (arJ G 2048 z42)), (a_cn, (arJ G 2048 z40))]) hP hD hS hA [0, 1, 2, 4, 3] (by decide) rfl
                                            refine va_callv (va_runV (As := [.int 20]) (rest := []) ⟨hx, hb, hml, hown, hts⟩ (th_step l G a_th a_ba a_ad a_nx a_cn a_h a_k a_hp a_hl a_lv H.size e_fu 20 f_ba f_ad z42 z40 ⟨by decide, by decide⟩ (e_tk)) (cwV 1 hts gV_X7_102 rfl rfl rfl hv_X7_stepTo ⟨Nat.le_of_ble_eq_true rfl, Nat.le_of_ble_eq_true rfl⟩) (g5_preV hPc hK hDc hN hT hS hFc (ci := 7) (q0 := 0) rfl rfl) rfl rfl hl.1 rfl (lv_room (Nat.le_of_ble_eq_true rfl)) dX7_countRows_72 ⟨Nat.le_of_ble_eq_true rfl, Nat.le_of_ble_eq_true rfl⟩) hS (fun q _ h => hFc q h) hFc (fun u t H1 locs ht hvm hw hB hz1 hk1 hS => ?_)
                                            obtain ⟨hP1, hD1⟩ := hB
                                            rw [ht] at hP1
                                            obtain ⟨z44, rfl⟩ := hw
                                            obtain ⟨hP, hD⟩ := va_join (wr := []) hP hD [0, 1, 2, 4, 3] [] rfl rfl (by decide) (by decide) hk1 hFc hP1 hD1
                                            generalize H1 = H at hP hS ⊢
                                            refine g5_rs [(a_th, (oc7 a_h a_k a_ba a_ad e_fu a_cn a_nx a_hp a_hl a_lv)), (a_ba, (arJ G 24 f_ba)), (a_ad, (arI G 1536 f_ad)), (a_nx, (arJ G 2048 z42)), (a_cn, (arJ G 2048 z44))] hP hD (fun hP hD => ?_)
                                            refine lv_iinc (v := 21) (lv' := [(2, .int 21), (1, .int (e_fu + 1)), (0, .ref a_th)]) hx hb dX7_countRows_75 hl (k := 0) rfl (by decide) (by decide) rfl (fun ls hl => ?_)
                                            refine lv_goto (tgt := 64) hx hb dX7_countRows_78 (by decide) ?_
                                            refine lv_iload_n hx hb dX7_countRows_64 rfl (lv_at hl 0 rfl) ?_
                                            refine lv_bipush (v := 24) hx hb dX7_countRows_65 (by decide) ?_
                                            refine lv_icmp_ge (tgt := 81) hx hb dX7_countRows_67 (by decide) (fun c_45 => ?_) (fun c_45 => ?_)
                                            ·
                                              exact absurd c_45 (by decide)
                                            ·
                                              refine lv_aload_n hx hb dX7_countRows_70 rfl (lv_at hl 2 rfl) ?_
                                              refine lv_iload_n hx hb dX7_countRows_71 rfl (lv_at hl 0 rfl) ?_
                                              obtain ⟨hPc, hDc, hFc⟩ := g5_sub3 (wc := [(a_th, (oc7 a_h a_k a_ba a_ad e_fu a_cn a_nx a_hp a_hl a_lv)), (a_ba, (arJ G 24 f_ba)), (a_ad, (arI G 1536 f_ad)), (a_cn, (arJ G 2048 z44)), (a_nx, (arJ G 2048 z42))]) hP hD hS hA [0, 1, 2, 4, 3] (by decide) rfl
                                              refine va_callv (va_runV (As := [.int 21]) (rest := []) ⟨hx, hb, hml, hown, hts⟩ (th_step l G a_th a_ba a_ad a_cn a_nx a_h a_k a_hp a_hl a_lv H.size e_fu 21 f_ba f_ad z44 z42 ⟨by decide, by decide⟩ (e_tk)) (cwV 1 hts gV_X7_102 rfl rfl rfl hv_X7_stepTo ⟨Nat.le_of_ble_eq_true rfl, Nat.le_of_ble_eq_true rfl⟩) (g5_preV hPc hK hDc hN hT hS hFc (ci := 7) (q0 := 0) rfl rfl) rfl rfl hl.1 rfl (lv_room (Nat.le_of_ble_eq_true rfl)) dX7_countRows_72 ⟨Nat.le_of_ble_eq_true rfl, Nat.le_of_ble_eq_true rfl⟩) hS (fun q _ h => hFc q h) hFc (fun u t H1 locs ht hvm hw hB hz1 hk1 hS => ?_)
                                              obtain ⟨hP1, hD1⟩ := hB
                                              rw [ht] at hP1
                                              obtain ⟨z46, rfl⟩ := hw
                                              obtain ⟨hP, hD⟩ := va_join (wr := []) hP hD [0, 1, 2, 4, 3] [] rfl rfl (by decide) (by decide) hk1 hFc hP1 hD1
                                              generalize H1 = H at hP hS ⊢
                                              refine g5_rs [(a_th, (oc7 a_h a_k a_ba a_ad e_fu a_nx a_cn a_hp a_hl a_lv)), (a_ba, (arJ G 24 f_ba)), (a_ad, (arI G 1536 f_ad)), (a_cn, (arJ G 2048 z44)), (a_nx, (arJ G 2048 z46))] hP hD (fun hP hD => ?_)
                                              refine lv_iinc (v := 22) (lv' := [(2, .int 22), (1, .int (e_fu + 1)), (0, .ref a_th)]) hx hb dX7_countRows_75 hl (k := 0) rfl (by decide) (by decide) rfl (fun ls hl => ?_)
                                              refine lv_goto (tgt := 64) hx hb dX7_countRows_78 (by decide) ?_
                                              refine lv_iload_n hx hb dX7_countRows_64 rfl (lv_at hl 0 rfl) ?_
                                              refine lv_bipush (v := 24) hx hb dX7_countRows_65 (by decide) ?_
                                              refine lv_icmp_ge (tgt := 81) hx hb dX7_countRows_67 (by decide) (fun c_47 => ?_) (fun c_47 => ?_)
                                              ·
                                                exact absurd c_47 (by decide)
                                              ·
                                                refine lv_aload_n hx hb dX7_countRows_70 rfl (lv_at hl 2 rfl) ?_
                                                refine lv_iload_n hx hb dX7_countRows_71 rfl (lv_at hl 0 rfl) ?_
                                                obtain ⟨hPc, hDc, hFc⟩ := g5_sub3 (wc := [(a_th, (oc7 a_h a_k a_ba a_ad e_fu a_nx a_cn a_hp a_hl a_lv)), (a_ba, (arJ G 24 f_ba)), (a_ad, (arI G 1536 f_ad)), (a_nx, (arJ G 2048 z46)), (a_cn, (arJ G 2048 z44))]) hP hD hS hA [0, 1, 2, 4, 3] (by decide) rfl
                                                refine va_callv (va_runV (As := [.int 22]) (rest := []) ⟨hx, hb, hml, hown, hts⟩ (th_step l G a_th a_ba a_ad a_nx a_cn a_h a_k a_hp a_hl a_lv H.size e_fu 22 f_ba f_ad z46 z44 ⟨by decide, by decide⟩ (e_tk)) (cwV 1 hts gV_X7_102 rfl rfl rfl hv_X7_stepTo ⟨Nat.le_of_ble_eq_true rfl, Nat.le_of_ble_eq_true rfl⟩) (g5_preV hPc hK hDc hN hT hS hFc (ci := 7) (q0 := 0) rfl rfl) rfl rfl hl.1 rfl (lv_room (Nat.le_of_ble_eq_true rfl)) dX7_countRows_72 ⟨Nat.le_of_ble_eq_true rfl, Nat.le_of_ble_eq_true rfl⟩) hS (fun q _ h => hFc q h) hFc (fun u t H1 locs ht hvm hw hB hz1 hk1 hS => ?_)
                                                obtain ⟨hP1, hD1⟩ := hB
                                                rw [ht] at hP1
                                                obtain ⟨z48, rfl⟩ := hw
                                                obtain ⟨hP, hD⟩ := va_join (wr := []) hP hD [0, 1, 2, 4, 3] [] rfl rfl (by decide) (by decide) hk1 hFc hP1 hD1
                                                generalize H1 = H at hP hS ⊢
                                                refine g5_rs [(a_th, (oc7 a_h a_k a_ba a_ad e_fu a_cn a_nx a_hp a_hl a_lv)), (a_ba, (arJ G 24 f_ba)), (a_ad, (arI G 1536 f_ad)), (a_nx, (arJ G 2048 z46)), (a_cn, (arJ G 2048 z48))] hP hD (fun hP hD => ?_)
                                                refine lv_iinc (v := 23) (lv' := [(2, .int 23), (1, .int (e_fu + 1)), (0, .ref a_th)]) hx hb dX7_countRows_75 hl (k := 0) rfl (by decide) (by decide) rfl (fun ls hl => ?_)
                                                refine lv_goto (tgt := 64) hx hb dX7_countRows_78 (by decide) ?_
                                                refine lv_iload_n hx hb dX7_countRows_64 rfl (lv_at hl 0 rfl) ?_
                                                refine lv_bipush (v := 24) hx hb dX7_countRows_65 (by decide) ?_
                                                refine lv_icmp_ge (tgt := 81) hx hb dX7_countRows_67 (by decide) (fun c_49 => ?_) (fun c_49 => ?_)
                                                ·
                                                  exact absurd c_49 (by decide)
                                                ·
                                                  refine lv_aload_n hx hb dX7_countRows_70 rfl (lv_at hl 2 rfl) ?_
                                                  refine lv_iload_n hx hb dX7_countRows_71 rfl (lv_at hl 0 rfl) ?_
                                                  obtain ⟨hPc, hDc, hFc⟩ := g5_sub3 (wc := [(a_th, (oc7 a_h a_k a_ba a_ad e_fu a_cn a_nx a_hp a_hl a_lv)), (a_ba, (arJ G 24 f_ba)), (a_ad, (arI G 1536 f_ad)), (a_cn, (arJ G 2048 z48)), (a_nx, (arJ G 2048 z46))]) hP hD hS hA [0, 1, 2, 4, 3] (by decide) rfl
                                                  refine va_callv (va_runV (As := [.int 23]) (rest := []) ⟨hx, hb, hml, hown, hts⟩ (th_step l G a_th a_ba a_ad a_cn a_nx a_h a_k a_hp a_hl a_lv H.size e_fu 23 f_ba f_ad z48 z46 ⟨by decide, by decide⟩ (e_tk)) (cwV 1 hts gV_X7_102 rfl rfl rfl hv_X7_stepTo ⟨Nat.le_of_ble_eq_true rfl, Nat.le_of_ble_eq_true rfl⟩) (g5_preV hPc hK hDc hN hT hS hFc (ci := 7) (q0 := 0) rfl rfl) rfl rfl hl.1 rfl (lv_room (Nat.le_of_ble_eq_true rfl)) dX7_countRows_72 ⟨Nat.le_of_ble_eq_true rfl, Nat.le_of_ble_eq_true rfl⟩) hS (fun q _ h => hFc q h) hFc (fun u t H1 locs ht hvm hw hB hz1 hk1 hS => ?_)
                                                  obtain ⟨hP1, hD1⟩ := hB
                                                  rw [ht] at hP1
                                                  obtain ⟨z50, rfl⟩ := hw
                                                  obtain ⟨hP, hD⟩ := va_join (wr := []) hP hD [0, 1, 2, 4, 3] [] rfl rfl (by decide) (by decide) hk1 hFc hP1 hD1
                                                  generalize H1 = H at hP hS ⊢
                                                  refine g5_rs [(a_th, (oc7 a_h a_k a_ba a_ad e_fu a_nx a_cn a_hp a_hl a_lv)), (a_ba, (arJ G 24 f_ba)), (a_ad, (arI G 1536 f_ad)), (a_cn, (arJ G 2048 z48)), (a_nx, (arJ G 2048 z50))] hP hD (fun hP hD => ?_)
                                                  refine lv_iinc (v := 24) (lv' := [(2, .int 24), (1, .int (e_fu + 1)), (0, .ref a_th)]) hx hb dX7_countRows_75 hl (k := 0) rfl (by decide) (by decide) rfl (fun ls hl => ?_)
                                                  refine lv_goto (tgt := 64) hx hb dX7_countRows_78 (by decide) ?_
                                                  refine lv_iload_n hx hb dX7_countRows_64 rfl (lv_at hl 0 rfl) ?_
                                                  refine lv_bipush (v := 24) hx hb dX7_countRows_65 (by decide) ?_
                                                  refine lv_icmp_ge (tgt := 81) hx hb dX7_countRows_67 (by decide) (fun c_51 => ?_) (fun c_51 => ?_)
                                                  ·
                                                    refine lv_lconst (v := 0) hx hb dX7_countRows_81 (by decide) ?_
                                                    refine lv_lstore_n (lv' := [(2, .long 0), (1, .int (e_fu + 1)), (0, .ref a_th)]) hx hb dX7_countRows_82 rfl hl (by decide) rfl (fun ls hl => ?_)
                                                    refine lv_iconst (v := 0) hx hb dX7_countRows_83 (by decide) ?_
                                                    refine lv_istore (lv' := [(4, .int 0), (2, .long 0), (1, .int (e_fu + 1)), (0, .ref a_th)]) hx hb dX7_countRows_84 hl (by decide) rfl (fun ls hl => ?_)
                                                    refine g5_loop (α := (Int32) × (Int64)) (fun (q : (Int32) × (Int64)) (ls : Array Slot) (H : Heap) (locs : List Loc) => match q with | (n_c, n_x) => lv_has ls 5 [(2, .long n_x), (4, .int n_c), (1, .int (e_fu + 1)), (0, .ref a_th)] ∧ va_P G.1 vwCl [(a_th, (oc7 a_h a_k a_ba a_ad e_fu a_nx a_cn a_hp a_hl a_lv)), (a_ba, (arJ G 24 f_ba)), (a_ad, (arI G 1536 f_ad)), (a_cn, (arJ G 2048 z48)), (a_nx, (arJ G 2048 z50))] H ∧ va_D A [(a_th, (oc7 a_h a_k a_ba a_ad e_fu a_nx a_cn a_hp a_hl a_lv)), (a_ba, (arJ G 24 f_ba)), (a_ad, (arI G 1536 f_ad)), (a_cn, (arJ G 2048 z48)), (a_nx, (arJ G 2048 z50))] ∧ va_S A s.heap H locs ∧ (0 ≤ n_c.toInt ∧ n_c.toInt ≤ 64)) (fun (q : (Int32) × (Int64)) => match q with | (n_c, n_x) => Int.toNat (64 - n_c.toInt)) (0, 0) ⟨lv_sub hl [1, 0, 2, 3] rfl, hP, hD, hS, ⟨by decide, by decide⟩⟩ ?_
                                                    rintro ⟨n_c, n_x⟩ ls H locs ⟨hl, hP, hD, hS, i_52⟩ ih_86_53
                                                    have hl : lv_has ls 5 [(2, .long n_x), (4, .int n_c), (1, .int (e_fu + 1)), (0, .ref a_th)] := hl
                                                    have i_52 : 0 ≤ n_c.toInt ∧ n_c.toInt ≤ 64 := i_52
                                                    refine g5_rs [(a_th, (oc7 a_h a_k a_ba a_ad e_fu a_nx a_cn a_hp a_hl a_lv)), (a_ba, (arJ G 24 f_ba)), (a_ad, (arI G 1536 f_ad)), (a_cn, (arJ G 2048 z48)), (a_nx, (arJ G 2048 z50))] hP hD (fun hP hD => ?_)
                                                    refine lv_iload hx hb dX7_countRows_86 (lv_at hl 1 rfl) ?_
                                                    refine lv_bipush (v := 64) hx hb dX7_countRows_88 (by decide) ?_
                                                    refine lv_icmp_ge (tgt := 116) hx hb dX7_countRows_90 (by decide) (fun c_54 => ?_) (fun c_54 => ?_)
                                                    ·
                                                      have i_54 : n_c.toInt ≥ 64 := by have z := g5_ge (a := n_c.toInt) (b := 64) (by rfl) (by decide) c_54; omega
                                                      refine lv_lload_n hx hb dX7_countRows_116 rfl (lv_at hl 0 rfl) ?_
                                                      exact W.lret (v := n_x) hx hb hr (fun t ht hW => ⟨⟨n_x, [(a_th, (oc7 a_h a_k a_ba a_ad e_fu a_nx a_cn a_hp a_hl a_lv)), (a_ba, (arJ G 24 f_ba)), (a_ad, (arI G 1536 f_ad)), (a_cn, (arJ G 2048 z48)), (a_nx, (arJ G 2048 z50))], rfl, ⟨n_x, z48, z50, rfl, rfl⟩, by rw [ht]; exact hP.sub [0, 1, 2, 3, 4] rfl, hD.sub [0, 1, 2, 3, 4] (by decide) rfl⟩, hS.F ht⟩) hS.2.2 dX7_countRows_117
                                                    ·
                                                      have i_54 : n_c.toInt < 64 := by have z := g5_geN (a := n_c.toInt) (b := 64) (by rfl) (by decide) c_54; omega
                                                      refine lv_lload_n hx hb dX7_countRows_93 rfl (lv_at hl 0 rfl) ?_
                                                      refine lv_aload_n hx hb dX7_countRows_94 rfl (lv_at hl 3 rfl) ?_
                                                      refine va_get (D := G.1) (ci := 7) (v := .ref a_nx) (C := RX7) (T := TX7) (N := 10) hx hb hts inG_X7 hown hK hP 0 rfl rfl 5 (by decide) (hts _ fl_X7_19) (fun _ h9 => h9) rfl dX7_countRows_95 ?_
                                                      refine lv_iload hx hb dX7_countRows_98 (lv_at hl 1 rfl) ?_
                                                      refine lv_iload_n hx hb dX7_countRows_100 rfl (lv_at hl 2 rfl) ?_
                                                      refine lv_imul hx hb dX7_countRows_101 ?_
                                                      have hm_55 := g_mulc (c := n_c) (m := (e_fu + 1)) ⟨by omega, by omega⟩ ⟨by omega, by omega⟩
                                                      refine lv_aload_n hx hb dX7_countRows_102 rfl (lv_at hl 3 rfl) ?_
                                                      refine va_get (D := G.1) (ci := 7) (v := .int e_fu) (C := RX7) (T := TX7) (N := 10) hx hb hts inG_X7 hown hK hP 0 rfl rfl 4 (by decide) (hts _ fl_X7_89) (fun _ h9 => h9) rfl dX7_countRows_103 ?_
                                                      refine lv_iadd hx hb dX7_countRows_106 ?_
                                                      have t_56 : ((n_c * (e_fu + 1)) + e_fu).toInt = (n_c * (e_fu + 1)).toInt + e_fu.toInt := g5_iadd (a := (n_c * (e_fu + 1)).toInt) (b := e_fu.toInt) (by rfl) (by rfl) (by omega) (by omega)
                                                      refine va_lald hx hb hK hP 4 1 rfl rfl (i := ((n_c * (e_fu + 1)) + e_fu)) (vp_in_iff.mpr ⟨by omega, by omega⟩) dX7_countRows_107 ?_
                                                      refine lv_ladd hx hb dX7_countRows_108 ?_
                                                      refine lv_lstore_n (lv' := [(2, .long (n_x + (z50 ((n_c * (e_fu + 1)) + e_fu).toNatClampNeg))), (4, .int n_c), (1, .int (e_fu + 1)), (0, .ref a_th)]) hx hb dX7_countRows_109 rfl hl (by decide) rfl (fun ls hl => ?_)
                                                      refine lv_iinc (v := (n_c + 1)) (lv' := [(4, .int (n_c + 1)), (2, .long (n_x + (z50 ((n_c * (e_fu + 1)) + e_fu).toNatClampNeg))), (1, .int (e_fu + 1)), (0, .ref a_th)]) hx hb dX7_countRows_110 hl (k := 1) rfl rfl (by decide) rfl (fun ls hl => ?_)
                                                      have t_57 : (n_c + 1).toInt = n_c.toInt + 1 := g5_iadd (a := n_c.toInt) (b := 1) rfl (by decide) (by omega) (by omega)
                                                      refine lv_goto (tgt := 86) hx hb dX7_countRows_113 (by decide) ?_
                                                      exact ih_86_53 ((n_c + 1), (n_x + (z50 ((n_c * (e_fu + 1)) + e_fu).toNatClampNeg))) ls H locs (show Int.toNat (64 - (n_c + 1).toInt) < Int.toNat (64 - n_c.toInt) from g_up (show n_c.toInt < (n_c + 1).toInt by omega) (show n_c.toInt < 64 by omega)) ⟨lv_sub hl [1, 0, 2, 3] rfl, hP, hD, hS, ⟨by omega, by omega⟩⟩
                                                  ·
                                                    exact absurd c_51 (by decide)
  ·
    have i_4 : k_c.toInt < 64 := by have z := g5_geN (a := k_c.toInt) (b := 64) (by rfl) (by decide) c_4; omega
    refine lv_aload_n hx hb dX7_countRows_23 rfl (lv_at hl 2 rfl) ?_
    refine va_get (D := G.1) (ci := 7) (v := .ref a_cn) (C := RX7) (T := TX7) (N := 10) hx hb hts inG_X7 hown hK hP 0 rfl rfl 5 (by decide) (hts _ fl_X7_19) (fun _ h9 => h9) rfl dX7_countRows_24 ?_
    refine lv_iload_n hx hb dX7_countRows_27 rfl (lv_at hl 0 rfl) ?_
    refine lv_iload_n hx hb dX7_countRows_28 rfl (lv_at hl 1 rfl) ?_
    refine lv_imul hx hb dX7_countRows_29 ?_
    have hm_58 := g_mulc (c := k_c) (m := (e_fu + 1)) ⟨by omega, by omega⟩ ⟨by omega, by omega⟩
    refine lv_aload_n hx hb dX7_countRows_30 rfl (lv_at hl 2 rfl) ?_
    refine va_get (D := G.1) (ci := 7) (v := .ref a_ad) (C := RX7) (T := TX7) (N := 10) hx hb hts inG_X7 hown hK hP 0 rfl rfl 3 (by decide) (hts _ fl_X7_15) (fun _ h9 => h9) rfl dX7_countRows_31 ?_
    refine lv_iload_n hx hb dX7_countRows_34 rfl (lv_at hl 0 rfl) ?_
    refine va_iald hx hb hK hP 2 0 rfl rfl (i := k_c) (vp_in_iff.mpr ⟨by omega, by omega⟩) dX7_countRows_35 ?_
    have hp_59 : 0 ≤ (f_ad k_c.toNatClampNeg).toInt ∧ (f_ad k_c.toNatClampNeg).toInt ≤ e_fu.toInt := tk_ad e_tk (by have zz := g5_clamp k_c; omega)
    refine lv_iadd hx hb dX7_countRows_36 ?_
    have t_60 : ((k_c * (e_fu + 1)) + (f_ad k_c.toNatClampNeg)).toInt = (k_c * (e_fu + 1)).toInt + (f_ad k_c.toNatClampNeg).toInt := g5_iadd (a := (k_c * (e_fu + 1)).toInt) (b := (f_ad k_c.toNatClampNeg).toInt) (by rfl) (by rfl) (by omega) (by omega)
    refine lv_aload_n hx hb dX7_countRows_37 rfl (lv_at hl 2 rfl) ?_
    refine va_get (D := G.1) (ci := 7) (v := .ref a_ba) (C := RX7) (T := TX7) (N := 10) hx hb hts inG_X7 hown hK hP 0 rfl rfl 2 (by decide) (hts _ fl_X7_9) (fun _ h9 => h9) rfl dX7_countRows_38 ?_
    refine lv_iconst (v := 0) hx hb dX7_countRows_41 (by decide) ?_
    refine va_lald hx hb hK hP 1 1 rfl rfl (i := 0) (by unfold vp_in; decide) dX7_countRows_42 ?_
    refine g5_tl (v := (f_ba 0)) rfl ?_
    refine lv_iload_n hx hb dX7_countRows_43 rfl (lv_at hl 0 rfl) ?_
    obtain ⟨hPc, hDc, hFc⟩ := g5_sub3 (wc := []) hP hD hS hA [] (by decide) rfl
    refine va_calli (va_runSN (As := [.long (f_ba 0), .int k_c]) (rest := [.int ((k_c * (e_fu + 1)) + (f_ad k_c.toNatClampNeg)), .ref a_cn]) ⟨hx, hb, hml, hown, hts⟩ (k_isOn l G H.size k_c (f_ba 0) ⟨by omega, by omega⟩) ⟨va_cnB 2 hts gW_X11_isOn rfl rfl rfl (hN.1 _ g5_nw_X7_98) (hts _ ini_X11) hs_X11_isOn ⟨Nat.le_of_ble_eq_true rfl, Nat.le_of_ble_eq_true rfl⟩, hts _ st_X11_isOn, trivial⟩ (g5_preS hPc hK hDc hN hT hS hFc) rfl rfl hl.1 rfl (lv_room (Nat.le_of_ble_eq_true rfl)) dX7_countRows_44 ⟨Nat.le_of_ble_eq_true rfl, Nat.le_of_ble_eq_true rfl⟩) hS (fun q _ h => hFc q h) hFc (fun r u t H1 locs ht hvm hw hB hz1 hk1 hS => ?_)
    obtain ⟨hP1, hD1⟩ := hB
    rw [ht] at hP1
    rcases hw with ⟨i_61, rfl, rfl⟩ | ⟨i_62, rfl, rfl⟩
    ·
      have i_61 : onB (f_ba 0) k_c.toInt = false := i_61
      have hP := g5_same hP hk1
      generalize H1 = H at hP hS ⊢
      refine lv_if_eq (tgt := 54) hx hb dX7_countRows_47 (by decide) (fun c_63 => ?_) (fun c_63 => ?_)
      ·
        refine lv_lconst (v := 1) hx hb dX7_countRows_54 (by decide) ?_
        refine va_last hx hb hK hP hD hS 4 1 rfl rfl (i := ((k_c * (e_fu + 1)) + (f_ad k_c.toNatClampNeg))) (x := 1) (vp_in_iff.mpr ⟨by omega, by omega⟩) dX7_countRows_55 (fun H locs hP hD hS => ?_)
        refine g5_rs [(a_th, (oc7 a_h a_k a_ba a_ad e_fu a_cn a_nx a_hp a_hl a_lv)), (a_ba, (arJ G 24 f_ba)), (a_ad, (arI G 1536 f_ad)), (a_nx, (arJ G 2048 f_nx)), (a_cn, (arJ G 2048 (vp_updL k_f ((k_c * (e_fu + 1)) + (f_ad k_c.toNatClampNeg)).toNatClampNeg 1)))] hP hD (fun hP hD => ?_)
        refine lv_iinc (v := (k_c + 1)) (lv' := [(2, .int (k_c + 1)), (1, .int (e_fu + 1)), (0, .ref a_th)]) hx hb dX7_countRows_56 hl (k := 0) rfl rfl (by decide) rfl (fun ls hl => ?_)
        have t_64 : (k_c + 1).toInt = k_c.toInt + 1 := g5_iadd (a := k_c.toInt) (b := 1) rfl (by decide) (by omega) (by omega)
        refine lv_goto (tgt := 17) hx hb dX7_countRows_59 (by decide) ?_
        exact ih_17_3 ((k_c + 1), (vp_updL k_f ((k_c * (e_fu + 1)) + (f_ad k_c.toNatClampNeg)).toNatClampNeg 1)) ls H locs (show Int.toNat (64 - (k_c + 1).toInt) < Int.toNat (64 - k_c.toInt) from g_up (show k_c.toInt < (k_c + 1).toInt by omega) (show k_c.toInt < 64 by omega)) ⟨lv_sub hl [0, 1, 2] rfl, hP, hD, hS, ⟨by omega, by omega⟩⟩
      ·
        exact absurd c_63 (by decide)
    ·
      have i_62 : onB (f_ba 0) k_c.toInt = true := i_62
      have hP := g5_same hP hk1
      generalize H1 = H at hP hS ⊢
      refine lv_if_eq (tgt := 54) hx hb dX7_countRows_47 (by decide) (fun c_65 => ?_) (fun c_65 => ?_)
      ·
        exact absurd c_65 (by decide)
      ·
        refine lv_lconst (v := 0) hx hb dX7_countRows_50 (by decide) ?_
        refine lv_goto (tgt := 55) hx hb dX7_countRows_51 (by decide) ?_
        refine va_last hx hb hK hP hD hS 4 1 rfl rfl (i := ((k_c * (e_fu + 1)) + (f_ad k_c.toNatClampNeg))) (x := 0) (vp_in_iff.mpr ⟨by omega, by omega⟩) dX7_countRows_55 (fun H locs hP hD hS => ?_)
        refine g5_rs [(a_th, (oc7 a_h a_k a_ba a_ad e_fu a_cn a_nx a_hp a_hl a_lv)), (a_ba, (arJ G 24 f_ba)), (a_ad, (arI G 1536 f_ad)), (a_nx, (arJ G 2048 f_nx)), (a_cn, (arJ G 2048 (vp_updL k_f ((k_c * (e_fu + 1)) + (f_ad k_c.toNatClampNeg)).toNatClampNeg 0)))] hP hD (fun hP hD => ?_)
        refine lv_iinc (v := (k_c + 1)) (lv' := [(2, .int (k_c + 1)), (1, .int (e_fu + 1)), (0, .ref a_th)]) hx hb dX7_countRows_56 hl (k := 0) rfl rfl (by decide) rfl (fun ls hl => ?_)
        have t_66 : (k_c + 1).toInt = k_c.toInt + 1 := g5_iadd (a := k_c.toInt) (b := 1) rfl (by decide) (by omega) (by omega)
        refine lv_goto (tgt := 17) hx hb dX7_countRows_59 (by decide) ?_
        exact ih_17_3 ((k_c + 1), (vp_updL k_f ((k_c * (e_fu + 1)) + (f_ad k_c.toNatClampNeg)).toNatClampNeg 0)) ls H locs (show Int.toNat (64 - (k_c + 1).toInt) < Int.toNat (64 - k_c.toInt) from g_up (show k_c.toInt < (k_c + 1).toInt by omega) (show k_c.toInt < 64 by omega)) ⟨lv_sub hl [0, 1, 2] rfl, hP, hD, hS, ⟨by omega, by omega⟩⟩
theorem dgX7_allSightings_0 : ∀ r ∈ ([(0, (.iconst 1, 1)), (1, (.aload_n 0, 1)), (2, (.getfield 34, 3)), (5, (.getfield 42, 3)), (8, (.getfield 48, 3)), (11, (.ishl, 1)), (12, (.iconst 1, 1)), (13, (.isub, 1)), (14, (.ireturn, 1))] : List (Nat × (Instr × Nat))), decode cX7_allSightings r.1 = .ok r.2 := by decide +kernel
theorem dX7_allSightings_0 : decode cX7_allSightings 0 = .ok (.iconst 1, 1) := dgX7_allSightings_0 (0, (.iconst 1, 1)) (List.mem_of_getElem? (i := 0) rfl)
theorem dX7_allSightings_1 : decode cX7_allSightings 1 = .ok (.aload_n 0, 1) := dgX7_allSightings_0 (1, (.aload_n 0, 1)) (List.mem_of_getElem? (i := 1) rfl)
theorem dX7_allSightings_2 : decode cX7_allSightings 2 = .ok (.getfield 34, 3) := dgX7_allSightings_0 (2, (.getfield 34, 3)) (List.mem_of_getElem? (i := 2) rfl)
theorem dX7_allSightings_5 : decode cX7_allSightings 5 = .ok (.getfield 42, 3) := dgX7_allSightings_0 (5, (.getfield 42, 3)) (List.mem_of_getElem? (i := 3) rfl)
theorem dX7_allSightings_8 : decode cX7_allSightings 8 = .ok (.getfield 48, 3) := dgX7_allSightings_0 (8, (.getfield 48, 3)) (List.mem_of_getElem? (i := 4) rfl)
theorem dX7_allSightings_11 : decode cX7_allSightings 11 = .ok (.ishl, 1) := dgX7_allSightings_0 (11, (.ishl, 1)) (List.mem_of_getElem? (i := 5) rfl)
theorem dX7_allSightings_12 : decode cX7_allSightings 12 = .ok (.iconst 1, 1) := dgX7_allSightings_0 (12, (.iconst 1, 1)) (List.mem_of_getElem? (i := 6) rfl)
theorem dX7_allSightings_13 : decode cX7_allSightings 13 = .ok (.isub, 1) := dgX7_allSightings_0 (13, (.isub, 1)) (List.mem_of_getElem? (i := 7) rfl)
theorem dX7_allSightings_14 : decode cX7_allSightings 14 = .ok (.ireturn, 1) := dgX7_allSightings_0 (14, (.ireturn, 1)) (List.mem_of_getElem? (i := 8) rfl)
set_option maxHeartbeats 4000000 in
set_option maxRecDepth 100000 in
theorem th_all (l : Launch) (G : g5_G) (a_th a_h a_s a_k a_ba a_ad a_cn a_nx a_hp a_hl a_lv a_l a_g a_b a_p a_w a_bb a_sn : Nat) (sz : Nat) (e_fu : Int32) (e_le : Int32) (e_st : Int32) (e_fo : Int32) (e_lc : Int32) (e_s : Int32) (e_wa : Int64) (e_gb : Int64) (h_e_s : 0 ≤ e_s.toInt ∧ e_s.toInt ≤ 10) : Met l yX7_allSightings (wsG yX7_allSightings cX7_allSightings 1 (some .int)) ({ frames := 0, cells := 0, slots := 0, locals := 0 }) (va_Pc [.ref a_th] (g5_P G [(a_th, (oc7 a_h a_k a_ba a_ad e_fu a_cn a_nx a_hp a_hl a_lv)), (a_h, (oc1 e_wa e_le e_st e_fo e_lc a_l a_g a_b a_s a_p a_w e_gb a_bb)), (a_s, (oc6 10 4 a_sn e_s))] sz)) (va_Qi (fun (r : Int32) (u : va_W) => (∃ (o_r : Int32), (r = o_r) ∧ (u = [(a_th, (oc7 a_h a_k a_ba a_ad e_fu a_cn a_nx a_hp a_hl a_lv)), (a_h, (oc1 e_wa e_le e_st e_fo e_lc a_l a_g a_b a_s a_p a_w e_gb a_bb)), (a_s, (oc6 10 4 a_sn e_s))]))) (g5_B G (va_A [(a_th, (oc7 a_h a_k a_ba a_ad e_fu a_cn a_nx a_hp a_hl a_lv)), (a_h, (oc1 e_wa e_le e_st e_fo e_lc a_l a_g a_b a_s a_p a_w e_gb a_bb)), (a_s, (oc6 10 4 a_sn e_s))] sz)) (va_A [(a_th, (oc7 a_h a_k a_ba a_ad e_fu a_cn a_nx a_hp a_hl a_lv)), (a_h, (oc1 e_wa e_le e_st e_fo e_lc a_l a_g a_b a_s a_p a_w e_gb a_bb)), (a_s, (oc6 10 4 a_sn e_s))] sz)) 0 0 (va_A [(a_th, (oc7 a_h a_k a_ba a_ad e_fu a_cn a_nx a_hp a_hl a_lv)), (a_h, (oc1 e_wa e_le e_st e_fo e_lc a_l a_g a_b a_s a_p a_w e_gb a_bb)), (a_s, (oc6 10 4 a_sn e_s))] sz) := by
  refine Met.ofW (cc := cX7_allSightings) (maxL := 1) (ret := (some .int)) (by decide) rfl ?_
  intro p e s m args below meth c s₁ B hml hv
  obtain ⟨rfl, hsz, hP, hK, hD0, hN, hT⟩ := hv
  have hx := B.exec
  have hb := B.bytes
  have hr := B.returns
  have hts : ∀ w ∈ tblG, w.before _ s = true := fun w h => atoms_spec (ws := (wsG yX7_allSightings cX7_allSightings 1 (some .int))) B.pre w (List.mem_cons_of_mem _ h)
  have hown : s.vm.findClass RX7 = some m.cls := findClass_of_methodNamed B.named
  have hlocks := B.notSynchronized
  subst hsz
  have hD := hD0.self (sz := s.heap.size)
  generalize hAe : va_A [(a_th, (oc7 a_h a_k a_ba a_ad e_fu a_cn a_nx a_hp a_hl a_lv)), (a_h, (oc1 e_wa e_le e_st e_fo e_lc a_l a_g a_b a_s a_p a_w e_gb a_bb)), (a_s, (oc6 10 4 a_sn e_s))] s.heap.size = A at hD hT ⊢
  have hA : ∀ q : Nat, s.heap.size ≤ q → A q := fun q h => by rw [← hAe]; exact Or.inr h
  have hS : va_S A s.heap s.heap [] := va_S.rf
  have hP : va_P G.1 vwCl [(a_th, (oc7 a_h a_k a_ba a_ad e_fu a_cn a_nx a_hp a_hl a_lv)), (a_h, (oc1 e_wa e_le e_st e_fo e_lc a_l a_g a_b a_s a_p a_w e_gb a_bb)), (a_s, (oc6 10 4 a_sn e_s))] s.heap := hP
  have hl := lv_entry ([.ref a_th]) (n := 1) (Nat.le_of_ble_eq_true rfl)
  rw [lg_entry_eq]
  generalize (lg_sl ([.ref a_th]) ++ List.replicate (1 - (lg_sl ([.ref a_th])).length) Slot.unset).toArray = ls at hl ⊢
  have hl : lv_has ls 1 [(0, .ref a_th)] := hl
  refine lv_iconst (v := 1) hx hb dX7_allSightings_0 (by decide) ?_
  refine lv_aload_n hx hb dX7_allSightings_1 rfl (lv_at hl 0 rfl) ?_
  refine va_get (D := G.1) (ci := 7) (v := .ref a_h) (C := RX7) (T := TX7) (N := 10) hx hb hts inG_X7 hown hK hP 0 rfl rfl 0 (by decide) (hts _ fl_X7_34) (fun _ h9 => h9) rfl dX7_allSightings_2 ?_
  refine va_get (D := G.1) (ci := 1) (v := .ref a_s) (C := RX1) (T := TX1) (N := 13) hx hb hts inG_X1 hown hK hP 1 rfl rfl 8 (by decide) (hts _ fl_X7_42) (fun _ h9 => h9) rfl dX7_allSightings_5 ?_
  refine va_get (D := G.1) (ci := 6) (v := .int e_s) (C := RX6) (T := TX6) (N := 4) hx hb hts inG_X6 hown hK hP 2 rfl rfl 3 (by decide) (hts _ fl_X7_48) (fun _ h9 => h9) rfl dX7_allSightings_8 ?_
  refine lv_ishl hx hb dX7_allSightings_11 ?_
  refine lv_iconst (v := 1) hx hb dX7_allSightings_12 (by decide) ?_
  refine lv_isub hx hb dX7_allSightings_13 ?_
  exact W.iret (v := ((1 <<< (e_s &&& 31)) - 1)) hx hb hr (fun t ht hW => ⟨⟨((1 <<< (e_s &&& 31)) - 1), [(a_th, (oc7 a_h a_k a_ba a_ad e_fu a_cn a_nx a_hp a_hl a_lv)), (a_h, (oc1 e_wa e_le e_st e_fo e_lc a_l a_g a_b a_s a_p a_w e_gb a_bb)), (a_s, (oc6 10 4 a_sn e_s))], rfl, ⟨((1 <<< (e_s &&& 31)) - 1), rfl, rfl⟩, by rw [ht]; exact hP.sub [0, 1, 2] rfl, hD.sub [0, 1, 2] (by decide) rfl⟩, hS.F ht⟩) hS.2.2 dX7_allSightings_14
theorem dgX7_findCore_0 : ∀ r ∈ ([(0, (.aload_n 0, 1)), (1, (.invokevirtual 134, 3)), (4, (.istore_n 1, 1)), (5, (.aload_n 0, 1)), (6, (.iload_n 1, 1)), (7, (.invokevirtual 138, 3)), (10, (.aload_n 0, 1)), (11, (.invokevirtual 117, 3)), (14, (.ifCond .eq 5, 3)), (17, (.iconst 0, 1)), (18, (.ireturn, 1)), (19, (.aload_n 0, 1)), (20, (.iconst 0, 1)), (21, (.invokevirtual 138, 3)), (24, (.aload_n 0, 1)), (25, (.invokevirtual 117, 3)), (28, (.ifCond .ne 5, 3)), (31, (.iconst (-1), 1)), (32, (.ireturn, 1)), (33, (.iconst 0, 1)), (34, (.istore_n 2, 1)), (35, (.iload_n 2, 1)), (36, (.aload_n 0, 1)), (37, (.getfield 34, 3)), (40, (.getfield 42, 3)), (43, (.getfield 48, 3)), (46, (.if_icmp .ge 35, 3)), (49, (.aload_n 0, 1)), (50, (.iload_n 1, 1)), (51, (.iconst 1, 1)), (52, (.iload_n 2, 1)), (53, (.ishl, 1)), (54, (.iconst (-1), 1)), (55, (.ixor, 1)), (56, (.iand, 1)), (57, (.invokevirtual 138, 3)), (60, (.aload_n 0, 1)), (61, (.invokevirtual 117, 3)), (64, (.ifCond .ne 11, 3)), (67, (.iload_n 1, 1))] : List (Nat × (Instr × Nat))), decode cX7_findCore r.1 = .ok r.2 := by decide +kernel
theorem dX7_findCore_0 : decode cX7_findCore 0 = .ok (.aload_n 0, 1) := dgX7_findCore_0 (0, (.aload_n 0, 1)) (List.mem_of_getElem? (i := 0) rfl)
theorem dX7_findCore_1 : decode cX7_findCore 1 = .ok (.invokevirtual 134, 3) := dgX7_findCore_0 (1, (.invokevirtual 134, 3)) (List.mem_of_getElem? (i := 1) rfl)
theorem dX7_findCore_4 : decode cX7_findCore 4 = .ok (.istore_n 1, 1) := dgX7_findCore_0 (4, (.istore_n 1, 1)) (List.mem_of_getElem? (i := 2) rfl)
theorem dX7_findCore_5 : decode cX7_findCore 5 = .ok (.aload_n 0, 1) := dgX7_findCore_0 (5, (.aload_n 0, 1)) (List.mem_of_getElem? (i := 3) rfl)
theorem dX7_findCore_6 : decode cX7_findCore 6 = .ok (.iload_n 1, 1) := dgX7_findCore_0 (6, (.iload_n 1, 1)) (List.mem_of_getElem? (i := 4) rfl)
theorem dX7_findCore_7 : decode cX7_findCore 7 = .ok (.invokevirtual 138, 3) := dgX7_findCore_0 (7, (.invokevirtual 138, 3)) (List.mem_of_getElem? (i := 5) rfl)
theorem dX7_findCore_10 : decode cX7_findCore 10 = .ok (.aload_n 0, 1) := dgX7_findCore_0 (10, (.aload_n 0, 1)) (List.mem_of_getElem? (i := 6) rfl)
theorem dX7_findCore_11 : decode cX7_findCore 11 = .ok (.invokevirtual 117, 3) := dgX7_findCore_0 (11, (.invokevirtual 117, 3)) (List.mem_of_getElem? (i := 7) rfl)
theorem dX7_findCore_14 : decode cX7_findCore 14 = .ok (.ifCond .eq 5, 3) := dgX7_findCore_0 (14, (.ifCond .eq 5, 3)) (List.mem_of_getElem? (i := 8) rfl)
theorem dX7_findCore_17 : decode cX7_findCore 17 = .ok (.iconst 0, 1) := dgX7_findCore_0 (17, (.iconst 0, 1)) (List.mem_of_getElem? (i := 9) rfl)
theorem dX7_findCore_18 : decode cX7_findCore 18 = .ok (.ireturn, 1) := dgX7_findCore_0 (18, (.ireturn, 1)) (List.mem_of_getElem? (i := 10) rfl)
theorem dX7_findCore_19 : decode cX7_findCore 19 = .ok (.aload_n 0, 1) := dgX7_findCore_0 (19, (.aload_n 0, 1)) (List.mem_of_getElem? (i := 11) rfl)
theorem dX7_findCore_20 : decode cX7_findCore 20 = .ok (.iconst 0, 1) := dgX7_findCore_0 (20, (.iconst 0, 1)) (List.mem_of_getElem? (i := 12) rfl)
theorem dX7_findCore_21 : decode cX7_findCore 21 = .ok (.invokevirtual 138, 3) := dgX7_findCore_0 (21, (.invokevirtual 138, 3)) (List.mem_of_getElem? (i := 13) rfl)
theorem dX7_findCore_24 : decode cX7_findCore 24 = .ok (.aload_n 0, 1) := dgX7_findCore_0 (24, (.aload_n 0, 1)) (List.mem_of_getElem? (i := 14) rfl)
theorem dX7_findCore_25 : decode cX7_findCore 25 = .ok (.invokevirtual 117, 3) := dgX7_findCore_0 (25, (.invokevirtual 117, 3)) (List.mem_of_getElem? (i := 15) rfl)
theorem dX7_findCore_28 : decode cX7_findCore 28 = .ok (.ifCond .ne 5, 3) := dgX7_findCore_0 (28, (.ifCond .ne 5, 3)) (List.mem_of_getElem? (i := 16) rfl)
theorem dX7_findCore_31 : decode cX7_findCore 31 = .ok (.iconst (-1), 1) := dgX7_findCore_0 (31, (.iconst (-1), 1)) (List.mem_of_getElem? (i := 17) rfl)
theorem dX7_findCore_32 : decode cX7_findCore 32 = .ok (.ireturn, 1) := dgX7_findCore_0 (32, (.ireturn, 1)) (List.mem_of_getElem? (i := 18) rfl)
theorem dX7_findCore_33 : decode cX7_findCore 33 = .ok (.iconst 0, 1) := dgX7_findCore_0 (33, (.iconst 0, 1)) (List.mem_of_getElem? (i := 19) rfl)
theorem dX7_findCore_34 : decode cX7_findCore 34 = .ok (.istore_n 2, 1) := dgX7_findCore_0 (34, (.istore_n 2, 1)) (List.mem_of_getElem? (i := 20) rfl)
theorem dX7_findCore_35 : decode cX7_findCore 35 = .ok (.iload_n 2, 1) := dgX7_findCore_0 (35, (.iload_n 2, 1)) (List.mem_of_getElem? (i := 21) rfl)
theorem dX7_findCore_36 : decode cX7_findCore 36 = .ok (.aload_n 0, 1) := dgX7_findCore_0 (36, (.aload_n 0, 1)) (List.mem_of_getElem? (i := 22) rfl)
theorem dX7_findCore_37 : decode cX7_findCore 37 = .ok (.getfield 34, 3) := dgX7_findCore_0 (37, (.getfield 34, 3)) (List.mem_of_getElem? (i := 23) rfl)
theorem dX7_findCore_40 : decode cX7_findCore 40 = .ok (.getfield 42, 3) := dgX7_findCore_0 (40, (.getfield 42, 3)) (List.mem_of_getElem? (i := 24) rfl)
theorem dX7_findCore_43 : decode cX7_findCore 43 = .ok (.getfield 48, 3) := dgX7_findCore_0 (43, (.getfield 48, 3)) (List.mem_of_getElem? (i := 25) rfl)
theorem dX7_findCore_46 : decode cX7_findCore 46 = .ok (.if_icmp .ge 35, 3) := dgX7_findCore_0 (46, (.if_icmp .ge 35, 3)) (List.mem_of_getElem? (i := 26) rfl)
theorem dX7_findCore_49 : decode cX7_findCore 49 = .ok (.aload_n 0, 1) := dgX7_findCore_0 (49, (.aload_n 0, 1)) (List.mem_of_getElem? (i := 27) rfl)
theorem dX7_findCore_50 : decode cX7_findCore 50 = .ok (.iload_n 1, 1) := dgX7_findCore_0 (50, (.iload_n 1, 1)) (List.mem_of_getElem? (i := 28) rfl)
theorem dX7_findCore_51 : decode cX7_findCore 51 = .ok (.iconst 1, 1) := dgX7_findCore_0 (51, (.iconst 1, 1)) (List.mem_of_getElem? (i := 29) rfl)
theorem dX7_findCore_52 : decode cX7_findCore 52 = .ok (.iload_n 2, 1) := dgX7_findCore_0 (52, (.iload_n 2, 1)) (List.mem_of_getElem? (i := 30) rfl)
theorem dX7_findCore_53 : decode cX7_findCore 53 = .ok (.ishl, 1) := dgX7_findCore_0 (53, (.ishl, 1)) (List.mem_of_getElem? (i := 31) rfl)
theorem dX7_findCore_54 : decode cX7_findCore 54 = .ok (.iconst (-1), 1) := dgX7_findCore_0 (54, (.iconst (-1), 1)) (List.mem_of_getElem? (i := 32) rfl)
theorem dX7_findCore_55 : decode cX7_findCore 55 = .ok (.ixor, 1) := dgX7_findCore_0 (55, (.ixor, 1)) (List.mem_of_getElem? (i := 33) rfl)
theorem dX7_findCore_56 : decode cX7_findCore 56 = .ok (.iand, 1) := dgX7_findCore_0 (56, (.iand, 1)) (List.mem_of_getElem? (i := 34) rfl)
theorem dX7_findCore_57 : decode cX7_findCore 57 = .ok (.invokevirtual 138, 3) := dgX7_findCore_0 (57, (.invokevirtual 138, 3)) (List.mem_of_getElem? (i := 35) rfl)
theorem dX7_findCore_60 : decode cX7_findCore 60 = .ok (.aload_n 0, 1) := dgX7_findCore_0 (60, (.aload_n 0, 1)) (List.mem_of_getElem? (i := 36) rfl)
theorem dX7_findCore_61 : decode cX7_findCore 61 = .ok (.invokevirtual 117, 3) := dgX7_findCore_0 (61, (.invokevirtual 117, 3)) (List.mem_of_getElem? (i := 37) rfl)
theorem dX7_findCore_64 : decode cX7_findCore 64 = .ok (.ifCond .ne 11, 3) := dgX7_findCore_0 (64, (.ifCond .ne 11, 3)) (List.mem_of_getElem? (i := 38) rfl)
theorem dX7_findCore_67 : decode cX7_findCore 67 = .ok (.iload_n 1, 1) := dgX7_findCore_0 (67, (.iload_n 1, 1)) (List.mem_of_getElem? (i := 39) rfl)
theorem dgX7_findCore_1 : ∀ r ∈ ([(68, (.iconst 1, 1)), (69, (.iload_n 2, 1)), (70, (.ishl, 1)), (71, (.iconst (-1), 1)), (72, (.ixor, 1)), (73, (.iand, 1)), (74, (.istore_n 1, 1)), (75, (.iinc 2 1, 3)), (78, (.goto (-43), 3)), (81, (.iload_n 1, 1)), (82, (.ireturn, 1))] : List (Nat × (Instr × Nat))), decode cX7_findCore r.1 = .ok r.2 := by decide +kernel
theorem dX7_findCore_68 : decode cX7_findCore 68 = .ok (.iconst 1, 1) := dgX7_findCore_1 (68, (.iconst 1, 1)) (List.mem_of_getElem? (i := 0) rfl)
theorem dX7_findCore_69 : decode cX7_findCore 69 = .ok (.iload_n 2, 1) := dgX7_findCore_1 (69, (.iload_n 2, 1)) (List.mem_of_getElem? (i := 1) rfl)
theorem dX7_findCore_70 : decode cX7_findCore 70 = .ok (.ishl, 1) := dgX7_findCore_1 (70, (.ishl, 1)) (List.mem_of_getElem? (i := 2) rfl)
theorem dX7_findCore_71 : decode cX7_findCore 71 = .ok (.iconst (-1), 1) := dgX7_findCore_1 (71, (.iconst (-1), 1)) (List.mem_of_getElem? (i := 3) rfl)
theorem dX7_findCore_72 : decode cX7_findCore 72 = .ok (.ixor, 1) := dgX7_findCore_1 (72, (.ixor, 1)) (List.mem_of_getElem? (i := 4) rfl)
theorem dX7_findCore_73 : decode cX7_findCore 73 = .ok (.iand, 1) := dgX7_findCore_1 (73, (.iand, 1)) (List.mem_of_getElem? (i := 5) rfl)
theorem dX7_findCore_74 : decode cX7_findCore 74 = .ok (.istore_n 1, 1) := dgX7_findCore_1 (74, (.istore_n 1, 1)) (List.mem_of_getElem? (i := 6) rfl)
theorem dX7_findCore_75 : decode cX7_findCore 75 = .ok (.iinc 2 1, 3) := dgX7_findCore_1 (75, (.iinc 2 1, 3)) (List.mem_of_getElem? (i := 7) rfl)
theorem dX7_findCore_78 : decode cX7_findCore 78 = .ok (.goto (-43), 3) := dgX7_findCore_1 (78, (.goto (-43), 3)) (List.mem_of_getElem? (i := 8) rfl)
theorem dX7_findCore_81 : decode cX7_findCore 81 = .ok (.iload_n 1, 1) := dgX7_findCore_1 (81, (.iload_n 1, 1)) (List.mem_of_getElem? (i := 9) rfl)
theorem dX7_findCore_82 : decode cX7_findCore 82 = .ok (.ireturn, 1) := dgX7_findCore_1 (82, (.ireturn, 1)) (List.mem_of_getElem? (i := 10) rfl)
theorem ml_X7_134 : Cond.methodLink RX7 134 yX7_allSightings ∈ tblG := tg 1038 (by decide +kernel) (by decide +kernel)
theorem im_X7_allSightings : Cond.instanceMethod yX7_allSightings ∈ tblG := tg 956 (by decide +kernel) (by decide +kernel)
theorem se_X7_allSightings : Cond.selects RX7 yX7_allSightings yX7_allSightings ∈ tblG := tg 957 (by decide +kernel) (by decide +kernel)
theorem cd_X7_allSightings : Cond.code yX7_allSightings cX7_allSightings 1 (some .int) ∈ tblG := tg 958 (by decide +kernel) (by decide +kernel)
theorem gW_X7_allSightings : GoodIn tblG (wsG yX7_allSightings cX7_allSightings 1 (some .int)) := tgi cd_X7_allSightings
theorem gV_X7_134 : GoodIn tblG (wsV RX7 134 RX7 yX7_allSightings (wsG yX7_allSightings cX7_allSightings 1 (some .int))) := tgV ml_X7_134 im_X7_allSightings se_X7_allSightings ini_X7 gW_X7_allSightings
theorem hv_X7_allSightings : yX7_allSightings.cls = RX7 ∧ yX7_allSightings.cls ≠ "java/lang/invoke/MethodHandle" ∧ yX7_allSightings.cls ≠ "java/lang/invoke/VarHandle" ∧ (parseMethodDescriptor yX7_allSightings.desc).map (fun d => d.parameters.length) = some 0 := by decide +kernel
theorem ml_X7_138 : Cond.methodLink RX7 138 yX7_load ∈ tblG := tg 1039 (by decide +kernel) (by decide +kernel)
theorem im_X7_load : Cond.instanceMethod yX7_load ∈ tblG := tg 960 (by decide +kernel) (by decide +kernel)
theorem se_X7_load : Cond.selects RX7 yX7_load yX7_load ∈ tblG := tg 961 (by decide +kernel) (by decide +kernel)
theorem cd_X7_load : Cond.code yX7_load cX7_load 5 none ∈ tblG := tg 962 (by decide +kernel) (by decide +kernel)
theorem gW_X7_load : GoodIn tblG (wsG yX7_load cX7_load 5 none) := tgi cd_X7_load
theorem gV_X7_138 : GoodIn tblG (wsV RX7 138 RX7 yX7_load (wsG yX7_load cX7_load 5 none)) := tgV ml_X7_138 im_X7_load se_X7_load ini_X7 gW_X7_load
theorem hv_X7_load : yX7_load.cls = RX7 ∧ yX7_load.cls ≠ "java/lang/invoke/MethodHandle" ∧ yX7_load.cls ≠ "java/lang/invoke/VarHandle" ∧ (parseMethodDescriptor yX7_load.desc).map (fun d => d.parameters.length) = some 1 := by decide +kernel
