set_option maxHeartbeats 4000000 in
set_option maxRecDepth 100000 in
theorem th_row (l : Launch) (G : g5_G) (a_th a_ba a_ad a_hp a_h a_k a_cn a_nx a_hl a_lv : Nat) (sz : Nat) (e_fu : Int32) (p_h : Int32) (f_ba : Nat → Int64) (f_ad : Nat → Int32) (f_hp : Nat → Int32) (h_p_h : 0 ≤ p_h.toInt ∧ p_h.toInt ≤ 23) : Met l yX7_firstRowAt (wsG yX7_firstRowAt cX7_firstRowAt 5 (some .int)) ({ frames := 3, cells := 0, slots := 0, locals := 70 }) (va_Pc [.ref a_th, .int p_h] (g5_P G [(a_th, (oc7 a_h a_k a_ba a_ad e_fu a_cn a_nx a_hp a_hl a_lv)), (a_ba, (arJ G 24 f_ba)), (a_ad, (arI G 1536 f_ad)), (a_hp, (arI G 1536 f_hp))] sz)) (va_Qi (fun (r : Int32) (u : va_W) => (∃ (o_r : Int32) (o_f : Nat → Int32), (-1 ≤ o_r.toInt ∧ o_r.toInt ≤ 63) ∧ (r = o_r) ∧ (u = [(a_th, (oc7 a_h a_k a_ba a_ad e_fu a_cn a_nx a_hp a_hl a_lv)), (a_ba, (arJ G 24 f_ba)), (a_ad, (arI G 1536 f_ad)), (a_hp, (arI G 1536 o_f))]))) (g5_B G (va_A [(a_th, (oc7 a_h a_k a_ba a_ad e_fu a_cn a_nx a_hp a_hl a_lv)), (a_ba, (arJ G 24 f_ba)), (a_ad, (arI G 1536 f_ad)), (a_hp, (arI G 1536 f_hp))] sz)) (va_A [(a_th, (oc7 a_h a_k a_ba a_ad e_fu a_cn a_nx a_hp a_hl a_lv)), (a_ba, (arJ G 24 f_ba)), (a_ad, (arI G 1536 f_ad)), (a_hp, (arI G 1536 f_hp))] sz)) 0 0 (va_A [(a_th, (oc7 a_h a_k a_ba a_ad e_fu a_cn a_nx a_hp a_hl a_lv)), (a_ba, (arJ G 24 f_ba)), (a_ad, (arI G 1536 f_ad)), (a_hp, (arI G 1536 f_hp))] sz) := by
  refine Met.ofW (cc := cX7_firstRowAt) (maxL := 5) (ret := (some .int)) (by decide) rfl ?_
  intro p e s m args below meth c s₁ B hml hv
  obtain ⟨rfl, hsz, hP, hK, hD0, hN, hT⟩ := hv
  have hx := B.exec
  have hb := B.bytes
  have hr := B.returns
  have hts : ∀ w ∈ tblG, w.before _ s = true := fun w h => atoms_spec (ws := (wsG yX7_firstRowAt cX7_firstRowAt 5 (some .int))) B.pre w (List.mem_cons_of_mem _ h)
  have hown : s.vm.findClass RX7 = some m.cls := findClass_of_methodNamed B.named
  have hlocks := B.notSynchronized
  subst hsz
  have hD := hD0.self (sz := s.heap.size)
  generalize hAe : va_A [(a_th, (oc7 a_h a_k a_ba a_ad e_fu a_cn a_nx a_hp a_hl a_lv)), (a_ba, (arJ G 24 f_ba)), (a_ad, (arI G 1536 f_ad)), (a_hp, (arI G 1536 f_hp))] s.heap.size = A at hD hT ⊢
  have hA : ∀ q : Nat, s.heap.size ≤ q → A q := fun q h => by rw [← hAe]; exact Or.inr h
  have hS : va_S A s.heap s.heap [] := va_S.rf
  have hP : va_P G.1 vwCl [(a_th, (oc7 a_h a_k a_ba a_ad e_fu a_cn a_nx a_hp a_hl a_lv)), (a_ba, (arJ G 24 f_ba)), (a_ad, (arI G 1536 f_ad)), (a_hp, (arI G 1536 f_hp))] s.heap := hP
  have hl := lv_entry ([.ref a_th, .int p_h]) (n := 5) (Nat.le_of_ble_eq_true rfl)
  rw [lg_entry_eq]
  generalize (lg_sl ([.ref a_th, .int p_h]) ++ List.replicate (5 - (lg_sl ([.ref a_th, .int p_h])).length) Slot.unset).toArray = ls at hl ⊢
  have hl : lv_has ls 5 [(0, .ref a_th), (1, .int p_h)] := hl
  refine lv_aload_n hx hb dX7_firstRowAt_0 rfl (lv_at hl 0 rfl) ?_
  obtain ⟨hPc, hDc, hFc⟩ := g5_sub3 (wc := [(a_th, (oc7 a_h a_k a_ba a_ad e_fu a_cn a_nx a_hp a_hl a_lv)), (a_ba, (arJ G 24 f_ba)), (a_ad, (arI G 1536 f_ad)), (a_hp, (arI G 1536 f_hp))]) hP hD hS hA [0, 1, 2, 3] (by decide) rfl
  refine va_calli (va_runV (As := []) (rest := []) ⟨hx, hb, hml, hown, hts⟩ (th_anyFits l G a_th a_ba a_ad a_hp a_h a_k a_cn a_nx a_hl a_lv s.heap.size e_fu f_ba f_ad f_hp) (cwV 0 hts gV_X7_117 rfl rfl rfl hv_X7_anyFits ⟨Nat.le_of_ble_eq_true rfl, Nat.le_of_ble_eq_true rfl⟩) (g5_preV hPc hK hDc hN hT hS hFc (ci := 7) (q0 := 0) rfl rfl) rfl rfl hl.1 rfl (lv_room (Nat.le_of_ble_eq_true rfl)) dX7_firstRowAt_1 ⟨Nat.le_of_ble_eq_true rfl, Nat.le_of_ble_eq_true rfl⟩) hS (fun q _ h => hFc q h) hFc (fun r u t H1 locs ht hvm hw hB hz1 hk1 hS => ?_)
  obtain ⟨hP1, hD1⟩ := hB
  rw [ht] at hP1
  obtain ⟨z2, z3, i_1, y4, rfl⟩ := hw
  have i_1 : 0 ≤ z2.toInt ∧ z2.toInt ≤ 1 := i_1
  obtain ⟨hP, hD⟩ := va_join (wr := []) hP hD [0, 1, 2, 3] [] rfl rfl (by decide) (by decide) hk1 hFc hP1 hD1
  generalize H1 = H at hP hS ⊢
  refine g5_rs [(a_th, (oc7 a_h a_k a_ba a_ad e_fu a_cn a_nx a_hp a_hl a_lv)), (a_ba, (arJ G 24 f_ba)), (a_ad, (arI G 1536 f_ad)), (a_hp, (arI G 1536 z3))] hP hD (fun hP hD => ?_)
  refine g5_ti (v := z2) y4 ?_
  refine lv_if_ne (tgt := 9) hx hb dX7_firstRowAt_4 (by decide) (fun c_5 => ?_) (fun c_5 => ?_)
  ·
    have n_5 : gNe (z2.toInt) (0) := by have z := g5_ne (a := z2.toInt) (b := 0) (by rfl) (by decide) c_5; unfold gNe; omega
    have i_5 : z2.toInt ≥ 1 := by have z := g5_ne (a := z2.toInt) (b := 0) (by rfl) (by decide) c_5; omega
    refine lv_iconst (v := 0) hx hb dX7_firstRowAt_9 (by decide) ?_
    refine lv_istore_n (lv' := [(2, .int 0), (0, .ref a_th), (1, .int p_h)]) hx hb dX7_firstRowAt_10 rfl hl (by decide) rfl (fun ls hl => ?_)
    refine g5_loop (α := (Int32)) (fun (k_a : (Int32)) (ls : Array Slot) (H : Heap) (locs : List Loc) => lv_has ls 5 [(2, .int k_a), (0, .ref a_th), (1, .int p_h)] ∧ va_P G.1 vwCl [(a_th, (oc7 a_h a_k a_ba a_ad e_fu a_cn a_nx a_hp a_hl a_lv)), (a_ba, (arJ G 24 f_ba)), (a_ad, (arI G 1536 f_ad)), (a_hp, (arI G 1536 z3))] H ∧ va_D A [(a_th, (oc7 a_h a_k a_ba a_ad e_fu a_cn a_nx a_hp a_hl a_lv)), (a_ba, (arJ G 24 f_ba)), (a_ad, (arI G 1536 f_ad)), (a_hp, (arI G 1536 z3))] ∧ va_S A s.heap H locs ∧ (0 ≤ k_a.toInt ∧ k_a.toInt ≤ 63)) (fun (k_a : (Int32)) => Int.toNat (63 - k_a.toInt)) 0 ⟨lv_sub hl [0, 1, 2] rfl, hP, hD, hS, ⟨by decide, by decide⟩⟩ ?_
    rintro k_a ls H locs ⟨hl, hP, hD, hS, i_6⟩ ih_11_7
    have hl : lv_has ls 5 [(2, .int k_a), (0, .ref a_th), (1, .int p_h)] := hl
    have i_6 : 0 ≤ k_a.toInt ∧ k_a.toInt ≤ 63 := i_6
    refine g5_rs [(a_th, (oc7 a_h a_k a_ba a_ad e_fu a_cn a_nx a_hp a_hl a_lv)), (a_ba, (arJ G 24 f_ba)), (a_ad, (arI G 1536 f_ad)), (a_hp, (arI G 1536 z3))] hP hD (fun hP hD => ?_)
    refine lv_iload_n hx hb dX7_firstRowAt_11 rfl (lv_at hl 0 rfl) ?_
    refine lv_bipush (v := 63) hx hb dX7_firstRowAt_12 (by decide) ?_
    refine lv_icmp_ge (tgt := 34) hx hb dX7_firstRowAt_14 (by decide) (fun c_8 => ?_) (fun c_8 => ?_)
    ·
      have i_8 : k_a.toInt ≥ 63 := by have z := g5_ge (a := k_a.toInt) (b := 63) (by rfl) (by decide) c_8; omega
      refine lv_aload_n hx hb dX7_firstRowAt_34 rfl (lv_at hl 1 rfl) ?_
      refine va_get (D := G.1) (ci := 7) (v := .ref a_ad) (C := RX7) (T := TX7) (N := 10) hx hb hts inG_X7 hown hK hP 0 rfl rfl 3 (by decide) (hts _ fl_X7_15) (fun _ h9 => h9) rfl dX7_firstRowAt_35 ?_
      refine lv_iload_n hx hb dX7_firstRowAt_38 rfl (lv_at hl 0 rfl) ?_
      refine va_iald hx hb hK hP 2 0 rfl rfl (i := k_a) (vp_in_iff.mpr ⟨by omega, by omega⟩) dX7_firstRowAt_39 ?_
      refine lv_istore_n (lv' := [(3, .int (f_ad k_a.toNatClampNeg)), (2, .int k_a), (0, .ref a_th), (1, .int p_h)]) hx hb dX7_firstRowAt_40 rfl hl (by decide) rfl (fun ls hl => ?_)
      refine lv_iconst (v := 1) hx hb dX7_firstRowAt_41 (by decide) ?_
      refine lv_istore (lv' := [(4, .int 1), (3, .int (f_ad k_a.toNatClampNeg)), (2, .int k_a), (0, .ref a_th), (1, .int p_h)]) hx hb dX7_firstRowAt_42 hl (by decide) rfl (fun ls hl => ?_)
      refine g5_loop (α := (Int32) × (Int32) × (Int32)) (fun (q : (Int32) × (Int32) × (Int32)) (ls : Array Slot) (H : Heap) (locs : List Loc) => match q with | (m_a, m_m, m_h) => lv_has ls 5 [(2, .int m_a), (3, .int m_m), (4, .int m_h), (0, .ref a_th), (1, .int p_h)] ∧ va_P G.1 vwCl [(a_th, (oc7 a_h a_k a_ba a_ad e_fu a_cn a_nx a_hp a_hl a_lv)), (a_ba, (arJ G 24 f_ba)), (a_ad, (arI G 1536 f_ad)), (a_hp, (arI G 1536 z3))] H ∧ va_D A [(a_th, (oc7 a_h a_k a_ba a_ad e_fu a_cn a_nx a_hp a_hl a_lv)), (a_ba, (arJ G 24 f_ba)), (a_ad, (arI G 1536 f_ad)), (a_hp, (arI G 1536 z3))] ∧ va_S A s.heap H locs ∧ (0 ≤ m_a.toInt ∧ m_a.toInt ≤ 63) ∧ (1 ≤ m_h.toInt ∧ m_h.toInt ≤ 24)) (fun (q : (Int32) × (Int32) × (Int32)) => match q with | (m_a, m_m, m_h) => Int.toNat (24 - m_h.toInt)) (k_a, (f_ad k_a.toNatClampNeg), 1) ⟨lv_sub hl [2, 1, 0, 3, 4] rfl, hP, hD, hS, i_6, ⟨by decide, by decide⟩⟩ ?_
      rintro ⟨m_a, m_m, m_h⟩ ls H locs ⟨hl, hP, hD, hS, i_9, i_10⟩ ih_44_11
      have hl : lv_has ls 5 [(2, .int m_a), (3, .int m_m), (4, .int m_h), (0, .ref a_th), (1, .int p_h)] := hl
      have i_9 : 0 ≤ m_a.toInt ∧ m_a.toInt ≤ 63 := i_9
      have i_10 : 1 ≤ m_h.toInt ∧ m_h.toInt ≤ 24 := i_10
      refine g5_rs [(a_th, (oc7 a_h a_k a_ba a_ad e_fu a_cn a_nx a_hp a_hl a_lv)), (a_ba, (arJ G 24 f_ba)), (a_ad, (arI G 1536 f_ad)), (a_hp, (arI G 1536 z3))] hP hD (fun hP hD => ?_)
      refine lv_iload hx hb dX7_firstRowAt_44 (lv_at hl 2 rfl) ?_
      refine lv_iload_n hx hb dX7_firstRowAt_46 rfl (lv_at hl 4 rfl) ?_
      refine lv_icmp_gt (tgt := 80) hx hb dX7_firstRowAt_47 (by decide) (fun c_12 => ?_) (fun c_12 => ?_)
      ·
        have i_12 : m_h.toInt > p_h.toInt := by have z := g5_gt (a := m_h.toInt) (b := p_h.toInt) (by rfl) (by rfl) c_12; omega
        refine lv_iload_n hx hb dX7_firstRowAt_80 rfl (lv_at hl 0 rfl) ?_
        exact W.iret (v := m_a) hx hb hr (fun t ht hW => ⟨⟨m_a, [(a_th, (oc7 a_h a_k a_ba a_ad e_fu a_cn a_nx a_hp a_hl a_lv)), (a_ba, (arJ G 24 f_ba)), (a_ad, (arI G 1536 f_ad)), (a_hp, (arI G 1536 z3))], rfl, ⟨m_a, z3, ⟨by omega, by omega⟩, rfl, rfl⟩, by rw [ht]; exact hP.sub [0, 1, 2, 3] rfl, hD.sub [0, 1, 2, 3] (by decide) rfl⟩, hS.F ht⟩) hS.2.2 dX7_firstRowAt_81
      ·
        have i_12 : m_h.toInt ≤ p_h.toInt := by have z := g5_gtN (a := m_h.toInt) (b := p_h.toInt) (by rfl) (by rfl) c_12; omega
        refine lv_aload_n hx hb dX7_firstRowAt_50 rfl (lv_at hl 3 rfl) ?_
        refine lv_iload_n hx hb dX7_firstRowAt_51 rfl (lv_at hl 0 rfl) ?_
        refine lv_iload hx hb dX7_firstRowAt_52 (lv_at hl 2 rfl) ?_
        refine lv_iload_n hx hb dX7_firstRowAt_54 rfl (lv_at hl 1 rfl) ?_
        obtain ⟨hPc, hDc, hFc⟩ := g5_sub3 (wc := [(a_th, (oc7 a_h a_k a_ba a_ad e_fu a_cn a_nx a_hp a_hl a_lv)), (a_hp, (arI G 1536 z3))]) hP hD hS hA [0, 3] (by decide) rfl
        refine va_calli (va_runV (As := [.int m_a, .int m_h, .int m_m]) (rest := []) ⟨hx, hb, hml, hown, hts⟩ (th_next l G a_th a_hp a_h a_k a_ba a_ad a_cn a_nx a_hl a_lv H.size e_fu m_a m_h m_m z3 i_9 ⟨by omega, by omega⟩) (cwV 3 hts gV_X7_127 rfl rfl rfl hv_X7_lowestNext ⟨Nat.le_of_ble_eq_true rfl, Nat.le_of_ble_eq_true rfl⟩) (g5_preV hPc hK hDc hN hT hS hFc (ci := 7) (q0 := 0) rfl rfl) rfl rfl hl.1 rfl (lv_room (Nat.le_of_ble_eq_true rfl)) dX7_firstRowAt_55 ⟨Nat.le_of_ble_eq_true rfl, Nat.le_of_ble_eq_true rfl⟩) hS (fun q _ h => hFc q h) hFc (fun r u t H1 locs ht hvm hw hB hz1 hk1 hS => ?_)
        obtain ⟨hP1, hD1⟩ := hB
        rw [ht] at hP1
        obtain ⟨z14, i_13, y15, rfl⟩ := hw
        have i_13 : 0 ≤ z14.toInt ∧ z14.toInt ≤ 63 := i_13
        obtain ⟨hP, hD⟩ := va_join (wr := [(a_ba, (arJ G 24 f_ba)), (a_ad, (arI G 1536 f_ad))]) hP hD [0, 3] [1, 2] rfl rfl (by decide) (by decide) hk1 hFc hP1 hD1
        generalize H1 = H at hP hS ⊢
        refine g5_rs [(a_ba, (arJ G 24 f_ba)), (a_ad, (arI G 1536 f_ad)), (a_th, (oc7 a_h a_k a_ba a_ad e_fu a_cn a_nx a_hp a_hl a_lv)), (a_hp, (arI G 1536 z3))] hP hD (fun hP hD => ?_)
        refine g5_ti (v := z14) y15 ?_
        refine lv_istore_n (lv' := [(2, .int z14), (3, .int m_m), (4, .int m_h), (0, .ref a_th), (1, .int p_h)]) hx hb dX7_firstRowAt_58 rfl hl (by decide) rfl (fun ls hl => ?_)
        refine lv_iload_n hx hb dX7_firstRowAt_59 rfl (lv_at hl 1 rfl) ?_
        refine lv_aload_n hx hb dX7_firstRowAt_60 rfl (lv_at hl 3 rfl) ?_
        refine va_get (D := G.1) (ci := 7) (v := .ref a_ad) (C := RX7) (T := TX7) (N := 10) hx hb hts inG_X7 hown hK hP 2 rfl rfl 3 (by decide) (hts _ fl_X7_15) (fun _ h9 => h9) rfl dX7_firstRowAt_61 ?_
        refine lv_iload hx hb dX7_firstRowAt_64 (lv_at hl 2 rfl) ?_
        refine lv_bipush (v := 64) hx hb dX7_firstRowAt_66 (by decide) ?_
        refine lv_imul hx hb dX7_firstRowAt_68 ?_
        have t_16 : (m_h * 64).toInt = m_h.toInt * 64 := g5_imul (a := m_h.toInt) (b := 64) (by rfl) (by decide) (by omega) (by omega)
        refine lv_iload_n hx hb dX7_firstRowAt_69 rfl (lv_at hl 0 rfl) ?_
        refine lv_iadd hx hb dX7_firstRowAt_70 ?_
        have t_17 : ((m_h * 64) + z14).toInt = (m_h * 64).toInt + z14.toInt := g5_iadd (a := (m_h * 64).toInt) (b := z14.toInt) (by rfl) (by rfl) (by omega) (by omega)
        refine va_iald hx hb hK hP 1 0 rfl rfl (i := ((m_h * 64) + z14)) (vp_in_iff.mpr ⟨by omega, by omega⟩) dX7_firstRowAt_71 ?_
        refine lv_ior hx hb dX7_firstRowAt_72 ?_
        refine lv_istore_n (lv' := [(3, .int (m_m ||| (f_ad ((m_h * 64) + z14).toNatClampNeg))), (2, .int z14), (4, .int m_h), (0, .ref a_th), (1, .int p_h)]) hx hb dX7_firstRowAt_73 rfl hl (by decide) rfl (fun ls hl => ?_)
        refine lv_iinc (v := (m_h + 1)) (lv' := [(4, .int (m_h + 1)), (3, .int (m_m ||| (f_ad ((m_h * 64) + z14).toNatClampNeg))), (2, .int z14), (0, .ref a_th), (1, .int p_h)]) hx hb dX7_firstRowAt_74 hl (k := 2) rfl rfl (by decide) rfl (fun ls hl => ?_)
        have t_18 : (m_h + 1).toInt = m_h.toInt + 1 := g5_iadd (a := m_h.toInt) (b := 1) rfl (by decide) (by omega) (by omega)
        refine lv_goto (tgt := 44) hx hb dX7_firstRowAt_77 (by decide) ?_
        exact ih_44_11 (z14, (m_m ||| (f_ad ((m_h * 64) + z14).toNatClampNeg)), (m_h + 1)) ls H locs (show Int.toNat (24 - (m_h + 1).toInt) < Int.toNat (24 - m_h.toInt) from g_up (show m_h.toInt < (m_h + 1).toInt by omega) (show m_h.toInt < 24 by omega)) ⟨lv_sub hl [2, 1, 0, 3, 4] rfl, hP.sub [2, 0, 1, 3] rfl, hD.sub [2, 0, 1, 3] (by decide) rfl, hS, i_13, ⟨by omega, by omega⟩⟩
    ·
      have i_8 : k_a.toInt < 63 := by have z := g5_geN (a := k_a.toInt) (b := 63) (by rfl) (by decide) c_8; omega
      refine lv_aload_n hx hb dX7_firstRowAt_17 rfl (lv_at hl 1 rfl) ?_
      refine va_get (D := G.1) (ci := 7) (v := .ref a_hp) (C := RX7) (T := TX7) (N := 10) hx hb hts inG_X7 hown hK hP 0 rfl rfl 7 (by decide) (hts _ fl_X7_25) (fun _ h9 => h9) rfl dX7_firstRowAt_18 ?_
      refine lv_iload_n hx hb dX7_firstRowAt_21 rfl (lv_at hl 0 rfl) ?_
      refine va_iald hx hb hK hP 3 0 rfl rfl (i := k_a) (vp_in_iff.mpr ⟨by omega, by omega⟩) dX7_firstRowAt_22 ?_
      refine lv_iconst (v := 1) hx hb dX7_firstRowAt_23 (by decide) ?_
      refine lv_iand hx hb dX7_firstRowAt_24 ?_
      refine lv_if_ne (tgt := 34) hx hb dX7_firstRowAt_25 (by decide) (fun c_19 => ?_) (fun c_19 => ?_)
      ·
        have n_19 : gNe (((z3 k_a.toNatClampNeg) &&& 1).toInt) (0) := by have z := g5_ne (a := ((z3 k_a.toNatClampNeg) &&& 1).toInt) (b := 0) (by rfl) (by decide) c_19; unfold gNe; omega
        refine lv_aload_n hx hb dX7_firstRowAt_34 rfl (lv_at hl 1 rfl) ?_
        refine va_get (D := G.1) (ci := 7) (v := .ref a_ad) (C := RX7) (T := TX7) (N := 10) hx hb hts inG_X7 hown hK hP 0 rfl rfl 3 (by decide) (hts _ fl_X7_15) (fun _ h9 => h9) rfl dX7_firstRowAt_35 ?_
        refine lv_iload_n hx hb dX7_firstRowAt_38 rfl (lv_at hl 0 rfl) ?_
        refine va_iald hx hb hK hP 2 0 rfl rfl (i := k_a) (vp_in_iff.mpr ⟨by omega, by omega⟩) dX7_firstRowAt_39 ?_
        refine lv_istore_n (lv' := [(3, .int (f_ad k_a.toNatClampNeg)), (2, .int k_a), (0, .ref a_th), (1, .int p_h)]) hx hb dX7_firstRowAt_40 rfl hl (by decide) rfl (fun ls hl => ?_)
        refine lv_iconst (v := 1) hx hb dX7_firstRowAt_41 (by decide) ?_
        refine lv_istore (lv' := [(4, .int 1), (3, .int (f_ad k_a.toNatClampNeg)), (2, .int k_a), (0, .ref a_th), (1, .int p_h)]) hx hb dX7_firstRowAt_42 hl (by decide) rfl (fun ls hl => ?_)
        refine g5_loop (α := (Int32) × (Int32) × (Int32)) (fun (q : (Int32) × (Int32) × (Int32)) (ls : Array Slot) (H : Heap) (locs : List Loc) => match q with | (m_a, m_m, m_h) => lv_has ls 5 [(2, .int m_a), (3, .int m_m), (4, .int m_h), (0, .ref a_th), (1, .int p_h)] ∧ va_P G.1 vwCl [(a_th, (oc7 a_h a_k a_ba a_ad e_fu a_cn a_nx a_hp a_hl a_lv)), (a_ba, (arJ G 24 f_ba)), (a_ad, (arI G 1536 f_ad)), (a_hp, (arI G 1536 z3))] H ∧ va_D A [(a_th, (oc7 a_h a_k a_ba a_ad e_fu a_cn a_nx a_hp a_hl a_lv)), (a_ba, (arJ G 24 f_ba)), (a_ad, (arI G 1536 f_ad)), (a_hp, (arI G 1536 z3))] ∧ va_S A s.heap H locs ∧ (0 ≤ m_a.toInt ∧ m_a.toInt ≤ 63) ∧ (1 ≤ m_h.toInt ∧ m_h.toInt ≤ 24)) (fun (q : (Int32) × (Int32) × (Int32)) => match q with | (m_a, m_m, m_h) => Int.toNat (24 - m_h.toInt)) (k_a, (f_ad k_a.toNatClampNeg), 1) ⟨lv_sub hl [2, 1, 0, 3, 4] rfl, hP, hD, hS, i_6, ⟨by decide, by decide⟩⟩ ?_
        rintro ⟨m_a, m_m, m_h⟩ ls H locs ⟨hl, hP, hD, hS, i_20, i_21⟩ ih_44_22
        have hl : lv_has ls 5 [(2, .int m_a), (3, .int m_m), (4, .int m_h), (0, .ref a_th), (1, .int p_h)] := hl
        have i_20 : 0 ≤ m_a.toInt ∧ m_a.toInt ≤ 63 := i_20
        have i_21 : 1 ≤ m_h.toInt ∧ m_h.toInt ≤ 24 := i_21
        refine g5_rs [(a_th, (oc7 a_h a_k a_ba a_ad e_fu a_cn a_nx a_hp a_hl a_lv)), (a_ba, (arJ G 24 f_ba)), (a_ad, (arI G 1536 f_ad)), (a_hp, (arI G 1536 z3))] hP hD (fun hP hD => ?_)
        refine lv_iload hx hb dX7_firstRowAt_44 (lv_at hl 2 rfl) ?_
        refine lv_iload_n hx hb dX7_firstRowAt_46 rfl (lv_at hl 4 rfl) ?_
        refine lv_icmp_gt (tgt := 80) hx hb dX7_firstRowAt_47 (by decide) (fun c_23 => ?_) (fun c_23 => ?_)
        ·
          have i_23 : m_h.toInt > p_h.toInt := by have z := g5_gt (a := m_h.toInt) (b := p_h.toInt) (by rfl) (by rfl) c_23; omega
          refine lv_iload_n hx hb dX7_firstRowAt_80 rfl (lv_at hl 0 rfl) ?_
          exact W.iret (v := m_a) hx hb hr (fun t ht hW => ⟨⟨m_a, [(a_th, (oc7 a_h a_k a_ba a_ad e_fu a_cn a_nx a_hp a_hl a_lv)), (a_ba, (arJ G 24 f_ba)), (a_ad, (arI G 1536 f_ad)), (a_hp, (arI G 1536 z3))], rfl, ⟨m_a, z3, ⟨by omega, by omega⟩, rfl, rfl⟩, by rw [ht]; exact hP.sub [0, 1, 2, 3] rfl, hD.sub [0, 1, 2, 3] (by decide) rfl⟩, hS.F ht⟩) hS.2.2 dX7_firstRowAt_81
        ·
          have i_23 : m_h.toInt ≤ p_h.toInt := by have z := g5_gtN (a := m_h.toInt) (b := p_h.toInt) (by rfl) (by rfl) c_23; omega
          refine lv_aload_n hx hb dX7_firstRowAt_50 rfl (lv_at hl 3 rfl) ?_
          refine lv_iload_n hx hb dX7_firstRowAt_51 rfl (lv_at hl 0 rfl) ?_
          refine lv_iload hx hb dX7_firstRowAt_52 (lv_at hl 2 rfl) ?_
          refine lv_iload_n hx hb dX7_firstRowAt_54 rfl (lv_at hl 1 rfl) ?_
          obtain ⟨hPc, hDc, hFc⟩ := g5_sub3 (wc := [(a_th, (oc7 a_h a_k a_ba a_ad e_fu a_cn a_nx a_hp a_hl a_lv)), (a_hp, (arI G 1536 z3))]) hP hD hS hA [0, 3] (by decide) rfl
          refine va_calli (va_runV (As := [.int m_a, .int m_h, .int m_m]) (rest := []) ⟨hx, hb, hml, hown, hts⟩ (th_next l G a_th a_hp a_h a_k a_ba a_ad a_cn a_nx a_hl a_lv H.size e_fu m_a m_h m_m z3 i_20 ⟨by omega, by omega⟩) (cwV 3 hts gV_X7_127 rfl rfl rfl hv_X7_lowestNext ⟨Nat.le_of_ble_eq_true rfl, Nat.le_of_ble_eq_true rfl⟩) (g5_preV hPc hK hDc hN hT hS hFc (ci := 7) (q0 := 0) rfl rfl) rfl rfl hl.1 rfl (lv_room (Nat.le_of_ble_eq_true rfl)) dX7_firstRowAt_55 ⟨Nat.le_of_ble_eq_true rfl, Nat.le_of_ble_eq_true rfl⟩) hS (fun q _ h => hFc q h) hFc (fun r u t H1 locs ht hvm hw hB hz1 hk1 hS => ?_)
          obtain ⟨hP1, hD1⟩ := hB
          rw [ht] at hP1
          obtain ⟨z25, i_24, y26, rfl⟩ := hw
          have i_24 : 0 ≤ z25.toInt ∧ z25.toInt ≤ 63 := i_24
          obtain ⟨hP, hD⟩ := va_join (wr := [(a_ba, (arJ G 24 f_ba)), (a_ad, (arI G 1536 f_ad))]) hP hD [0, 3] [1, 2] rfl rfl (by decide) (by decide) hk1 hFc hP1 hD1
          generalize H1 = H at hP hS ⊢
          refine g5_rs [(a_ba, (arJ G 24 f_ba)), (a_ad, (arI G 1536 f_ad)), (a_th, (oc7 a_h a_k a_ba a_ad e_fu a_cn a_nx a_hp a_hl a_lv)), (a_hp, (arI G 1536 z3))] hP hD (fun hP hD => ?_)
          refine g5_ti (v := z25) y26 ?_
          refine lv_istore_n (lv' := [(2, .int z25), (3, .int m_m), (4, .int m_h), (0, .ref a_th), (1, .int p_h)]) hx hb dX7_firstRowAt_58 rfl hl (by decide) rfl (fun ls hl => ?_)
          refine lv_iload_n hx hb dX7_firstRowAt_59 rfl (lv_at hl 1 rfl) ?_
          refine lv_aload_n hx hb dX7_firstRowAt_60 rfl (lv_at hl 3 rfl) ?_
          refine va_get (D := G.1) (ci := 7) (v := .ref a_ad) (C := RX7) (T := TX7) (N := 10) hx hb hts inG_X7 hown hK hP 2 rfl rfl 3 (by decide) (hts _ fl_X7_15) (fun _ h9 => h9) rfl dX7_firstRowAt_61 ?_
          refine lv_iload hx hb dX7_firstRowAt_64 (lv_at hl 2 rfl) ?_
          refine lv_bipush (v := 64) hx hb dX7_firstRowAt_66 (by decide) ?_
          refine lv_imul hx hb dX7_firstRowAt_68 ?_
          have t_27 : (m_h * 64).toInt = m_h.toInt * 64 := g5_imul (a := m_h.toInt) (b := 64) (by rfl) (by decide) (by omega) (by omega)
          refine lv_iload_n hx hb dX7_firstRowAt_69 rfl (lv_at hl 0 rfl) ?_
          refine lv_iadd hx hb dX7_firstRowAt_70 ?_
          have t_28 : ((m_h * 64) + z25).toInt = (m_h * 64).toInt + z25.toInt := g5_iadd (a := (m_h * 64).toInt) (b := z25.toInt) (by rfl) (by rfl) (by omega) (by omega)
          refine va_iald hx hb hK hP 1 0 rfl rfl (i := ((m_h * 64) + z25)) (vp_in_iff.mpr ⟨by omega, by omega⟩) dX7_firstRowAt_71 ?_
          refine lv_ior hx hb dX7_firstRowAt_72 ?_
          refine lv_istore_n (lv' := [(3, .int (m_m ||| (f_ad ((m_h * 64) + z25).toNatClampNeg))), (2, .int z25), (4, .int m_h), (0, .ref a_th), (1, .int p_h)]) hx hb dX7_firstRowAt_73 rfl hl (by decide) rfl (fun ls hl => ?_)
          refine lv_iinc (v := (m_h + 1)) (lv' := [(4, .int (m_h + 1)), (3, .int (m_m ||| (f_ad ((m_h * 64) + z25).toNatClampNeg))), (2, .int z25), (0, .ref a_th), (1, .int p_h)]) hx hb dX7_firstRowAt_74 hl (k := 2) rfl rfl (by decide) rfl (fun ls hl => ?_)
          have t_29 : (m_h + 1).toInt = m_h.toInt + 1 := g5_iadd (a := m_h.toInt) (b := 1) rfl (by decide) (by omega) (by omega)
          refine lv_goto (tgt := 44) hx hb dX7_firstRowAt_77 (by decide) ?_
          exact ih_44_22 (z25, (m_m ||| (f_ad ((m_h * 64) + z25).toNatClampNeg)), (m_h + 1)) ls H locs (show Int.toNat (24 - (m_h + 1).toInt) < Int.toNat (24 - m_h.toInt) from g_up (show m_h.toInt < (m_h + 1).toInt by omega) (show m_h.toInt < 24 by omega)) ⟨lv_sub hl [2, 1, 0, 3, 4] rfl, hP.sub [2, 0, 1, 3] rfl, hD.sub [2, 0, 1, 3] (by decide) rfl, hS, i_24, ⟨by omega, by omega⟩⟩
      ·
        have i_19 : ((z3 k_a.toNatClampNeg) &&& 1).toInt = 0 := by have z := g5_neN (a := ((z3 k_a.toNatClampNeg) &&& 1).toInt) (b := 0) (by rfl) (by decide) c_19; omega
        refine lv_iinc (v := (k_a + 1)) (lv' := [(2, .int (k_a + 1)), (0, .ref a_th), (1, .int p_h)]) hx hb dX7_firstRowAt_28 hl (k := 0) rfl rfl (by decide) rfl (fun ls hl => ?_)
        have t_30 : (k_a + 1).toInt = k_a.toInt + 1 := g5_iadd (a := k_a.toInt) (b := 1) rfl (by decide) (by omega) (by omega)
        refine lv_goto (tgt := 11) hx hb dX7_firstRowAt_31 (by decide) ?_
        exact ih_11_7 (k_a + 1) ls H locs (show Int.toNat (63 - (k_a + 1).toInt) < Int.toNat (63 - k_a.toInt) from g_up (show k_a.toInt < (k_a + 1).toInt by omega) (show k_a.toInt < 63 by omega)) ⟨lv_sub hl [0, 1, 2] rfl, hP, hD, hS, ⟨by omega, by omega⟩⟩
  ·
    have i_5 : z2.toInt = 0 := by have z := g5_neN (a := z2.toInt) (b := 0) (by rfl) (by decide) c_5; omega
    refine lv_iconst (v := (-1)) hx hb dX7_firstRowAt_7 (by decide) ?_
    exact W.iret (v := (-1)) hx hb hr (fun t ht hW => ⟨⟨(-1), [(a_th, (oc7 a_h a_k a_ba a_ad e_fu a_cn a_nx a_hp a_hl a_lv)), (a_ba, (arJ G 24 f_ba)), (a_ad, (arI G 1536 f_ad)), (a_hp, (arI G 1536 z3))], rfl, ⟨(-1), z3, ⟨by have zc_o_r : ((-1) : Int32).toInt = (-1) := (by decide); omega, by have zc_o_r : ((-1) : Int32).toInt = (-1) := (by decide); omega⟩, rfl, rfl⟩, by rw [ht]; exact hP.sub [0, 1, 2, 3] rfl, hD.sub [0, 1, 2, 3] (by decide) rfl⟩, hS.F ht⟩) hS.2.2 dX7_firstRowAt_8
theorem dgX7_holdIn_0 : ∀ r ∈ ([(0, (.iconst 0, 1)), (1, (.istore_n 2, 1)), (2, (.iload_n 2, 1)), (3, (.bipush 64, 2)), (5, (.if_icmp .ge 37, 3)), (8, (.aload_n 0, 1)), (9, (.getfield 31, 3)), (12, (.iload_n 2, 1)), (13, (.aload_n 0, 1)), (14, (.getfield 28, 3)), (17, (.iload_n 2, 1)), (18, (.iaload, 1)), (19, (.aload_n 0, 1)), (20, (.getfield 15, 3)), (23, (.iload_n 1, 1)), (24, (.iconst 1, 1)), (25, (.isub, 1)), (26, (.bipush 64, 2)), (28, (.imul, 1)), (29, (.iload_n 2, 1)), (30, (.iadd, 1)), (31, (.iaload, 1)), (32, (.invokestatic 124, 3)), (35, (.iastore, 1)), (36, (.iinc 2 1, 3)), (39, (.goto (-37), 3)), (42, (.iconst 0, 1)), (43, (.istore_n 2, 1)), (44, (.iload_n 2, 1)), (45, (.bipush 64, 2)), (47, (.if_icmp .ge 74, 3)), (50, (.iconst 0, 1)), (51, (.istore_n 3, 1)), (52, (.iconst 0, 1)), (53, (.istore 4, 2)), (55, (.iload 4, 2)), (57, (.iconst 4, 1)), (58, (.if_icmp .gt 50, 3)), (61, (.aload_n 0, 1)), (62, (.getfield 9, 3))] : List (Nat × (Instr × Nat))), decode cX7_holdIn r.1 = .ok r.2 := by decide +kernel
theorem dX7_holdIn_0 : decode cX7_holdIn 0 = .ok (.iconst 0, 1) := dgX7_holdIn_0 (0, (.iconst 0, 1)) (List.mem_of_getElem? (i := 0) rfl)
theorem dX7_holdIn_1 : decode cX7_holdIn 1 = .ok (.istore_n 2, 1) := dgX7_holdIn_0 (1, (.istore_n 2, 1)) (List.mem_of_getElem? (i := 1) rfl)
theorem dX7_holdIn_2 : decode cX7_holdIn 2 = .ok (.iload_n 2, 1) := dgX7_holdIn_0 (2, (.iload_n 2, 1)) (List.mem_of_getElem? (i := 2) rfl)
theorem dX7_holdIn_3 : decode cX7_holdIn 3 = .ok (.bipush 64, 2) := dgX7_holdIn_0 (3, (.bipush 64, 2)) (List.mem_of_getElem? (i := 3) rfl)
theorem dX7_holdIn_5 : decode cX7_holdIn 5 = .ok (.if_icmp .ge 37, 3) := dgX7_holdIn_0 (5, (.if_icmp .ge 37, 3)) (List.mem_of_getElem? (i := 4) rfl)
theorem dX7_holdIn_8 : decode cX7_holdIn 8 = .ok (.aload_n 0, 1) := dgX7_holdIn_0 (8, (.aload_n 0, 1)) (List.mem_of_getElem? (i := 5) rfl)
theorem dX7_holdIn_9 : decode cX7_holdIn 9 = .ok (.getfield 31, 3) := dgX7_holdIn_0 (9, (.getfield 31, 3)) (List.mem_of_getElem? (i := 6) rfl)
theorem dX7_holdIn_12 : decode cX7_holdIn 12 = .ok (.iload_n 2, 1) := dgX7_holdIn_0 (12, (.iload_n 2, 1)) (List.mem_of_getElem? (i := 7) rfl)
theorem dX7_holdIn_13 : decode cX7_holdIn 13 = .ok (.aload_n 0, 1) := dgX7_holdIn_0 (13, (.aload_n 0, 1)) (List.mem_of_getElem? (i := 8) rfl)
theorem dX7_holdIn_14 : decode cX7_holdIn 14 = .ok (.getfield 28, 3) := dgX7_holdIn_0 (14, (.getfield 28, 3)) (List.mem_of_getElem? (i := 9) rfl)
theorem dX7_holdIn_17 : decode cX7_holdIn 17 = .ok (.iload_n 2, 1) := dgX7_holdIn_0 (17, (.iload_n 2, 1)) (List.mem_of_getElem? (i := 10) rfl)
theorem dX7_holdIn_18 : decode cX7_holdIn 18 = .ok (.iaload, 1) := dgX7_holdIn_0 (18, (.iaload, 1)) (List.mem_of_getElem? (i := 11) rfl)
theorem dX7_holdIn_19 : decode cX7_holdIn 19 = .ok (.aload_n 0, 1) := dgX7_holdIn_0 (19, (.aload_n 0, 1)) (List.mem_of_getElem? (i := 12) rfl)
theorem dX7_holdIn_20 : decode cX7_holdIn 20 = .ok (.getfield 15, 3) := dgX7_holdIn_0 (20, (.getfield 15, 3)) (List.mem_of_getElem? (i := 13) rfl)
theorem dX7_holdIn_23 : decode cX7_holdIn 23 = .ok (.iload_n 1, 1) := dgX7_holdIn_0 (23, (.iload_n 1, 1)) (List.mem_of_getElem? (i := 14) rfl)
theorem dX7_holdIn_24 : decode cX7_holdIn 24 = .ok (.iconst 1, 1) := dgX7_holdIn_0 (24, (.iconst 1, 1)) (List.mem_of_getElem? (i := 15) rfl)
theorem dX7_holdIn_25 : decode cX7_holdIn 25 = .ok (.isub, 1) := dgX7_holdIn_0 (25, (.isub, 1)) (List.mem_of_getElem? (i := 16) rfl)
theorem dX7_holdIn_26 : decode cX7_holdIn 26 = .ok (.bipush 64, 2) := dgX7_holdIn_0 (26, (.bipush 64, 2)) (List.mem_of_getElem? (i := 17) rfl)
theorem dX7_holdIn_28 : decode cX7_holdIn 28 = .ok (.imul, 1) := dgX7_holdIn_0 (28, (.imul, 1)) (List.mem_of_getElem? (i := 18) rfl)
theorem dX7_holdIn_29 : decode cX7_holdIn 29 = .ok (.iload_n 2, 1) := dgX7_holdIn_0 (29, (.iload_n 2, 1)) (List.mem_of_getElem? (i := 19) rfl)
theorem dX7_holdIn_30 : decode cX7_holdIn 30 = .ok (.iadd, 1) := dgX7_holdIn_0 (30, (.iadd, 1)) (List.mem_of_getElem? (i := 20) rfl)
theorem dX7_holdIn_31 : decode cX7_holdIn 31 = .ok (.iaload, 1) := dgX7_holdIn_0 (31, (.iaload, 1)) (List.mem_of_getElem? (i := 21) rfl)
theorem dX7_holdIn_32 : decode cX7_holdIn 32 = .ok (.invokestatic 124, 3) := dgX7_holdIn_0 (32, (.invokestatic 124, 3)) (List.mem_of_getElem? (i := 22) rfl)
theorem dX7_holdIn_35 : decode cX7_holdIn 35 = .ok (.iastore, 1) := dgX7_holdIn_0 (35, (.iastore, 1)) (List.mem_of_getElem? (i := 23) rfl)
theorem dX7_holdIn_36 : decode cX7_holdIn 36 = .ok (.iinc 2 1, 3) := dgX7_holdIn_0 (36, (.iinc 2 1, 3)) (List.mem_of_getElem? (i := 24) rfl)
theorem dX7_holdIn_39 : decode cX7_holdIn 39 = .ok (.goto (-37), 3) := dgX7_holdIn_0 (39, (.goto (-37), 3)) (List.mem_of_getElem? (i := 25) rfl)
theorem dX7_holdIn_42 : decode cX7_holdIn 42 = .ok (.iconst 0, 1) := dgX7_holdIn_0 (42, (.iconst 0, 1)) (List.mem_of_getElem? (i := 26) rfl)
theorem dX7_holdIn_43 : decode cX7_holdIn 43 = .ok (.istore_n 2, 1) := dgX7_holdIn_0 (43, (.istore_n 2, 1)) (List.mem_of_getElem? (i := 27) rfl)
theorem dX7_holdIn_44 : decode cX7_holdIn 44 = .ok (.iload_n 2, 1) := dgX7_holdIn_0 (44, (.iload_n 2, 1)) (List.mem_of_getElem? (i := 28) rfl)
theorem dX7_holdIn_45 : decode cX7_holdIn 45 = .ok (.bipush 64, 2) := dgX7_holdIn_0 (45, (.bipush 64, 2)) (List.mem_of_getElem? (i := 29) rfl)
theorem dX7_holdIn_47 : decode cX7_holdIn 47 = .ok (.if_icmp .ge 74, 3) := dgX7_holdIn_0 (47, (.if_icmp .ge 74, 3)) (List.mem_of_getElem? (i := 30) rfl)
theorem dX7_holdIn_50 : decode cX7_holdIn 50 = .ok (.iconst 0, 1) := dgX7_holdIn_0 (50, (.iconst 0, 1)) (List.mem_of_getElem? (i := 31) rfl)
theorem dX7_holdIn_51 : decode cX7_holdIn 51 = .ok (.istore_n 3, 1) := dgX7_holdIn_0 (51, (.istore_n 3, 1)) (List.mem_of_getElem? (i := 32) rfl)
theorem dX7_holdIn_52 : decode cX7_holdIn 52 = .ok (.iconst 0, 1) := dgX7_holdIn_0 (52, (.iconst 0, 1)) (List.mem_of_getElem? (i := 33) rfl)
theorem dX7_holdIn_53 : decode cX7_holdIn 53 = .ok (.istore 4, 2) := dgX7_holdIn_0 (53, (.istore 4, 2)) (List.mem_of_getElem? (i := 34) rfl)
theorem dX7_holdIn_55 : decode cX7_holdIn 55 = .ok (.iload 4, 2) := dgX7_holdIn_0 (55, (.iload 4, 2)) (List.mem_of_getElem? (i := 35) rfl)
theorem dX7_holdIn_57 : decode cX7_holdIn 57 = .ok (.iconst 4, 1) := dgX7_holdIn_0 (57, (.iconst 4, 1)) (List.mem_of_getElem? (i := 36) rfl)
theorem dX7_holdIn_58 : decode cX7_holdIn 58 = .ok (.if_icmp .gt 50, 3) := dgX7_holdIn_0 (58, (.if_icmp .gt 50, 3)) (List.mem_of_getElem? (i := 37) rfl)
theorem dX7_holdIn_61 : decode cX7_holdIn 61 = .ok (.aload_n 0, 1) := dgX7_holdIn_0 (61, (.aload_n 0, 1)) (List.mem_of_getElem? (i := 38) rfl)
theorem dX7_holdIn_62 : decode cX7_holdIn 62 = .ok (.getfield 9, 3) := dgX7_holdIn_0 (62, (.getfield 9, 3)) (List.mem_of_getElem? (i := 39) rfl)
theorem dgX7_holdIn_1 : ∀ r ∈ ([(65, (.iload_n 1, 1)), (66, (.laload, 1)), (67, (.iload_n 2, 1)), (68, (.invokestatic 98, 3)), (71, (.ifCond .ne 37, 3)), (74, (.iload_n 2, 1)), (75, (.iload 4, 2)), (77, (.invokestatic 105, 3)), (80, (.istore 5, 2)), (82, (.iload_n 3, 1)), (83, (.iload 5, 2)), (85, (.iconst (-1), 1)), (86, (.if_icmp .ne 7, 3)), (89, (.iconst 0, 1)), (90, (.goto 10, 3)), (93, (.aload_n 0, 1)), (94, (.getfield 31, 3)), (97, (.iload 5, 2)), (99, (.iaload, 1)), (100, (.ior, 1)), (101, (.istore_n 3, 1)), (102, (.iinc 4 1, 3)), (105, (.goto (-50), 3)), (108, (.aload_n 0, 1)), (109, (.getfield 28, 3)), (112, (.iload_n 2, 1)), (113, (.iload_n 3, 1)), (114, (.iastore, 1)), (115, (.iinc 2 1, 3)), (118, (.goto (-74), 3)), (121, (.return_, 1))] : List (Nat × (Instr × Nat))), decode cX7_holdIn r.1 = .ok r.2 := by decide +kernel
theorem dX7_holdIn_65 : decode cX7_holdIn 65 = .ok (.iload_n 1, 1) := dgX7_holdIn_1 (65, (.iload_n 1, 1)) (List.mem_of_getElem? (i := 0) rfl)
theorem dX7_holdIn_66 : decode cX7_holdIn 66 = .ok (.laload, 1) := dgX7_holdIn_1 (66, (.laload, 1)) (List.mem_of_getElem? (i := 1) rfl)
theorem dX7_holdIn_67 : decode cX7_holdIn 67 = .ok (.iload_n 2, 1) := dgX7_holdIn_1 (67, (.iload_n 2, 1)) (List.mem_of_getElem? (i := 2) rfl)
theorem dX7_holdIn_68 : decode cX7_holdIn 68 = .ok (.invokestatic 98, 3) := dgX7_holdIn_1 (68, (.invokestatic 98, 3)) (List.mem_of_getElem? (i := 3) rfl)
theorem dX7_holdIn_71 : decode cX7_holdIn 71 = .ok (.ifCond .ne 37, 3) := dgX7_holdIn_1 (71, (.ifCond .ne 37, 3)) (List.mem_of_getElem? (i := 4) rfl)
theorem dX7_holdIn_74 : decode cX7_holdIn 74 = .ok (.iload_n 2, 1) := dgX7_holdIn_1 (74, (.iload_n 2, 1)) (List.mem_of_getElem? (i := 5) rfl)
theorem dX7_holdIn_75 : decode cX7_holdIn 75 = .ok (.iload 4, 2) := dgX7_holdIn_1 (75, (.iload 4, 2)) (List.mem_of_getElem? (i := 6) rfl)
theorem dX7_holdIn_77 : decode cX7_holdIn 77 = .ok (.invokestatic 105, 3) := dgX7_holdIn_1 (77, (.invokestatic 105, 3)) (List.mem_of_getElem? (i := 7) rfl)
theorem dX7_holdIn_80 : decode cX7_holdIn 80 = .ok (.istore 5, 2) := dgX7_holdIn_1 (80, (.istore 5, 2)) (List.mem_of_getElem? (i := 8) rfl)
theorem dX7_holdIn_82 : decode cX7_holdIn 82 = .ok (.iload_n 3, 1) := dgX7_holdIn_1 (82, (.iload_n 3, 1)) (List.mem_of_getElem? (i := 9) rfl)
theorem dX7_holdIn_83 : decode cX7_holdIn 83 = .ok (.iload 5, 2) := dgX7_holdIn_1 (83, (.iload 5, 2)) (List.mem_of_getElem? (i := 10) rfl)
theorem dX7_holdIn_85 : decode cX7_holdIn 85 = .ok (.iconst (-1), 1) := dgX7_holdIn_1 (85, (.iconst (-1), 1)) (List.mem_of_getElem? (i := 11) rfl)
theorem dX7_holdIn_86 : decode cX7_holdIn 86 = .ok (.if_icmp .ne 7, 3) := dgX7_holdIn_1 (86, (.if_icmp .ne 7, 3)) (List.mem_of_getElem? (i := 12) rfl)
theorem dX7_holdIn_89 : decode cX7_holdIn 89 = .ok (.iconst 0, 1) := dgX7_holdIn_1 (89, (.iconst 0, 1)) (List.mem_of_getElem? (i := 13) rfl)
theorem dX7_holdIn_90 : decode cX7_holdIn 90 = .ok (.goto 10, 3) := dgX7_holdIn_1 (90, (.goto 10, 3)) (List.mem_of_getElem? (i := 14) rfl)
theorem dX7_holdIn_93 : decode cX7_holdIn 93 = .ok (.aload_n 0, 1) := dgX7_holdIn_1 (93, (.aload_n 0, 1)) (List.mem_of_getElem? (i := 15) rfl)
theorem dX7_holdIn_94 : decode cX7_holdIn 94 = .ok (.getfield 31, 3) := dgX7_holdIn_1 (94, (.getfield 31, 3)) (List.mem_of_getElem? (i := 16) rfl)
theorem dX7_holdIn_97 : decode cX7_holdIn 97 = .ok (.iload 5, 2) := dgX7_holdIn_1 (97, (.iload 5, 2)) (List.mem_of_getElem? (i := 17) rfl)
theorem dX7_holdIn_99 : decode cX7_holdIn 99 = .ok (.iaload, 1) := dgX7_holdIn_1 (99, (.iaload, 1)) (List.mem_of_getElem? (i := 18) rfl)
theorem dX7_holdIn_100 : decode cX7_holdIn 100 = .ok (.ior, 1) := dgX7_holdIn_1 (100, (.ior, 1)) (List.mem_of_getElem? (i := 19) rfl)
theorem dX7_holdIn_101 : decode cX7_holdIn 101 = .ok (.istore_n 3, 1) := dgX7_holdIn_1 (101, (.istore_n 3, 1)) (List.mem_of_getElem? (i := 20) rfl)
theorem dX7_holdIn_102 : decode cX7_holdIn 102 = .ok (.iinc 4 1, 3) := dgX7_holdIn_1 (102, (.iinc 4 1, 3)) (List.mem_of_getElem? (i := 21) rfl)
theorem dX7_holdIn_105 : decode cX7_holdIn 105 = .ok (.goto (-50), 3) := dgX7_holdIn_1 (105, (.goto (-50), 3)) (List.mem_of_getElem? (i := 22) rfl)
theorem dX7_holdIn_108 : decode cX7_holdIn 108 = .ok (.aload_n 0, 1) := dgX7_holdIn_1 (108, (.aload_n 0, 1)) (List.mem_of_getElem? (i := 23) rfl)
theorem dX7_holdIn_109 : decode cX7_holdIn 109 = .ok (.getfield 28, 3) := dgX7_holdIn_1 (109, (.getfield 28, 3)) (List.mem_of_getElem? (i := 24) rfl)
theorem dX7_holdIn_112 : decode cX7_holdIn 112 = .ok (.iload_n 2, 1) := dgX7_holdIn_1 (112, (.iload_n 2, 1)) (List.mem_of_getElem? (i := 25) rfl)
theorem dX7_holdIn_113 : decode cX7_holdIn 113 = .ok (.iload_n 3, 1) := dgX7_holdIn_1 (113, (.iload_n 3, 1)) (List.mem_of_getElem? (i := 26) rfl)
theorem dX7_holdIn_114 : decode cX7_holdIn 114 = .ok (.iastore, 1) := dgX7_holdIn_1 (114, (.iastore, 1)) (List.mem_of_getElem? (i := 27) rfl)
theorem dX7_holdIn_115 : decode cX7_holdIn 115 = .ok (.iinc 2 1, 3) := dgX7_holdIn_1 (115, (.iinc 2 1, 3)) (List.mem_of_getElem? (i := 28) rfl)
theorem dX7_holdIn_118 : decode cX7_holdIn 118 = .ok (.goto (-74), 3) := dgX7_holdIn_1 (118, (.goto (-74), 3)) (List.mem_of_getElem? (i := 29) rfl)
theorem dX7_holdIn_121 : decode cX7_holdIn 121 = .ok (.return_, 1) := dgX7_holdIn_1 (121, (.return_, 1)) (List.mem_of_getElem? (i := 30) rfl)
theorem fl_X7_28 : Cond.fieldLink RX7 28 "LateGlass$Thief" "held" "[I" ∈ tblG := tg 326 (by decide +kernel) (by decide +kernel)
theorem fl_X7_31 : Cond.fieldLink RX7 31 "LateGlass$Thief" "leaving" "[I" ∈ tblG := tg 327 (by decide +kernel) (by decide +kernel)
theorem ml_X7_124 : Cond.methodLink RX7 124 yX7_masksAfter ∈ tblG := tg 1013 (by decide +kernel) (by decide +kernel)
theorem st_X7_masksAfter : Cond.static yX7_masksAfter ∈ tblG := tg 1014 (by decide +kernel) (by decide +kernel)
theorem cd_X7_masksAfter : Cond.code yX7_masksAfter cX7_masksAfter 4 (some .int) ∈ tblG := tg 1015 (by decide +kernel) (by decide +kernel)
theorem gW_X7_masksAfter : GoodIn tblG (wsG yX7_masksAfter cX7_masksAfter 4 (some .int)) := tgi cd_X7_masksAfter
theorem gS_X7_124 : GoodIn tblG (va_wsS RX7 124 yX7_masksAfter (wsG yX7_masksAfter cX7_masksAfter 4 (some .int))) := tgS ml_X7_124 st_X7_masksAfter ini_X7 gW_X7_masksAfter
theorem hs_X7_masksAfter : yX7_masksAfter.cls ≠ "java/lang/invoke/MethodHandle" ∧ yX7_masksAfter.cls ≠ "java/lang/invoke/VarHandle" ∧ (parseMethodDescriptor yX7_masksAfter.desc).map (fun d => d.parameters.length) = some 2 := by decide +kernel
set_option maxHeartbeats 4000000 in
set_option maxRecDepth 100000 in
theorem th_hold (l : Launch) (G : g5_G) (a_th a_ba a_ad a_hl a_lv a_h a_k a_cn a_nx a_hp : Nat) (sz : Nat) (e_fu : Int32) (p_h : Int32) (f_ba : Nat → Int64) (f_ad : Nat → Int32) (f_hl : Nat → Int32) (f_lv : Nat → Int32) (h_p_h : 1 ≤ p_h.toInt ∧ p_h.toInt ≤ 23) : Met l yX7_holdIn (wsG yX7_holdIn cX7_holdIn 6 none) ({ frames := 1, cells := 0, slots := 0, locals := 23 }) (va_Pc [.ref a_th, .int p_h] (g5_P G [(a_th, (oc7 a_h a_k a_ba a_ad e_fu a_cn a_nx a_hp a_hl a_lv)), (a_ba, (arJ G 24 f_ba)), (a_ad, (arI G 1536 f_ad)), (a_hl, (arI G 64 f_hl)), (a_lv, (arI G 64 f_lv))] sz)) (va_Qv (fun (u : va_W) => (∃ (o_f : Nat → Int32) (o_g : Nat → Int32), (u = [(a_th, (oc7 a_h a_k a_ba a_ad e_fu a_cn a_nx a_hp a_hl a_lv)), (a_ba, (arJ G 24 f_ba)), (a_ad, (arI G 1536 f_ad)), (a_hl, (arI G 64 o_f)), (a_lv, (arI G 64 o_g))]))) (g5_B G (va_A [(a_th, (oc7 a_h a_k a_ba a_ad e_fu a_cn a_nx a_hp a_hl a_lv)), (a_ba, (arJ G 24 f_ba)), (a_ad, (arI G 1536 f_ad)), (a_hl, (arI G 64 f_hl)), (a_lv, (arI G 64 f_lv))] sz)) (va_A [(a_th, (oc7 a_h a_k a_ba a_ad e_fu a_cn a_nx a_hp a_hl a_lv)), (a_ba, (arJ G 24 f_ba)), (a_ad, (arI G 1536 f_ad)), (a_hl, (arI G 64 f_hl)), (a_lv, (arI G 64 f_lv))] sz)) 0 0 (va_A [(a_th, (oc7 a_h a_k a_ba a_ad e_fu a_cn a_nx a_hp a_hl a_lv)), (a_ba, (arJ G 24 f_ba)), (a_ad, (arI G 1536 f_ad)), (a_hl, (arI G 64 f_hl)), (a_lv, (arI G 64 f_lv))] sz) := by
  refine Met.ofW (cc := cX7_holdIn) (maxL := 6) (ret := none) (by decide) rfl ?_
  intro p e s m args below meth c s₁ B hml hv
  obtain ⟨rfl, hsz, hP, hK, hD0, hN, hT⟩ := hv
  have hx := B.exec
  have hb := B.bytes
  have hr := B.returns
  have hts : ∀ w ∈ tblG, w.before _ s = true := fun w h => atoms_spec (ws := (wsG yX7_holdIn cX7_holdIn 6 none)) B.pre w (List.mem_cons_of_mem _ h)
  have hown : s.vm.findClass RX7 = some m.cls := findClass_of_methodNamed B.named
  have hlocks := B.notSynchronized
  subst hsz
  have hD := hD0.self (sz := s.heap.size)
  generalize hAe : va_A [(a_th, (oc7 a_h a_k a_ba a_ad e_fu a_cn a_nx a_hp a_hl a_lv)), (a_ba, (arJ G 24 f_ba)), (a_ad, (arI G 1536 f_ad)), (a_hl, (arI G 64 f_hl)), (a_lv, (arI G 64 f_lv))] s.heap.size = A at hD hT ⊢
  have hA : ∀ q : Nat, s.heap.size ≤ q → A q := fun q h => by rw [← hAe]; exact Or.inr h
  have hS : va_S A s.heap s.heap [] := va_S.rf
  have hP : va_P G.1 vwCl [(a_th, (oc7 a_h a_k a_ba a_ad e_fu a_cn a_nx a_hp a_hl a_lv)), (a_ba, (arJ G 24 f_ba)), (a_ad, (arI G 1536 f_ad)), (a_hl, (arI G 64 f_hl)), (a_lv, (arI G 64 f_lv))] s.heap := hP
  have hl := lv_entry ([.ref a_th, .int p_h]) (n := 6) (Nat.le_of_ble_eq_true rfl)
  rw [lg_entry_eq]
  generalize (lg_sl ([.ref a_th, .int p_h]) ++ List.replicate (6 - (lg_sl ([.ref a_th, .int p_h])).length) Slot.unset).toArray = ls at hl ⊢
  have hl : lv_has ls 6 [(0, .ref a_th), (1, .int p_h)] := hl
  refine lv_iconst (v := 0) hx hb dX7_holdIn_0 (by decide) ?_
  refine lv_istore_n (lv' := [(2, .int 0), (0, .ref a_th), (1, .int p_h)]) hx hb dX7_holdIn_1 rfl hl (by decide) rfl (fun ls hl => ?_)
  refine g5_loop (α := (Int32) × (Nat → Int32)) (fun (q : (Int32) × (Nat → Int32)) (ls : Array Slot) (H : Heap) (locs : List Loc) => match q with | (k_i, k_f) => lv_has ls 6 [(2, .int k_i), (0, .ref a_th), (1, .int p_h)] ∧ va_P G.1 vwCl [(a_th, (oc7 a_h a_k a_ba a_ad e_fu a_cn a_nx a_hp a_hl a_lv)), (a_ba, (arJ G 24 f_ba)), (a_ad, (arI G 1536 f_ad)), (a_hl, (arI G 64 f_hl)), (a_lv, (arI G 64 k_f))] H ∧ va_D A [(a_th, (oc7 a_h a_k a_ba a_ad e_fu a_cn a_nx a_hp a_hl a_lv)), (a_ba, (arJ G 24 f_ba)), (a_ad, (arI G 1536 f_ad)), (a_hl, (arI G 64 f_hl)), (a_lv, (arI G 64 k_f))] ∧ va_S A s.heap H locs ∧ (0 ≤ k_i.toInt ∧ k_i.toInt ≤ 64)) (fun (q : (Int32) × (Nat → Int32)) => match q with | (k_i, k_f) => Int.toNat (64 - k_i.toInt)) (0, f_lv) ⟨lv_sub hl [0, 1, 2] rfl, hP, hD, hS, ⟨by decide, by decide⟩⟩ ?_
  rintro ⟨k_i, k_f⟩ ls H locs ⟨hl, hP, hD, hS, i_1⟩ ih_2_2
  have hl : lv_has ls 6 [(2, .int k_i), (0, .ref a_th), (1, .int p_h)] := hl
  have i_1 : 0 ≤ k_i.toInt ∧ k_i.toInt ≤ 64 := i_1
  refine g5_rs [(a_th, (oc7 a_h a_k a_ba a_ad e_fu a_cn a_nx a_hp a_hl a_lv)), (a_ba, (arJ G 24 f_ba)), (a_ad, (arI G 1536 f_ad)), (a_hl, (arI G 64 f_hl)), (a_lv, (arI G 64 k_f))] hP hD (fun hP hD => ?_)
  refine lv_iload_n hx hb dX7_holdIn_2 rfl (lv_at hl 0 rfl) ?_
  refine lv_bipush (v := 64) hx hb dX7_holdIn_3 (by decide) ?_
  refine lv_icmp_ge (tgt := 42) hx hb dX7_holdIn_5 (by decide) (fun c_3 => ?_) (fun c_3 => ?_)
  ·
    have i_3 : k_i.toInt ≥ 64 := by have z := g5_ge (a := k_i.toInt) (b := 64) (by rfl) (by decide) c_3; omega
    refine lv_iconst (v := 0) hx hb dX7_holdIn_42 (by decide) ?_
    refine lv_istore_n (lv' := [(2, .int 0), (0, .ref a_th), (1, .int p_h)]) hx hb dX7_holdIn_43 rfl hl (by decide) rfl (fun ls hl => ?_)
    refine g5_loop (α := (Int32) × (Nat → Int32)) (fun (q : (Int32) × (Nat → Int32)) (ls : Array Slot) (H : Heap) (locs : List Loc) => match q with | (m_i, m_f) => lv_has ls 6 [(2, .int m_i), (0, .ref a_th), (1, .int p_h)] ∧ va_P G.1 vwCl [(a_th, (oc7 a_h a_k a_ba a_ad e_fu a_cn a_nx a_hp a_hl a_lv)), (a_ba, (arJ G 24 f_ba)), (a_ad, (arI G 1536 f_ad)), (a_hl, (arI G 64 m_f)), (a_lv, (arI G 64 k_f))] H ∧ va_D A [(a_th, (oc7 a_h a_k a_ba a_ad e_fu a_cn a_nx a_hp a_hl a_lv)), (a_ba, (arJ G 24 f_ba)), (a_ad, (arI G 1536 f_ad)), (a_hl, (arI G 64 m_f)), (a_lv, (arI G 64 k_f))] ∧ va_S A s.heap H locs ∧ (0 ≤ m_i.toInt ∧ m_i.toInt ≤ 64)) (fun (q : (Int32) × (Nat → Int32)) => match q with | (m_i, m_f) => Int.toNat (64 - m_i.toInt)) (0, f_hl) ⟨lv_sub hl [0, 1, 2] rfl, hP, hD, hS, ⟨by decide, by decide⟩⟩ ?_
    rintro ⟨m_i, m_f⟩ ls H locs ⟨hl, hP, hD, hS, i_4⟩ ih_44_5
    have hl : lv_has ls 6 [(2, .int m_i), (0, .ref a_th), (1, .int p_h)] := hl
    have i_4 : 0 ≤ m_i.toInt ∧ m_i.toInt ≤ 64 := i_4
    refine g5_rs [(a_th, (oc7 a_h a_k a_ba a_ad e_fu a_cn a_nx a_hp a_hl a_lv)), (a_ba, (arJ G 24 f_ba)), (a_ad, (arI G 1536 f_ad)), (a_hl, (arI G 64 m_f)), (a_lv, (arI G 64 k_f))] hP hD (fun hP hD => ?_)
    refine lv_iload_n hx hb dX7_holdIn_44 rfl (lv_at hl 0 rfl) ?_
    refine lv_bipush (v := 64) hx hb dX7_holdIn_45 (by decide) ?_
    refine lv_icmp_ge (tgt := 121) hx hb dX7_holdIn_47 (by decide) (fun c_6 => ?_) (fun c_6 => ?_)
    ·
      have i_6 : m_i.toInt ≥ 64 := by have z := g5_ge (a := m_i.toInt) (b := 64) (by rfl) (by decide) c_6; omega
      exact W.vret hx hb hr (fun t ht hW => ⟨⟨[(a_th, (oc7 a_h a_k a_ba a_ad e_fu a_cn a_nx a_hp a_hl a_lv)), (a_ba, (arJ G 24 f_ba)), (a_ad, (arI G 1536 f_ad)), (a_hl, (arI G 64 m_f)), (a_lv, (arI G 64 k_f))], rfl, ⟨m_f, k_f, rfl⟩, by rw [ht]; exact hP.sub [0, 1, 2, 3, 4] rfl, hD.sub [0, 1, 2, 3, 4] (by decide) rfl⟩, hS.F ht⟩) hS.2.2 dX7_holdIn_121
    ·
      have i_6 : m_i.toInt < 64 := by have z := g5_geN (a := m_i.toInt) (b := 64) (by rfl) (by decide) c_6; omega
      refine lv_iconst (v := 0) hx hb dX7_holdIn_50 (by decide) ?_
      refine lv_istore_n (lv' := [(3, .int 0), (2, .int m_i), (0, .ref a_th), (1, .int p_h)]) hx hb dX7_holdIn_51 rfl hl (by decide) rfl (fun ls hl => ?_)
      refine lv_iconst (v := 0) hx hb dX7_holdIn_52 (by decide) ?_
      refine lv_istore (lv' := [(4, .int 0), (3, .int 0), (2, .int m_i), (0, .ref a_th), (1, .int p_h)]) hx hb dX7_holdIn_53 hl (by decide) rfl (fun ls hl => ?_)
      refine g5_loop (α := (Int32) × (Int32)) (fun (q : (Int32) × (Int32)) (ls : Array Slot) (H : Heap) (locs : List Loc) => match q with | (n_w, n_t) => lv_has ls 6 [(3, .int n_t), (4, .int n_w), (2, .int m_i), (0, .ref a_th), (1, .int p_h)] ∧ va_P G.1 vwCl [(a_th, (oc7 a_h a_k a_ba a_ad e_fu a_cn a_nx a_hp a_hl a_lv)), (a_ba, (arJ G 24 f_ba)), (a_ad, (arI G 1536 f_ad)), (a_hl, (arI G 64 m_f)), (a_lv, (arI G 64 k_f))] H ∧ va_D A [(a_th, (oc7 a_h a_k a_ba a_ad e_fu a_cn a_nx a_hp a_hl a_lv)), (a_ba, (arJ G 24 f_ba)), (a_ad, (arI G 1536 f_ad)), (a_hl, (arI G 64 m_f)), (a_lv, (arI G 64 k_f))] ∧ va_S A s.heap H locs ∧ (0 ≤ n_w.toInt ∧ n_w.toInt ≤ 5)) (fun (q : (Int32) × (Int32)) => match q with | (n_w, n_t) => Int.toNat (5 - n_w.toInt)) (0, 0) ⟨lv_sub hl [1, 0, 2, 3, 4] rfl, hP, hD, hS, ⟨by decide, by decide⟩⟩ ?_
      rintro ⟨n_w, n_t⟩ ls H locs ⟨hl, hP, hD, hS, i_7⟩ ih_55_8
      have hl : lv_has ls 6 [(3, .int n_t), (4, .int n_w), (2, .int m_i), (0, .ref a_th), (1, .int p_h)] := hl
      have i_7 : 0 ≤ n_w.toInt ∧ n_w.toInt ≤ 5 := i_7
      refine g5_rs [(a_th, (oc7 a_h a_k a_ba a_ad e_fu a_cn a_nx a_hp a_hl a_lv)), (a_ba, (arJ G 24 f_ba)), (a_ad, (arI G 1536 f_ad)), (a_hl, (arI G 64 m_f)), (a_lv, (arI G 64 k_f))] hP hD (fun hP hD => ?_)
      refine lv_iload hx hb dX7_holdIn_55 (lv_at hl 1 rfl) ?_
      refine lv_iconst (v := 4) hx hb dX7_holdIn_57 (by decide) ?_
      refine lv_icmp_gt (tgt := 108) hx hb dX7_holdIn_58 (by decide) (fun c_9 => ?_) (fun c_9 => ?_)
      ·
        have i_9 : n_w.toInt > 4 := by have z := g5_gt (a := n_w.toInt) (b := 4) (by rfl) (by decide) c_9; omega
        refine lv_aload_n hx hb dX7_holdIn_108 rfl (lv_at hl 3 rfl) ?_
        refine va_get (D := G.1) (ci := 7) (v := .ref a_hl) (C := RX7) (T := TX7) (N := 10) hx hb hts inG_X7 hown hK hP 0 rfl rfl 8 (by decide) (hts _ fl_X7_28) (fun _ h9 => h9) rfl dX7_holdIn_109 ?_
        refine lv_iload_n hx hb dX7_holdIn_112 rfl (lv_at hl 2 rfl) ?_
        refine lv_iload_n hx hb dX7_holdIn_113 rfl (lv_at hl 0 rfl) ?_
        refine va_iast hx hb hK hP hD hS 3 0 rfl rfl (i := m_i) (x := n_t) (vp_in_iff.mpr ⟨by omega, by omega⟩) dX7_holdIn_114 (fun H locs hP hD hS => ?_)
        refine g5_rs [(a_th, (oc7 a_h a_k a_ba a_ad e_fu a_cn a_nx a_hp a_hl a_lv)), (a_ba, (arJ G 24 f_ba)), (a_ad, (arI G 1536 f_ad)), (a_hl, (arI G 64 (upd m_f m_i.toNatClampNeg n_t))), (a_lv, (arI G 64 k_f))] hP hD (fun hP hD => ?_)
        refine lv_iinc (v := (m_i + 1)) (lv' := [(2, .int (m_i + 1)), (3, .int n_t), (4, .int n_w), (0, .ref a_th), (1, .int p_h)]) hx hb dX7_holdIn_115 hl (k := 2) rfl rfl (by decide) rfl (fun ls hl => ?_)
        have t_10 : (m_i + 1).toInt = m_i.toInt + 1 := g5_iadd (a := m_i.toInt) (b := 1) rfl (by decide) (by omega) (by omega)
        refine lv_goto (tgt := 44) hx hb dX7_holdIn_118 (by decide) ?_
        exact ih_44_5 ((m_i + 1), (upd m_f m_i.toNatClampNeg n_t)) ls H locs (show Int.toNat (64 - (m_i + 1).toInt) < Int.toNat (64 - m_i.toInt) from g_up (show m_i.toInt < (m_i + 1).toInt by omega) (show m_i.toInt < 64 by omega)) ⟨lv_sub hl [0, 3, 4] rfl, hP, hD, hS, ⟨by omega, by omega⟩⟩
      ·
        have i_9 : n_w.toInt ≤ 4 := by have z := g5_gtN (a := n_w.toInt) (b := 4) (by rfl) (by decide) c_9; omega
        refine lv_aload_n hx hb dX7_holdIn_61 rfl (lv_at hl 3 rfl) ?_
        refine va_get (D := G.1) (ci := 7) (v := .ref a_ba) (C := RX7) (T := TX7) (N := 10) hx hb hts inG_X7 hown hK hP 0 rfl rfl 2 (by decide) (hts _ fl_X7_9) (fun _ h9 => h9) rfl dX7_holdIn_62 ?_
        refine lv_iload_n hx hb dX7_holdIn_65 rfl (lv_at hl 4 rfl) ?_
        refine va_lald hx hb hK hP 1 1 rfl rfl (i := p_h) (vp_in_iff.mpr ⟨by omega, by omega⟩) dX7_holdIn_66 ?_
        refine lv_iload_n hx hb dX7_holdIn_67 rfl (lv_at hl 2 rfl) ?_
        obtain ⟨hPc, hDc, hFc⟩ := g5_sub3 (wc := []) hP hD hS hA [] (by decide) rfl
        refine va_calli (va_runSN (As := [.long (f_ba p_h.toNatClampNeg), .int m_i]) (rest := []) ⟨hx, hb, hml, hown, hts⟩ (k_isOn l G H.size m_i (f_ba p_h.toNatClampNeg) ⟨by omega, by omega⟩) ⟨va_cnB 2 hts gW_X11_isOn rfl rfl rfl (hN.1 _ g5_nw_X7_98) (hts _ ini_X11) hs_X11_isOn ⟨Nat.le_of_ble_eq_true rfl, Nat.le_of_ble_eq_true rfl⟩, hts _ st_X11_isOn, trivial⟩ (g5_preS hPc hK hDc hN hT hS hFc) rfl rfl hl.1 rfl (lv_room (Nat.le_of_ble_eq_true rfl)) dX7_holdIn_68 ⟨Nat.le_of_ble_eq_true rfl, Nat.le_of_ble_eq_true rfl⟩) hS (fun q _ h => hFc q h) hFc (fun r u t H1 locs ht hvm hw hB hz1 hk1 hS => ?_)
        obtain ⟨hP1, hD1⟩ := hB
        rw [ht] at hP1
        rcases hw with ⟨i_11, rfl, rfl⟩ | ⟨i_12, rfl, rfl⟩
        ·
          have i_11 : onB (f_ba p_h.toNatClampNeg) m_i.toInt = false := i_11
          have hP := g5_same hP hk1
          generalize H1 = H at hP hS ⊢
          refine lv_if_ne (tgt := 108) hx hb dX7_holdIn_71 (by decide) (fun c_13 => ?_) (fun c_13 => ?_)
          ·
            exact absurd c_13 (by decide)
          ·
            refine lv_iload_n hx hb dX7_holdIn_74 rfl (lv_at hl 2 rfl) ?_
            refine lv_iload hx hb dX7_holdIn_75 (lv_at hl 1 rfl) ?_
            obtain ⟨hPc, hDc, hFc⟩ := g5_sub3 (wc := []) hP hD hS hA [] (by decide) rfl
            refine va_calli (va_runSN (As := [.int m_i, .int n_w]) (rest := []) ⟨hx, hb, hml, hown, hts⟩ (k_beside l G H.size m_i n_w ⟨by omega, by omega⟩) ⟨va_cnB 2 hts gW_X11_beside rfl rfl rfl (hN.1 _ g5_nw_X7_105) (hts _ ini_X11) hs_X11_beside ⟨Nat.le_of_ble_eq_true rfl, Nat.le_of_ble_eq_true rfl⟩, hts _ st_X11_beside, trivial⟩ (g5_preS hPc hK hDc hN hT hS hFc) rfl rfl hl.1 rfl (lv_room (Nat.le_of_ble_eq_true rfl)) dX7_holdIn_77 ⟨Nat.le_of_ble_eq_true rfl, Nat.le_of_ble_eq_true rfl⟩) hS (fun q _ h => hFc q h) hFc (fun r u t H1 locs ht hvm hw hB hz1 hk1 hS => ?_)
            obtain ⟨hP1, hD1⟩ := hB
            rw [ht] at hP1
            obtain ⟨z16, i_14, i_15, y17, rfl⟩ := hw
            have i_14 : z16.toInt = bs m_i.toInt n_w.toInt := i_14
            have i_15 : -1 ≤ z16.toInt ∧ z16.toInt ≤ 63 := i_15
            have hP := g5_same hP hk1
            generalize H1 = H at hP hS ⊢
            refine g5_ti (v := z16) y17 ?_
            refine lv_istore (lv' := [(5, .int z16), (3, .int n_t), (4, .int n_w), (2, .int m_i), (0, .ref a_th), (1, .int p_h)]) hx hb dX7_holdIn_80 hl (by decide) rfl (fun ls hl => ?_)
            refine lv_iload_n hx hb dX7_holdIn_82 rfl (lv_at hl 1 rfl) ?_
            refine lv_iload hx hb dX7_holdIn_83 (lv_at hl 0 rfl) ?_
            refine lv_iconst (v := (-1)) hx hb dX7_holdIn_85 (by decide) ?_
            refine lv_icmp_ne (tgt := 93) hx hb dX7_holdIn_86 (by decide) (fun c_18 => ?_) (fun c_18 => ?_)
            ·
              have n_18 : gNe (z16.toInt) ((-1)) := by have z := g5_ne (a := z16.toInt) (b := (-1)) (by rfl) (by decide) c_18; unfold gNe; omega
              have i_18 : z16.toInt ≥ 0 := by have z := g5_ne (a := z16.toInt) (b := (-1)) (by rfl) (by decide) c_18; omega
              refine lv_aload_n hx hb dX7_holdIn_93 rfl (lv_at hl 4 rfl) ?_
              refine va_get (D := G.1) (ci := 7) (v := .ref a_lv) (C := RX7) (T := TX7) (N := 10) hx hb hts inG_X7 hown hK hP 0 rfl rfl 9 (by decide) (hts _ fl_X7_31) (fun _ h9 => h9) rfl dX7_holdIn_94 ?_
              refine lv_iload hx hb dX7_holdIn_97 (lv_at hl 0 rfl) ?_
              refine va_iald hx hb hK hP 4 0 rfl rfl (i := z16) (vp_in_iff.mpr ⟨by omega, by omega⟩) dX7_holdIn_99 ?_
              refine lv_ior hx hb dX7_holdIn_100 ?_
              refine lv_istore_n (lv' := [(3, .int (n_t ||| (k_f z16.toNatClampNeg))), (5, .int z16), (4, .int n_w), (2, .int m_i), (0, .ref a_th), (1, .int p_h)]) hx hb dX7_holdIn_101 rfl hl (by decide) rfl (fun ls hl => ?_)
              refine lv_iinc (v := (n_w + 1)) (lv' := [(4, .int (n_w + 1)), (3, .int (n_t ||| (k_f z16.toNatClampNeg))), (5, .int z16), (2, .int m_i), (0, .ref a_th), (1, .int p_h)]) hx hb dX7_holdIn_102 hl (k := 2) rfl rfl (by decide) rfl (fun ls hl => ?_)
              have t_19 : (n_w + 1).toInt = n_w.toInt + 1 := g5_iadd (a := n_w.toInt) (b := 1) rfl (by decide) (by omega) (by omega)
              refine lv_goto (tgt := 55) hx hb dX7_holdIn_105 (by decide) ?_
              exact ih_55_8 ((n_w + 1), (n_t ||| (k_f z16.toNatClampNeg))) ls H locs (show Int.toNat (5 - (n_w + 1).toInt) < Int.toNat (5 - n_w.toInt) from g_up (show n_w.toInt < (n_w + 1).toInt by omega) (show n_w.toInt < 5 by omega)) ⟨lv_sub hl [1, 0, 3, 4, 5] rfl, hP, hD, hS, ⟨by omega, by omega⟩⟩
            ·
              have i_18 : z16.toInt = (-1) := by have z := g5_neN (a := z16.toInt) (b := (-1)) (by rfl) (by decide) c_18; omega
              refine lv_iconst (v := 0) hx hb dX7_holdIn_89 (by decide) ?_
              refine lv_goto (tgt := 100) hx hb dX7_holdIn_90 (by decide) ?_
              refine lv_ior hx hb dX7_holdIn_100 ?_
              refine g5_ti (v := n_t) (by simp) ?_
              refine lv_istore_n (lv' := [(3, .int n_t), (5, .int z16), (4, .int n_w), (2, .int m_i), (0, .ref a_th), (1, .int p_h)]) hx hb dX7_holdIn_101 rfl hl (by decide) rfl (fun ls hl => ?_)
              refine lv_iinc (v := (n_w + 1)) (lv' := [(4, .int (n_w + 1)), (3, .int n_t), (5, .int z16), (2, .int m_i), (0, .ref a_th), (1, .int p_h)]) hx hb dX7_holdIn_102 hl (k := 2) rfl rfl (by decide) rfl (fun ls hl => ?_)
              have t_20 : (n_w + 1).toInt = n_w.toInt + 1 := g5_iadd (a := n_w.toInt) (b := 1) rfl (by decide) (by omega) (by omega)
              refine lv_goto (tgt := 55) hx hb dX7_holdIn_105 (by decide) ?_
              exact ih_55_8 ((n_w + 1), n_t) ls H locs (show Int.toNat (5 - (n_w + 1).toInt) < Int.toNat (5 - n_w.toInt) from g_up (show n_w.toInt < (n_w + 1).toInt by omega) (show n_w.toInt < 5 by omega)) ⟨lv_sub hl [1, 0, 3, 4, 5] rfl, hP, hD, hS, ⟨by omega, by omega⟩⟩
        ·
          have i_12 : onB (f_ba p_h.toNatClampNeg) m_i.toInt = true := i_12
          have hP := g5_same hP hk1
          generalize H1 = H at hP hS ⊢
          refine lv_if_ne (tgt := 108) hx hb dX7_holdIn_71 (by decide) (fun c_21 => ?_) (fun c_21 => ?_)
          ·
            refine lv_aload_n hx hb dX7_holdIn_108 rfl (lv_at hl 3 rfl) ?_
            refine va_get (D := G.1) (ci := 7) (v := .ref a_hl) (C := RX7) (T := TX7) (N := 10) hx hb hts inG_X7 hown hK hP 0 rfl rfl 8 (by decide) (hts _ fl_X7_28) (fun _ h9 => h9) rfl dX7_holdIn_109 ?_
            refine lv_iload_n hx hb dX7_holdIn_112 rfl (lv_at hl 2 rfl) ?_
            refine lv_iload_n hx hb dX7_holdIn_113 rfl (lv_at hl 0 rfl) ?_
            refine va_iast hx hb hK hP hD hS 3 0 rfl rfl (i := m_i) (x := n_t) (vp_in_iff.mpr ⟨by omega, by omega⟩) dX7_holdIn_114 (fun H locs hP hD hS => ?_)
            refine g5_rs [(a_th, (oc7 a_h a_k a_ba a_ad e_fu a_cn a_nx a_hp a_hl a_lv)), (a_ba, (arJ G 24 f_ba)), (a_ad, (arI G 1536 f_ad)), (a_hl, (arI G 64 (upd m_f m_i.toNatClampNeg n_t))), (a_lv, (arI G 64 k_f))] hP hD (fun hP hD => ?_)
            refine lv_iinc (v := (m_i + 1)) (lv' := [(2, .int (m_i + 1)), (3, .int n_t), (4, .int n_w), (0, .ref a_th), (1, .int p_h)]) hx hb dX7_holdIn_115 hl (k := 2) rfl rfl (by decide) rfl (fun ls hl => ?_)
            have t_22 : (m_i + 1).toInt = m_i.toInt + 1 := g5_iadd (a := m_i.toInt) (b := 1) rfl (by decide) (by omega) (by omega)
            refine lv_goto (tgt := 44) hx hb dX7_holdIn_118 (by decide) ?_
            exact ih_44_5 ((m_i + 1), (upd m_f m_i.toNatClampNeg n_t)) ls H locs (show Int.toNat (64 - (m_i + 1).toInt) < Int.toNat (64 - m_i.toInt) from g_up (show m_i.toInt < (m_i + 1).toInt by omega) (show m_i.toInt < 64 by omega)) ⟨lv_sub hl [0, 3, 4] rfl, hP, hD, hS, ⟨by omega, by omega⟩⟩
          ·
            exact absurd c_21 (by decide)
  ·
    have i_3 : k_i.toInt < 64 := by have z := g5_geN (a := k_i.toInt) (b := 64) (by rfl) (by decide) c_3; omega
    refine lv_aload_n hx hb dX7_holdIn_8 rfl (lv_at hl 1 rfl) ?_
    refine va_get (D := G.1) (ci := 7) (v := .ref a_lv) (C := RX7) (T := TX7) (N := 10) hx hb hts inG_X7 hown hK hP 0 rfl rfl 9 (by decide) (hts _ fl_X7_31) (fun _ h9 => h9) rfl dX7_holdIn_9 ?_
    refine lv_iload_n hx hb dX7_holdIn_12 rfl (lv_at hl 0 rfl) ?_
    refine lv_aload_n hx hb dX7_holdIn_13 rfl (lv_at hl 1 rfl) ?_
    refine va_get (D := G.1) (ci := 7) (v := .ref a_hl) (C := RX7) (T := TX7) (N := 10) hx hb hts inG_X7 hown hK hP 0 rfl rfl 8 (by decide) (hts _ fl_X7_28) (fun _ h9 => h9) rfl dX7_holdIn_14 ?_
    refine lv_iload_n hx hb dX7_holdIn_17 rfl (lv_at hl 0 rfl) ?_
    refine va_iald hx hb hK hP 3 0 rfl rfl (i := k_i) (vp_in_iff.mpr ⟨by omega, by omega⟩) dX7_holdIn_18 ?_
    refine lv_aload_n hx hb dX7_holdIn_19 rfl (lv_at hl 1 rfl) ?_
    refine va_get (D := G.1) (ci := 7) (v := .ref a_ad) (C := RX7) (T := TX7) (N := 10) hx hb hts inG_X7 hown hK hP 0 rfl rfl 3 (by decide) (hts _ fl_X7_15) (fun _ h9 => h9) rfl dX7_holdIn_20 ?_
    refine lv_iload_n hx hb dX7_holdIn_23 rfl (lv_at hl 2 rfl) ?_
    refine lv_iconst (v := 1) hx hb dX7_holdIn_24 (by decide) ?_
    refine lv_isub hx hb dX7_holdIn_25 ?_
    have t_23 : (p_h - 1).toInt = p_h.toInt - 1 := g5_isub (a := p_h.toInt) (b := 1) (by rfl) (by decide) (by omega) (by omega)
    refine lv_bipush (v := 64) hx hb dX7_holdIn_26 (by decide) ?_
    refine lv_imul hx hb dX7_holdIn_28 ?_
    have t_24 : ((p_h - 1) * 64).toInt = (p_h - 1).toInt * 64 := g5_imul (a := (p_h - 1).toInt) (b := 64) (by rfl) (by decide) (by omega) (by omega)
    refine lv_iload_n hx hb dX7_holdIn_29 rfl (lv_at hl 0 rfl) ?_
    refine lv_iadd hx hb dX7_holdIn_30 ?_
    have t_25 : (((p_h - 1) * 64) + k_i).toInt = ((p_h - 1) * 64).toInt + k_i.toInt := g5_iadd (a := ((p_h - 1) * 64).toInt) (b := k_i.toInt) (by rfl) (by rfl) (by omega) (by omega)
    refine va_iald hx hb hK hP 2 0 rfl rfl (i := (((p_h - 1) * 64) + k_i)) (vp_in_iff.mpr ⟨by omega, by omega⟩) dX7_holdIn_31 ?_
    obtain ⟨hPc, hDc, hFc⟩ := g5_sub3 (wc := []) hP hD hS hA [] (by decide) rfl
    refine va_calli (va_runS (As := [.int (f_hl k_i.toNatClampNeg), .int (f_ad (((p_h - 1) * 64) + k_i).toNatClampNeg)]) (rest := [.int k_i, .ref a_lv]) ⟨hx, hb, hml, hown, hts⟩ (th_masksAfter l G H.size (f_hl k_i.toNatClampNeg) (f_ad (((p_h - 1) * 64) + k_i).toNatClampNeg)) (va_cwS 2 hts gS_X7_124 rfl rfl rfl hs_X7_masksAfter ⟨Nat.le_of_ble_eq_true rfl, Nat.le_of_ble_eq_true rfl⟩) (g5_preS hPc hK hDc hN hT hS hFc) rfl rfl hl.1 rfl (lv_room (Nat.le_of_ble_eq_true rfl)) dX7_holdIn_32 ⟨Nat.le_of_ble_eq_true rfl, Nat.le_of_ble_eq_true rfl⟩) hS (fun q _ h => hFc q h) hFc (fun r u t H1 locs ht hvm hw hB hz1 hk1 hS => ?_)
    obtain ⟨hP1, hD1⟩ := hB
    rw [ht] at hP1
    obtain ⟨z26, y27, rfl⟩ := hw
    have hP := g5_same hP hk1
    generalize H1 = H at hP hS ⊢
    refine g5_ti (v := z26) y27 ?_
    refine va_iast hx hb hK hP hD hS 4 0 rfl rfl (i := k_i) (x := z26) (vp_in_iff.mpr ⟨by omega, by omega⟩) dX7_holdIn_35 (fun H locs hP hD hS => ?_)
    refine g5_rs [(a_th, (oc7 a_h a_k a_ba a_ad e_fu a_cn a_nx a_hp a_hl a_lv)), (a_ba, (arJ G 24 f_ba)), (a_ad, (arI G 1536 f_ad)), (a_hl, (arI G 64 f_hl)), (a_lv, (arI G 64 (upd k_f k_i.toNatClampNeg z26)))] hP hD (fun hP hD => ?_)
    refine lv_iinc (v := (k_i + 1)) (lv' := [(2, .int (k_i + 1)), (0, .ref a_th), (1, .int p_h)]) hx hb dX7_holdIn_36 hl (k := 0) rfl rfl (by decide) rfl (fun ls hl => ?_)
    have t_28 : (k_i + 1).toInt = k_i.toInt + 1 := g5_iadd (a := k_i.toInt) (b := 1) rfl (by decide) (by omega) (by omega)
    refine lv_goto (tgt := 2) hx hb dX7_holdIn_39 (by decide) ?_
    exact ih_2_2 ((k_i + 1), (upd k_f k_i.toNatClampNeg z26)) ls H locs (show Int.toNat (64 - (k_i + 1).toInt) < Int.toNat (64 - k_i.toInt) from g_up (show k_i.toInt < (k_i + 1).toInt by omega) (show k_i.toInt < 64 by omega)) ⟨lv_sub hl [0, 1, 2] rfl, hP, hD, hS, ⟨by omega, by omega⟩⟩
theorem dgX7_cellsIn_0 : ∀ r ∈ ([(0, (.aload_n 0, 1)), (1, (.invokevirtual 117, 3)), (4, (.ifCond .ne 5, 3)), (7, (.lconst 0, 1)), (8, (.lreturn, 1)), (9, (.iconst 0, 1)), (10, (.istore_n 2, 1)), (11, (.iload_n 2, 1)), (12, (.bipush 64, 2)), (14, (.if_icmp .ge 33, 3)), (17, (.aload_n 0, 1)), (18, (.getfield 28, 3)), (21, (.iload_n 2, 1)), (22, (.aload_n 0, 1)), (23, (.getfield 9, 3)), (26, (.iconst 0, 1)), (27, (.laload, 1)), (28, (.iload_n 2, 1)), (29, (.invokestatic 98, 3)), (32, (.ifCond .eq 7, 3)), (35, (.iconst 0, 1)), (36, (.goto 4, 3)), (39, (.iconst 1, 1)), (40, (.iastore, 1)), (41, (.iinc 2 1, 3)), (44, (.goto (-33), 3)), (47, (.iconst 1, 1)), (48, (.istore_n 2, 1)), (49, (.iload_n 2, 1)), (50, (.iload_n 1, 1)), (51, (.if_icmp .gt 14, 3)), (54, (.aload_n 0, 1)), (55, (.iload_n 2, 1)), (56, (.invokevirtual 121, 3)), (59, (.iinc 2 1, 3)), (62, (.goto (-13), 3)), (65, (.lconst 0, 1)), (66, (.lstore_n 2, 1)), (67, (.iconst 0, 1)), (68, (.istore 4, 2))] : List (Nat × (Instr × Nat))), decode cX7_cellsIn r.1 = .ok r.2 := by decide +kernel
theorem dX7_cellsIn_0 : decode cX7_cellsIn 0 = .ok (.aload_n 0, 1) := dgX7_cellsIn_0 (0, (.aload_n 0, 1)) (List.mem_of_getElem? (i := 0) rfl)
theorem dX7_cellsIn_1 : decode cX7_cellsIn 1 = .ok (.invokevirtual 117, 3) := dgX7_cellsIn_0 (1, (.invokevirtual 117, 3)) (List.mem_of_getElem? (i := 1) rfl)
theorem dX7_cellsIn_4 : decode cX7_cellsIn 4 = .ok (.ifCond .ne 5, 3) := dgX7_cellsIn_0 (4, (.ifCond .ne 5, 3)) (List.mem_of_getElem? (i := 2) rfl)
theorem dX7_cellsIn_7 : decode cX7_cellsIn 7 = .ok (.lconst 0, 1) := dgX7_cellsIn_0 (7, (.lconst 0, 1)) (List.mem_of_getElem? (i := 3) rfl)
theorem dX7_cellsIn_8 : decode cX7_cellsIn 8 = .ok (.lreturn, 1) := dgX7_cellsIn_0 (8, (.lreturn, 1)) (List.mem_of_getElem? (i := 4) rfl)
theorem dX7_cellsIn_9 : decode cX7_cellsIn 9 = .ok (.iconst 0, 1) := dgX7_cellsIn_0 (9, (.iconst 0, 1)) (List.mem_of_getElem? (i := 5) rfl)
theorem dX7_cellsIn_10 : decode cX7_cellsIn 10 = .ok (.istore_n 2, 1) := dgX7_cellsIn_0 (10, (.istore_n 2, 1)) (List.mem_of_getElem? (i := 6) rfl)
theorem dX7_cellsIn_11 : decode cX7_cellsIn 11 = .ok (.iload_n 2, 1) := dgX7_cellsIn_0 (11, (.iload_n 2, 1)) (List.mem_of_getElem? (i := 7) rfl)
theorem dX7_cellsIn_12 : decode cX7_cellsIn 12 = .ok (.bipush 64, 2) := dgX7_cellsIn_0 (12, (.bipush 64, 2)) (List.mem_of_getElem? (i := 8) rfl)
theorem dX7_cellsIn_14 : decode cX7_cellsIn 14 = .ok (.if_icmp .ge 33, 3) := dgX7_cellsIn_0 (14, (.if_icmp .ge 33, 3)) (List.mem_of_getElem? (i := 9) rfl)
theorem dX7_cellsIn_17 : decode cX7_cellsIn 17 = .ok (.aload_n 0, 1) := dgX7_cellsIn_0 (17, (.aload_n 0, 1)) (List.mem_of_getElem? (i := 10) rfl)
theorem dX7_cellsIn_18 : decode cX7_cellsIn 18 = .ok (.getfield 28, 3) := dgX7_cellsIn_0 (18, (.getfield 28, 3)) (List.mem_of_getElem? (i := 11) rfl)
theorem dX7_cellsIn_21 : decode cX7_cellsIn 21 = .ok (.iload_n 2, 1) := dgX7_cellsIn_0 (21, (.iload_n 2, 1)) (List.mem_of_getElem? (i := 12) rfl)
theorem dX7_cellsIn_22 : decode cX7_cellsIn 22 = .ok (.aload_n 0, 1) := dgX7_cellsIn_0 (22, (.aload_n 0, 1)) (List.mem_of_getElem? (i := 13) rfl)
theorem dX7_cellsIn_23 : decode cX7_cellsIn 23 = .ok (.getfield 9, 3) := dgX7_cellsIn_0 (23, (.getfield 9, 3)) (List.mem_of_getElem? (i := 14) rfl)
theorem dX7_cellsIn_26 : decode cX7_cellsIn 26 = .ok (.iconst 0, 1) := dgX7_cellsIn_0 (26, (.iconst 0, 1)) (List.mem_of_getElem? (i := 15) rfl)
theorem dX7_cellsIn_27 : decode cX7_cellsIn 27 = .ok (.laload, 1) := dgX7_cellsIn_0 (27, (.laload, 1)) (List.mem_of_getElem? (i := 16) rfl)
theorem dX7_cellsIn_28 : decode cX7_cellsIn 28 = .ok (.iload_n 2, 1) := dgX7_cellsIn_0 (28, (.iload_n 2, 1)) (List.mem_of_getElem? (i := 17) rfl)
theorem dX7_cellsIn_29 : decode cX7_cellsIn 29 = .ok (.invokestatic 98, 3) := dgX7_cellsIn_0 (29, (.invokestatic 98, 3)) (List.mem_of_getElem? (i := 18) rfl)
theorem dX7_cellsIn_32 : decode cX7_cellsIn 32 = .ok (.ifCond .eq 7, 3) := dgX7_cellsIn_0 (32, (.ifCond .eq 7, 3)) (List.mem_of_getElem? (i := 19) rfl)
theorem dX7_cellsIn_35 : decode cX7_cellsIn 35 = .ok (.iconst 0, 1) := dgX7_cellsIn_0 (35, (.iconst 0, 1)) (List.mem_of_getElem? (i := 20) rfl)
theorem dX7_cellsIn_36 : decode cX7_cellsIn 36 = .ok (.goto 4, 3) := dgX7_cellsIn_0 (36, (.goto 4, 3)) (List.mem_of_getElem? (i := 21) rfl)
theorem dX7_cellsIn_39 : decode cX7_cellsIn 39 = .ok (.iconst 1, 1) := dgX7_cellsIn_0 (39, (.iconst 1, 1)) (List.mem_of_getElem? (i := 22) rfl)
theorem dX7_cellsIn_40 : decode cX7_cellsIn 40 = .ok (.iastore, 1) := dgX7_cellsIn_0 (40, (.iastore, 1)) (List.mem_of_getElem? (i := 23) rfl)
theorem dX7_cellsIn_41 : decode cX7_cellsIn 41 = .ok (.iinc 2 1, 3) := dgX7_cellsIn_0 (41, (.iinc 2 1, 3)) (List.mem_of_getElem? (i := 24) rfl)
theorem dX7_cellsIn_44 : decode cX7_cellsIn 44 = .ok (.goto (-33), 3) := dgX7_cellsIn_0 (44, (.goto (-33), 3)) (List.mem_of_getElem? (i := 25) rfl)
theorem dX7_cellsIn_47 : decode cX7_cellsIn 47 = .ok (.iconst 1, 1) := dgX7_cellsIn_0 (47, (.iconst 1, 1)) (List.mem_of_getElem? (i := 26) rfl)
theorem dX7_cellsIn_48 : decode cX7_cellsIn 48 = .ok (.istore_n 2, 1) := dgX7_cellsIn_0 (48, (.istore_n 2, 1)) (List.mem_of_getElem? (i := 27) rfl)
theorem dX7_cellsIn_49 : decode cX7_cellsIn 49 = .ok (.iload_n 2, 1) := dgX7_cellsIn_0 (49, (.iload_n 2, 1)) (List.mem_of_getElem? (i := 28) rfl)
theorem dX7_cellsIn_50 : decode cX7_cellsIn 50 = .ok (.iload_n 1, 1) := dgX7_cellsIn_0 (50, (.iload_n 1, 1)) (List.mem_of_getElem? (i := 29) rfl)
theorem dX7_cellsIn_51 : decode cX7_cellsIn 51 = .ok (.if_icmp .gt 14, 3) := dgX7_cellsIn_0 (51, (.if_icmp .gt 14, 3)) (List.mem_of_getElem? (i := 30) rfl)
theorem dX7_cellsIn_54 : decode cX7_cellsIn 54 = .ok (.aload_n 0, 1) := dgX7_cellsIn_0 (54, (.aload_n 0, 1)) (List.mem_of_getElem? (i := 31) rfl)
theorem dX7_cellsIn_55 : decode cX7_cellsIn 55 = .ok (.iload_n 2, 1) := dgX7_cellsIn_0 (55, (.iload_n 2, 1)) (List.mem_of_getElem? (i := 32) rfl)
theorem dX7_cellsIn_56 : decode cX7_cellsIn 56 = .ok (.invokevirtual 121, 3) := dgX7_cellsIn_0 (56, (.invokevirtual 121, 3)) (List.mem_of_getElem? (i := 33) rfl)
theorem dX7_cellsIn_59 : decode cX7_cellsIn 59 = .ok (.iinc 2 1, 3) := dgX7_cellsIn_0 (59, (.iinc 2 1, 3)) (List.mem_of_getElem? (i := 34) rfl)
theorem dX7_cellsIn_62 : decode cX7_cellsIn 62 = .ok (.goto (-13), 3) := dgX7_cellsIn_0 (62, (.goto (-13), 3)) (List.mem_of_getElem? (i := 35) rfl)
theorem dX7_cellsIn_65 : decode cX7_cellsIn 65 = .ok (.lconst 0, 1) := dgX7_cellsIn_0 (65, (.lconst 0, 1)) (List.mem_of_getElem? (i := 36) rfl)
theorem dX7_cellsIn_66 : decode cX7_cellsIn 66 = .ok (.lstore_n 2, 1) := dgX7_cellsIn_0 (66, (.lstore_n 2, 1)) (List.mem_of_getElem? (i := 37) rfl)
theorem dX7_cellsIn_67 : decode cX7_cellsIn 67 = .ok (.iconst 0, 1) := dgX7_cellsIn_0 (67, (.iconst 0, 1)) (List.mem_of_getElem? (i := 38) rfl)
theorem dX7_cellsIn_68 : decode cX7_cellsIn 68 = .ok (.istore 4, 2) := dgX7_cellsIn_0 (68, (.istore 4, 2)) (List.mem_of_getElem? (i := 39) rfl)
theorem dgX7_cellsIn_1 : ∀ r ∈ ([(70, (.iload 4, 2)), (72, (.bipush 64, 2)), (74, (.if_icmp .ge 39, 3)), (77, (.aload_n 0, 1)), (78, (.getfield 28, 3)), (81, (.iload 4, 2)), (83, (.iaload, 1)), (84, (.aload_n 0, 1)), (85, (.getfield 25, 3)), (88, (.iload_n 1, 1)), (89, (.bipush 64, 2)), (91, (.imul, 1)), (92, (.iload 4, 2)), (94, (.iadd, 1)), (95, (.iaload, 1)), (96, (.iand, 1)), (97, (.ifCond .eq 10, 3)), (100, (.lload_n 2, 1)), (101, (.lconst 1, 1)), (102, (.iload 4, 2)), (104, (.lshl, 1)), (105, (.lor, 1)), (106, (.lstore_n 2, 1)), (107, (.iinc 4 1, 3)), (110, (.goto (-40), 3)), (113, (.lload_n 2, 1)), (114, (.lreturn, 1))] : List (Nat × (Instr × Nat))), decode cX7_cellsIn r.1 = .ok r.2 := by decide +kernel
theorem dX7_cellsIn_70 : decode cX7_cellsIn 70 = .ok (.iload 4, 2) := dgX7_cellsIn_1 (70, (.iload 4, 2)) (List.mem_of_getElem? (i := 0) rfl)
theorem dX7_cellsIn_72 : decode cX7_cellsIn 72 = .ok (.bipush 64, 2) := dgX7_cellsIn_1 (72, (.bipush 64, 2)) (List.mem_of_getElem? (i := 1) rfl)
theorem dX7_cellsIn_74 : decode cX7_cellsIn 74 = .ok (.if_icmp .ge 39, 3) := dgX7_cellsIn_1 (74, (.if_icmp .ge 39, 3)) (List.mem_of_getElem? (i := 2) rfl)
theorem dX7_cellsIn_77 : decode cX7_cellsIn 77 = .ok (.aload_n 0, 1) := dgX7_cellsIn_1 (77, (.aload_n 0, 1)) (List.mem_of_getElem? (i := 3) rfl)
theorem dX7_cellsIn_78 : decode cX7_cellsIn 78 = .ok (.getfield 28, 3) := dgX7_cellsIn_1 (78, (.getfield 28, 3)) (List.mem_of_getElem? (i := 4) rfl)
theorem dX7_cellsIn_81 : decode cX7_cellsIn 81 = .ok (.iload 4, 2) := dgX7_cellsIn_1 (81, (.iload 4, 2)) (List.mem_of_getElem? (i := 5) rfl)
theorem dX7_cellsIn_83 : decode cX7_cellsIn 83 = .ok (.iaload, 1) := dgX7_cellsIn_1 (83, (.iaload, 1)) (List.mem_of_getElem? (i := 6) rfl)
theorem dX7_cellsIn_84 : decode cX7_cellsIn 84 = .ok (.aload_n 0, 1) := dgX7_cellsIn_1 (84, (.aload_n 0, 1)) (List.mem_of_getElem? (i := 7) rfl)
theorem dX7_cellsIn_85 : decode cX7_cellsIn 85 = .ok (.getfield 25, 3) := dgX7_cellsIn_1 (85, (.getfield 25, 3)) (List.mem_of_getElem? (i := 8) rfl)
theorem dX7_cellsIn_88 : decode cX7_cellsIn 88 = .ok (.iload_n 1, 1) := dgX7_cellsIn_1 (88, (.iload_n 1, 1)) (List.mem_of_getElem? (i := 9) rfl)
theorem dX7_cellsIn_89 : decode cX7_cellsIn 89 = .ok (.bipush 64, 2) := dgX7_cellsIn_1 (89, (.bipush 64, 2)) (List.mem_of_getElem? (i := 10) rfl)
theorem dX7_cellsIn_91 : decode cX7_cellsIn 91 = .ok (.imul, 1) := dgX7_cellsIn_1 (91, (.imul, 1)) (List.mem_of_getElem? (i := 11) rfl)
theorem dX7_cellsIn_92 : decode cX7_cellsIn 92 = .ok (.iload 4, 2) := dgX7_cellsIn_1 (92, (.iload 4, 2)) (List.mem_of_getElem? (i := 12) rfl)
theorem dX7_cellsIn_94 : decode cX7_cellsIn 94 = .ok (.iadd, 1) := dgX7_cellsIn_1 (94, (.iadd, 1)) (List.mem_of_getElem? (i := 13) rfl)
theorem dX7_cellsIn_95 : decode cX7_cellsIn 95 = .ok (.iaload, 1) := dgX7_cellsIn_1 (95, (.iaload, 1)) (List.mem_of_getElem? (i := 14) rfl)
theorem dX7_cellsIn_96 : decode cX7_cellsIn 96 = .ok (.iand, 1) := dgX7_cellsIn_1 (96, (.iand, 1)) (List.mem_of_getElem? (i := 15) rfl)
theorem dX7_cellsIn_97 : decode cX7_cellsIn 97 = .ok (.ifCond .eq 10, 3) := dgX7_cellsIn_1 (97, (.ifCond .eq 10, 3)) (List.mem_of_getElem? (i := 16) rfl)
theorem dX7_cellsIn_100 : decode cX7_cellsIn 100 = .ok (.lload_n 2, 1) := dgX7_cellsIn_1 (100, (.lload_n 2, 1)) (List.mem_of_getElem? (i := 17) rfl)
theorem dX7_cellsIn_101 : decode cX7_cellsIn 101 = .ok (.lconst 1, 1) := dgX7_cellsIn_1 (101, (.lconst 1, 1)) (List.mem_of_getElem? (i := 18) rfl)
theorem dX7_cellsIn_102 : decode cX7_cellsIn 102 = .ok (.iload 4, 2) := dgX7_cellsIn_1 (102, (.iload 4, 2)) (List.mem_of_getElem? (i := 19) rfl)
theorem dX7_cellsIn_104 : decode cX7_cellsIn 104 = .ok (.lshl, 1) := dgX7_cellsIn_1 (104, (.lshl, 1)) (List.mem_of_getElem? (i := 20) rfl)
theorem dX7_cellsIn_105 : decode cX7_cellsIn 105 = .ok (.lor, 1) := dgX7_cellsIn_1 (105, (.lor, 1)) (List.mem_of_getElem? (i := 21) rfl)
theorem dX7_cellsIn_106 : decode cX7_cellsIn 106 = .ok (.lstore_n 2, 1) := dgX7_cellsIn_1 (106, (.lstore_n 2, 1)) (List.mem_of_getElem? (i := 22) rfl)
theorem dX7_cellsIn_107 : decode cX7_cellsIn 107 = .ok (.iinc 4 1, 3) := dgX7_cellsIn_1 (107, (.iinc 4 1, 3)) (List.mem_of_getElem? (i := 23) rfl)
theorem dX7_cellsIn_110 : decode cX7_cellsIn 110 = .ok (.goto (-40), 3) := dgX7_cellsIn_1 (110, (.goto (-40), 3)) (List.mem_of_getElem? (i := 24) rfl)
theorem dX7_cellsIn_113 : decode cX7_cellsIn 113 = .ok (.lload_n 2, 1) := dgX7_cellsIn_1 (113, (.lload_n 2, 1)) (List.mem_of_getElem? (i := 25) rfl)
theorem dX7_cellsIn_114 : decode cX7_cellsIn 114 = .ok (.lreturn, 1) := dgX7_cellsIn_1 (114, (.lreturn, 1)) (List.mem_of_getElem? (i := 26) rfl)
theorem ml_X7_121 : Cond.methodLink RX7 121 yX7_holdIn ∈ tblG := tg 1009 (by decide +kernel) (by decide +kernel)
theorem im_X7_holdIn : Cond.instanceMethod yX7_holdIn ∈ tblG := tg 1011 (by decide +kernel) (by decide +kernel)
theorem se_X7_holdIn : Cond.selects RX7 yX7_holdIn yX7_holdIn ∈ tblG := tg 24 (by decide +kernel) (by decide +kernel)
theorem cd_X7_holdIn : Cond.code yX7_holdIn cX7_holdIn 6 none ∈ tblG := tg 1012 (by decide +kernel) (by decide +kernel)
theorem gW_X7_holdIn : GoodIn tblG (wsG yX7_holdIn cX7_holdIn 6 none) := tgi cd_X7_holdIn
theorem gV_X7_121 : GoodIn tblG (wsV RX7 121 RX7 yX7_holdIn (wsG yX7_holdIn cX7_holdIn 6 none)) := tgV ml_X7_121 im_X7_holdIn se_X7_holdIn ini_X7 gW_X7_holdIn
theorem hv_X7_holdIn : yX7_holdIn.cls = RX7 ∧ yX7_holdIn.cls ≠ "java/lang/invoke/MethodHandle" ∧ yX7_holdIn.cls ≠ "java/lang/invoke/VarHandle" ∧ (parseMethodDescriptor yX7_holdIn.desc).map (fun d => d.parameters.length) = some 1 := by decide +kernel
