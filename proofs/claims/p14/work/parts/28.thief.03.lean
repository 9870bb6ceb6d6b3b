set_option maxHeartbeats 4000000 in
set_option maxRecDepth 100000 in
theorem th_cells (l : Launch) (G : g5_G) (a_th a_ba a_ad a_hp a_hl a_lv a_h a_k a_cn a_nx : Nat) (sz : Nat) (e_fu : Int32) (p_h : Int32) (f_ba : Nat → Int64) (f_ad : Nat → Int32) (f_hp : Nat → Int32) (f_hl : Nat → Int32) (f_lv : Nat → Int32) (h_p_h : 0 ≤ p_h.toInt ∧ p_h.toInt ≤ 23) : Met l yX7_cellsIn (wsG yX7_cellsIn cX7_cellsIn 5 (some .long)) ({ frames := 3, cells := 0, slots := 0, locals := 70 }) (va_Pc [.ref a_th, .int p_h] (g5_P G [(a_th, (oc7 a_h a_k a_ba a_ad e_fu a_cn a_nx a_hp a_hl a_lv)), (a_ba, (arJ G 24 f_ba)), (a_ad, (arI G 1536 f_ad)), (a_hp, (arI G 1536 f_hp)), (a_hl, (arI G 64 f_hl)), (a_lv, (arI G 64 f_lv))] sz)) (va_Ql (fun (r : Int64) (u : va_W) => (∃ (o_r : Int64) (o_p : Nat → Int32) (o_f : Nat → Int32) (o_g : Nat → Int32), (r = o_r) ∧ (u = [(a_th, (oc7 a_h a_k a_ba a_ad e_fu a_cn a_nx a_hp a_hl a_lv)), (a_ba, (arJ G 24 f_ba)), (a_ad, (arI G 1536 f_ad)), (a_hp, (arI G 1536 o_p)), (a_hl, (arI G 64 o_f)), (a_lv, (arI G 64 o_g))]))) (g5_B G (va_A [(a_th, (oc7 a_h a_k a_ba a_ad e_fu a_cn a_nx a_hp a_hl a_lv)), (a_ba, (arJ G 24 f_ba)), (a_ad, (arI G 1536 f_ad)), (a_hp, (arI G 1536 f_hp)), (a_hl, (arI G 64 f_hl)), (a_lv, (arI G 64 f_lv))] sz)) (va_A [(a_th, (oc7 a_h a_k a_ba a_ad e_fu a_cn a_nx a_hp a_hl a_lv)), (a_ba, (arJ G 24 f_ba)), (a_ad, (arI G 1536 f_ad)), (a_hp, (arI G 1536 f_hp)), (a_hl, (arI G 64 f_hl)), (a_lv, (arI G 64 f_lv))] sz)) 0 0 (va_A [(a_th, (oc7 a_h a_k a_ba a_ad e_fu a_cn a_nx a_hp a_hl a_lv)), (a_ba, (arJ G 24 f_ba)), (a_ad, (arI G 1536 f_ad)), (a_hp, (arI G 1536 f_hp)), (a_hl, (arI G 64 f_hl)), (a_lv, (arI G 64 f_lv))] sz) := by
  refine Met.ofW (cc := cX7_cellsIn) (maxL := 5) (ret := (some .long)) (by decide) rfl ?_
  intro p e s m args below meth c s₁ B hml hv
  obtain ⟨rfl, hsz, hP, hK, hD0, hN, hT⟩ := hv
  have hx := B.exec
  have hb := B.bytes
  have hr := B.returns
  have hts : ∀ w ∈ tblG, w.before _ s = true := fun w h => atoms_spec (ws := (wsG yX7_cellsIn cX7_cellsIn 5 (some .long))) B.pre w (List.mem_cons_of_mem _ h)
  have hown : s.vm.findClass RX7 = some m.cls := findClass_of_methodNamed B.named
  have hlocks := B.notSynchronized
  subst hsz
  have hD := hD0.self (sz := s.heap.size)
  generalize hAe : va_A [(a_th, (oc7 a_h a_k a_ba a_ad e_fu a_cn a_nx a_hp a_hl a_lv)), (a_ba, (arJ G 24 f_ba)), (a_ad, (arI G 1536 f_ad)), (a_hp, (arI G 1536 f_hp)), (a_hl, (arI G 64 f_hl)), (a_lv, (arI G 64 f_lv))] s.heap.size = A at hD hT ⊢
  have hA : ∀ q : Nat, s.heap.size ≤ q → A q := fun q h => by rw [← hAe]; exact Or.inr h
  have hS : va_S A s.heap s.heap [] := va_S.rf
  have hP : va_P G.1 vwCl [(a_th, (oc7 a_h a_k a_ba a_ad e_fu a_cn a_nx a_hp a_hl a_lv)), (a_ba, (arJ G 24 f_ba)), (a_ad, (arI G 1536 f_ad)), (a_hp, (arI G 1536 f_hp)), (a_hl, (arI G 64 f_hl)), (a_lv, (arI G 64 f_lv))] s.heap := hP
  have hl := lv_entry ([.ref a_th, .int p_h]) (n := 5) (Nat.le_of_ble_eq_true rfl)
  rw [lg_entry_eq]
  generalize (lg_sl ([.ref a_th, .int p_h]) ++ List.replicate (5 - (lg_sl ([.ref a_th, .int p_h])).length) Slot.unset).toArray = ls at hl ⊢
  have hl : lv_has ls 5 [(0, .ref a_th), (1, .int p_h)] := hl
  refine lv_aload_n hx hb dX7_cellsIn_0 rfl (lv_at hl 0 rfl) ?_
  obtain ⟨hPc, hDc, hFc⟩ := g5_sub3 (wc := [(a_th, (oc7 a_h a_k a_ba a_ad e_fu a_cn a_nx a_hp a_hl a_lv)), (a_ba, (arJ G 24 f_ba)), (a_ad, (arI G 1536 f_ad)), (a_hp, (arI G 1536 f_hp))]) hP hD hS hA [0, 1, 2, 3] (by decide) rfl
  refine va_calli (va_runV (As := []) (rest := []) ⟨hx, hb, hml, hown, hts⟩ (th_anyFits l G a_th a_ba a_ad a_hp a_h a_k a_cn a_nx a_hl a_lv s.heap.size e_fu f_ba f_ad f_hp) (cwV 0 hts gV_X7_117 rfl rfl rfl hv_X7_anyFits ⟨Nat.le_of_ble_eq_true rfl, Nat.le_of_ble_eq_true rfl⟩) (g5_preV hPc hK hDc hN hT hS hFc (ci := 7) (q0 := 0) rfl rfl) rfl rfl hl.1 rfl (lv_room (Nat.le_of_ble_eq_true rfl)) dX7_cellsIn_1 ⟨Nat.le_of_ble_eq_true rfl, Nat.le_of_ble_eq_true rfl⟩) hS (fun q _ h => hFc q h) hFc (fun r u t H1 locs ht hvm hw hB hz1 hk1 hS => ?_)
  obtain ⟨hP1, hD1⟩ := hB
  rw [ht] at hP1
  obtain ⟨z2, z3, i_1, y4, rfl⟩ := hw
  have i_1 : 0 ≤ z2.toInt ∧ z2.toInt ≤ 1 := i_1
  obtain ⟨hP, hD⟩ := va_join (wr := [(a_hl, (arI G 64 f_hl)), (a_lv, (arI G 64 f_lv))]) hP hD [0, 1, 2, 3] [4, 5] rfl rfl (by decide) (by decide) hk1 hFc hP1 hD1
  generalize H1 = H at hP hS ⊢
  refine g5_rs [(a_hl, (arI G 64 f_hl)), (a_lv, (arI G 64 f_lv)), (a_th, (oc7 a_h a_k a_ba a_ad e_fu a_cn a_nx a_hp a_hl a_lv)), (a_ba, (arJ G 24 f_ba)), (a_ad, (arI G 1536 f_ad)), (a_hp, (arI G 1536 z3))] hP hD (fun hP hD => ?_)
  refine g5_ti (v := z2) y4 ?_
  refine lv_if_ne (tgt := 9) hx hb dX7_cellsIn_4 (by decide) (fun c_5 => ?_) (fun c_5 => ?_)
  ·
    have n_5 : gNe (z2.toInt) (0) := by have z := g5_ne (a := z2.toInt) (b := 0) (by rfl) (by decide) c_5; unfold gNe; omega
    have i_5 : z2.toInt ≥ 1 := by have z := g5_ne (a := z2.toInt) (b := 0) (by rfl) (by decide) c_5; omega
    refine lv_iconst (v := 0) hx hb dX7_cellsIn_9 (by decide) ?_
    refine lv_istore_n (lv' := [(2, .int 0), (0, .ref a_th), (1, .int p_h)]) hx hb dX7_cellsIn_10 rfl hl (by decide) rfl (fun ls hl => ?_)
    refine g5_loop (α := (Int32) × (Nat → Int32)) (fun (q : (Int32) × (Nat → Int32)) (ls : Array Slot) (H : Heap) (locs : List Loc) => match q with | (k_i, k_f) => lv_has ls 5 [(2, .int k_i), (0, .ref a_th), (1, .int p_h)] ∧ va_P G.1 vwCl [(a_hl, (arI G 64 k_f)), (a_lv, (arI G 64 f_lv)), (a_th, (oc7 a_h a_k a_ba a_ad e_fu a_cn a_nx a_hp a_hl a_lv)), (a_ba, (arJ G 24 f_ba)), (a_ad, (arI G 1536 f_ad)), (a_hp, (arI G 1536 z3))] H ∧ va_D A [(a_hl, (arI G 64 k_f)), (a_lv, (arI G 64 f_lv)), (a_th, (oc7 a_h a_k a_ba a_ad e_fu a_cn a_nx a_hp a_hl a_lv)), (a_ba, (arJ G 24 f_ba)), (a_ad, (arI G 1536 f_ad)), (a_hp, (arI G 1536 z3))] ∧ va_S A s.heap H locs ∧ (0 ≤ k_i.toInt ∧ k_i.toInt ≤ 64)) (fun (q : (Int32) × (Nat → Int32)) => match q with | (k_i, k_f) => Int.toNat (64 - k_i.toInt)) (0, f_hl) ⟨lv_sub hl [0, 1, 2] rfl, hP, hD, hS, ⟨by decide, by decide⟩⟩ ?_
    rintro ⟨k_i, k_f⟩ ls H locs ⟨hl, hP, hD, hS, i_6⟩ ih_11_7
    have hl : lv_has ls 5 [(2, .int k_i), (0, .ref a_th), (1, .int p_h)] := hl
    have i_6 : 0 ≤ k_i.toInt ∧ k_i.toInt ≤ 64 := i_6
    refine g5_rs [(a_hl, (arI G 64 k_f)), (a_lv, (arI G 64 f_lv)), (a_th, (oc7 a_h a_k a_ba a_ad e_fu a_cn a_nx a_hp a_hl a_lv)), (a_ba, (arJ G 24 f_ba)), (a_ad, (arI G 1536 f_ad)), (a_hp, (arI G 1536 z3))] hP hD (fun hP hD => ?_)
    refine lv_iload_n hx hb dX7_cellsIn_11 rfl (lv_at hl 0 rfl) ?_
    refine lv_bipush (v := 64) hx hb dX7_cellsIn_12 (by decide) ?_
    refine lv_icmp_ge (tgt := 47) hx hb dX7_cellsIn_14 (by decide) (fun c_8 => ?_) (fun c_8 => ?_)
    ·
      have i_8 : k_i.toInt ≥ 64 := by have z := g5_ge (a := k_i.toInt) (b := 64) (by rfl) (by decide) c_8; omega
      refine lv_iconst (v := 1) hx hb dX7_cellsIn_47 (by decide) ?_
      refine lv_istore_n (lv' := [(2, .int 1), (0, .ref a_th), (1, .int p_h)]) hx hb dX7_cellsIn_48 rfl hl (by decide) rfl (fun ls hl => ?_)
      refine g5_loop (α := (Int32) × (Nat → Int32) × (Nat → Int32)) (fun (q : (Int32) × (Nat → Int32) × (Nat → Int32)) (ls : Array Slot) (H : Heap) (locs : List Loc) => match q with | (m_h, m_f, m_g) => lv_has ls 5 [(2, .int m_h), (0, .ref a_th), (1, .int p_h)] ∧ va_P G.1 vwCl [(a_hl, (arI G 64 m_f)), (a_lv, (arI G 64 m_g)), (a_th, (oc7 a_h a_k a_ba a_ad e_fu a_cn a_nx a_hp a_hl a_lv)), (a_ba, (arJ G 24 f_ba)), (a_ad, (arI G 1536 f_ad)), (a_hp, (arI G 1536 z3))] H ∧ va_D A [(a_hl, (arI G 64 m_f)), (a_lv, (arI G 64 m_g)), (a_th, (oc7 a_h a_k a_ba a_ad e_fu a_cn a_nx a_hp a_hl a_lv)), (a_ba, (arJ G 24 f_ba)), (a_ad, (arI G 1536 f_ad)), (a_hp, (arI G 1536 z3))] ∧ va_S A s.heap H locs ∧ (1 ≤ m_h.toInt ∧ m_h.toInt ≤ 24)) (fun (q : (Int32) × (Nat → Int32) × (Nat → Int32)) => match q with | (m_h, m_f, m_g) => Int.toNat (24 - m_h.toInt)) (1, k_f, f_lv) ⟨lv_sub hl [0, 1, 2] rfl, hP, hD, hS, ⟨by decide, by decide⟩⟩ ?_
      rintro ⟨m_h, m_f, m_g⟩ ls H locs ⟨hl, hP, hD, hS, i_9⟩ ih_49_10
      have hl : lv_has ls 5 [(2, .int m_h), (0, .ref a_th), (1, .int p_h)] := hl
      have i_9 : 1 ≤ m_h.toInt ∧ m_h.toInt ≤ 24 := i_9
      refine g5_rs [(a_hl, (arI G 64 m_f)), (a_lv, (arI G 64 m_g)), (a_th, (oc7 a_h a_k a_ba a_ad e_fu a_cn a_nx a_hp a_hl a_lv)), (a_ba, (arJ G 24 f_ba)), (a_ad, (arI G 1536 f_ad)), (a_hp, (arI G 1536 z3))] hP hD (fun hP hD => ?_)
      refine lv_iload_n hx hb dX7_cellsIn_49 rfl (lv_at hl 0 rfl) ?_
      refine lv_iload_n hx hb dX7_cellsIn_50 rfl (lv_at hl 2 rfl) ?_
      refine lv_icmp_gt (tgt := 65) hx hb dX7_cellsIn_51 (by decide) (fun c_11 => ?_) (fun c_11 => ?_)
      ·
        have i_11 : m_h.toInt > p_h.toInt := by have z := g5_gt (a := m_h.toInt) (b := p_h.toInt) (by rfl) (by rfl) c_11; omega
        refine lv_lconst (v := 0) hx hb dX7_cellsIn_65 (by decide) ?_
        refine lv_lstore_n (lv' := [(2, .long 0), (0, .ref a_th), (1, .int p_h)]) hx hb dX7_cellsIn_66 rfl hl (by decide) rfl (fun ls hl => ?_)
        refine lv_iconst (v := 0) hx hb dX7_cellsIn_67 (by decide) ?_
        refine lv_istore (lv' := [(4, .int 0), (2, .long 0), (0, .ref a_th), (1, .int p_h)]) hx hb dX7_cellsIn_68 hl (by decide) rfl (fun ls hl => ?_)
        refine g5_loop (α := (Int32) × (Int64)) (fun (q : (Int32) × (Int64)) (ls : Array Slot) (H : Heap) (locs : List Loc) => match q with | (n_i, n_x) => lv_has ls 5 [(2, .long n_x), (4, .int n_i), (0, .ref a_th), (1, .int p_h)] ∧ va_P G.1 vwCl [(a_hl, (arI G 64 m_f)), (a_lv, (arI G 64 m_g)), (a_th, (oc7 a_h a_k a_ba a_ad e_fu a_cn a_nx a_hp a_hl a_lv)), (a_ba, (arJ G 24 f_ba)), (a_ad, (arI G 1536 f_ad)), (a_hp, (arI G 1536 z3))] H ∧ va_D A [(a_hl, (arI G 64 m_f)), (a_lv, (arI G 64 m_g)), (a_th, (oc7 a_h a_k a_ba a_ad e_fu a_cn a_nx a_hp a_hl a_lv)), (a_ba, (arJ G 24 f_ba)), (a_ad, (arI G 1536 f_ad)), (a_hp, (arI G 1536 z3))] ∧ va_S A s.heap H locs ∧ (0 ≤ n_i.toInt ∧ n_i.toInt ≤ 64)) (fun (q : (Int32) × (Int64)) => match q with | (n_i, n_x) => Int.toNat (64 - n_i.toInt)) (0, 0) ⟨lv_sub hl [1, 0, 2, 3] rfl, hP, hD, hS, ⟨by decide, by decide⟩⟩ ?_
        rintro ⟨n_i, n_x⟩ ls H locs ⟨hl, hP, hD, hS, i_12⟩ ih_70_13
        have hl : lv_has ls 5 [(2, .long n_x), (4, .int n_i), (0, .ref a_th), (1, .int p_h)] := hl
        have i_12 : 0 ≤ n_i.toInt ∧ n_i.toInt ≤ 64 := i_12
        refine g5_rs [(a_hl, (arI G 64 m_f)), (a_lv, (arI G 64 m_g)), (a_th, (oc7 a_h a_k a_ba a_ad e_fu a_cn a_nx a_hp a_hl a_lv)), (a_ba, (arJ G 24 f_ba)), (a_ad, (arI G 1536 f_ad)), (a_hp, (arI G 1536 z3))] hP hD (fun hP hD => ?_)
        refine lv_iload hx hb dX7_cellsIn_70 (lv_at hl 1 rfl) ?_
        refine lv_bipush (v := 64) hx hb dX7_cellsIn_72 (by decide) ?_
        refine lv_icmp_ge (tgt := 113) hx hb dX7_cellsIn_74 (by decide) (fun c_14 => ?_) (fun c_14 => ?_)
        ·
          have i_14 : n_i.toInt ≥ 64 := by have z := g5_ge (a := n_i.toInt) (b := 64) (by rfl) (by decide) c_14; omega
          refine lv_lload_n hx hb dX7_cellsIn_113 rfl (lv_at hl 0 rfl) ?_
          exact W.lret (v := n_x) hx hb hr (fun t ht hW => ⟨⟨n_x, [(a_th, (oc7 a_h a_k a_ba a_ad e_fu a_cn a_nx a_hp a_hl a_lv)), (a_ba, (arJ G 24 f_ba)), (a_ad, (arI G 1536 f_ad)), (a_hp, (arI G 1536 z3)), (a_hl, (arI G 64 m_f)), (a_lv, (arI G 64 m_g))], rfl, ⟨n_x, z3, m_f, m_g, rfl, rfl⟩, by rw [ht]; exact hP.sub [2, 3, 4, 5, 0, 1] rfl, hD.sub [2, 3, 4, 5, 0, 1] (by decide) rfl⟩, hS.F ht⟩) hS.2.2 dX7_cellsIn_114
        ·
          have i_14 : n_i.toInt < 64 := by have z := g5_geN (a := n_i.toInt) (b := 64) (by rfl) (by decide) c_14; omega
          refine lv_aload_n hx hb dX7_cellsIn_77 rfl (lv_at hl 2 rfl) ?_
          refine va_get (D := G.1) (ci := 7) (v := .ref a_hl) (C := RX7) (T := TX7) (N := 10) hx hb hts inG_X7 hown hK hP 2 rfl rfl 8 (by decide) (hts _ fl_X7_28) (fun _ h9 => h9) rfl dX7_cellsIn_78 ?_
          refine lv_iload hx hb dX7_cellsIn_81 (lv_at hl 1 rfl) ?_
          refine va_iald hx hb hK hP 0 0 rfl rfl (i := n_i) (vp_in_iff.mpr ⟨by omega, by omega⟩) dX7_cellsIn_83 ?_
          refine lv_aload_n hx hb dX7_cellsIn_84 rfl (lv_at hl 2 rfl) ?_
          refine va_get (D := G.1) (ci := 7) (v := .ref a_hp) (C := RX7) (T := TX7) (N := 10) hx hb hts inG_X7 hown hK hP 2 rfl rfl 7 (by decide) (hts _ fl_X7_25) (fun _ h9 => h9) rfl dX7_cellsIn_85 ?_
          refine lv_iload_n hx hb dX7_cellsIn_88 rfl (lv_at hl 3 rfl) ?_
          refine lv_bipush (v := 64) hx hb dX7_cellsIn_89 (by decide) ?_
          refine lv_imul hx hb dX7_cellsIn_91 ?_
          have t_15 : (p_h * 64).toInt = p_h.toInt * 64 := g5_imul (a := p_h.toInt) (b := 64) (by rfl) (by decide) (by omega) (by omega)
          refine lv_iload hx hb dX7_cellsIn_92 (lv_at hl 1 rfl) ?_
          refine lv_iadd hx hb dX7_cellsIn_94 ?_
          have t_16 : ((p_h * 64) + n_i).toInt = (p_h * 64).toInt + n_i.toInt := g5_iadd (a := (p_h * 64).toInt) (b := n_i.toInt) (by rfl) (by rfl) (by omega) (by omega)
          refine va_iald hx hb hK hP 5 0 rfl rfl (i := ((p_h * 64) + n_i)) (vp_in_iff.mpr ⟨by omega, by omega⟩) dX7_cellsIn_95 ?_
          refine lv_iand hx hb dX7_cellsIn_96 ?_
          refine lv_if_eq (tgt := 107) hx hb dX7_cellsIn_97 (by decide) (fun c_17 => ?_) (fun c_17 => ?_)
          ·
            have i_17 : ((m_f n_i.toNatClampNeg) &&& (z3 ((p_h * 64) + n_i).toNatClampNeg)).toInt = 0 := by have z := g5_eq (a := ((m_f n_i.toNatClampNeg) &&& (z3 ((p_h * 64) + n_i).toNatClampNeg)).toInt) (b := 0) (by rfl) (by decide) c_17; omega
            refine lv_iinc (v := (n_i + 1)) (lv' := [(4, .int (n_i + 1)), (2, .long n_x), (0, .ref a_th), (1, .int p_h)]) hx hb dX7_cellsIn_107 hl (k := 1) rfl rfl (by decide) rfl (fun ls hl => ?_)
            have t_18 : (n_i + 1).toInt = n_i.toInt + 1 := g5_iadd (a := n_i.toInt) (b := 1) rfl (by decide) (by omega) (by omega)
            refine lv_goto (tgt := 70) hx hb dX7_cellsIn_110 (by decide) ?_
            exact ih_70_13 ((n_i + 1), n_x) ls H locs (show Int.toNat (64 - (n_i + 1).toInt) < Int.toNat (64 - n_i.toInt) from g_up (show n_i.toInt < (n_i + 1).toInt by omega) (show n_i.toInt < 64 by omega)) ⟨lv_sub hl [1, 0, 2, 3] rfl, hP, hD, hS, ⟨by omega, by omega⟩⟩
          ·
            have n_17 : gNe (((m_f n_i.toNatClampNeg) &&& (z3 ((p_h * 64) + n_i).toNatClampNeg)).toInt) (0) := by have z := g5_eqN (a := ((m_f n_i.toNatClampNeg) &&& (z3 ((p_h * 64) + n_i).toNatClampNeg)).toInt) (b := 0) (by rfl) (by decide) c_17; unfold gNe; omega
            refine lv_lload_n hx hb dX7_cellsIn_100 rfl (lv_at hl 0 rfl) ?_
            refine lv_lconst (v := 1) hx hb dX7_cellsIn_101 (by decide) ?_
            refine lv_iload hx hb dX7_cellsIn_102 (lv_at hl 1 rfl) ?_
            refine lv_lshl (v := ((1 : Int64) <<< (n_i.toInt64 &&& 63))) hx hb dX7_cellsIn_104 rfl ?_
            refine lv_lor hx hb dX7_cellsIn_105 ?_
            refine lv_lstore_n (lv' := [(2, .long (n_x ||| ((1 : Int64) <<< (n_i.toInt64 &&& 63)))), (4, .int n_i), (0, .ref a_th), (1, .int p_h)]) hx hb dX7_cellsIn_106 rfl hl (by decide) rfl (fun ls hl => ?_)
            refine lv_iinc (v := (n_i + 1)) (lv' := [(4, .int (n_i + 1)), (2, .long (n_x ||| ((1 : Int64) <<< (n_i.toInt64 &&& 63)))), (0, .ref a_th), (1, .int p_h)]) hx hb dX7_cellsIn_107 hl (k := 1) rfl rfl (by decide) rfl (fun ls hl => ?_)
            have t_19 : (n_i + 1).toInt = n_i.toInt + 1 := g5_iadd (a := n_i.toInt) (b := 1) rfl (by decide) (by omega) (by omega)
            refine lv_goto (tgt := 70) hx hb dX7_cellsIn_110 (by decide) ?_
            exact ih_70_13 ((n_i + 1), (n_x ||| ((1 : Int64) <<< (n_i.toInt64 &&& 63)))) ls H locs (show Int.toNat (64 - (n_i + 1).toInt) < Int.toNat (64 - n_i.toInt) from g_up (show n_i.toInt < (n_i + 1).toInt by omega) (show n_i.toInt < 64 by omega)) ⟨lv_sub hl [1, 0, 2, 3] rfl, hP, hD, hS, ⟨by omega, by omega⟩⟩
      ·
        have i_11 : m_h.toInt ≤ p_h.toInt := by have z := g5_gtN (a := m_h.toInt) (b := p_h.toInt) (by rfl) (by rfl) c_11; omega
        refine lv_aload_n hx hb dX7_cellsIn_54 rfl (lv_at hl 1 rfl) ?_
        refine lv_iload_n hx hb dX7_cellsIn_55 rfl (lv_at hl 0 rfl) ?_
        obtain ⟨hPc, hDc, hFc⟩ := g5_sub3 (wc := [(a_th, (oc7 a_h a_k a_ba a_ad e_fu a_cn a_nx a_hp a_hl a_lv)), (a_ba, (arJ G 24 f_ba)), (a_ad, (arI G 1536 f_ad)), (a_hl, (arI G 64 m_f)), (a_lv, (arI G 64 m_g))]) hP hD hS hA [2, 3, 4, 0, 1] (by decide) rfl
        refine va_callv (va_runV (As := [.int m_h]) (rest := []) ⟨hx, hb, hml, hown, hts⟩ (th_hold l G a_th a_ba a_ad a_hl a_lv a_h a_k a_cn a_nx a_hp H.size e_fu m_h f_ba f_ad m_f m_g ⟨by omega, by omega⟩) (cwV 1 hts gV_X7_121 rfl rfl rfl hv_X7_holdIn ⟨Nat.le_of_ble_eq_true rfl, Nat.le_of_ble_eq_true rfl⟩) (g5_preV hPc hK hDc hN hT hS hFc (ci := 7) (q0 := 0) rfl rfl) rfl rfl hl.1 rfl (lv_room (Nat.le_of_ble_eq_true rfl)) dX7_cellsIn_56 ⟨Nat.le_of_ble_eq_true rfl, Nat.le_of_ble_eq_true rfl⟩) hS (fun q _ h => hFc q h) hFc (fun u t H1 locs ht hvm hw hB hz1 hk1 hS => ?_)
        obtain ⟨hP1, hD1⟩ := hB
        rw [ht] at hP1
        obtain ⟨z20, z21, rfl⟩ := hw
        obtain ⟨hP, hD⟩ := va_join (wr := [(a_hp, (arI G 1536 z3))]) hP hD [2, 3, 4, 0, 1] [5] rfl rfl (by decide) (by decide) hk1 hFc hP1 hD1
        generalize H1 = H at hP hS ⊢
        refine g5_rs [(a_hp, (arI G 1536 z3)), (a_th, (oc7 a_h a_k a_ba a_ad e_fu a_cn a_nx a_hp a_hl a_lv)), (a_ba, (arJ G 24 f_ba)), (a_ad, (arI G 1536 f_ad)), (a_hl, (arI G 64 z20)), (a_lv, (arI G 64 z21))] hP hD (fun hP hD => ?_)
        refine lv_iinc (v := (m_h + 1)) (lv' := [(2, .int (m_h + 1)), (0, .ref a_th), (1, .int p_h)]) hx hb dX7_cellsIn_59 hl (k := 0) rfl rfl (by decide) rfl (fun ls hl => ?_)
        have t_22 : (m_h + 1).toInt = m_h.toInt + 1 := g5_iadd (a := m_h.toInt) (b := 1) rfl (by decide) (by omega) (by omega)
        refine lv_goto (tgt := 49) hx hb dX7_cellsIn_62 (by decide) ?_
        exact ih_49_10 ((m_h + 1), z20, z21) ls H locs (show Int.toNat (24 - (m_h + 1).toInt) < Int.toNat (24 - m_h.toInt) from g_up (show m_h.toInt < (m_h + 1).toInt by omega) (show m_h.toInt < 24 by omega)) ⟨lv_sub hl [0, 1, 2] rfl, hP.sub [4, 5, 1, 2, 3, 0] rfl, hD.sub [4, 5, 1, 2, 3, 0] (by decide) rfl, hS, ⟨by omega, by omega⟩⟩
    ·
      have i_8 : k_i.toInt < 64 := by have z := g5_geN (a := k_i.toInt) (b := 64) (by rfl) (by decide) c_8; omega
      refine lv_aload_n hx hb dX7_cellsIn_17 rfl (lv_at hl 1 rfl) ?_
      refine va_get (D := G.1) (ci := 7) (v := .ref a_hl) (C := RX7) (T := TX7) (N := 10) hx hb hts inG_X7 hown hK hP 2 rfl rfl 8 (by decide) (hts _ fl_X7_28) (fun _ h9 => h9) rfl dX7_cellsIn_18 ?_
      refine lv_iload_n hx hb dX7_cellsIn_21 rfl (lv_at hl 0 rfl) ?_
      refine lv_aload_n hx hb dX7_cellsIn_22 rfl (lv_at hl 1 rfl) ?_
      refine va_get (D := G.1) (ci := 7) (v := .ref a_ba) (C := RX7) (T := TX7) (N := 10) hx hb hts inG_X7 hown hK hP 2 rfl rfl 2 (by decide) (hts _ fl_X7_9) (fun _ h9 => h9) rfl dX7_cellsIn_23 ?_
      refine lv_iconst (v := 0) hx hb dX7_cellsIn_26 (by decide) ?_
      refine va_lald hx hb hK hP 3 1 rfl rfl (i := 0) (by unfold vp_in; decide) dX7_cellsIn_27 ?_
      refine g5_tl (v := (f_ba 0)) rfl ?_
      refine lv_iload_n hx hb dX7_cellsIn_28 rfl (lv_at hl 0 rfl) ?_
      obtain ⟨hPc, hDc, hFc⟩ := g5_sub3 (wc := []) hP hD hS hA [] (by decide) rfl
      refine va_calli (va_runSN (As := [.long (f_ba 0), .int k_i]) (rest := [.int k_i, .ref a_hl]) ⟨hx, hb, hml, hown, hts⟩ (k_isOn l G H.size k_i (f_ba 0) ⟨by omega, by omega⟩) ⟨va_cnB 2 hts gW_X11_isOn rfl rfl rfl (hN.1 _ g5_nw_X7_98) (hts _ ini_X11) hs_X11_isOn ⟨Nat.le_of_ble_eq_true rfl, Nat.le_of_ble_eq_true rfl⟩, hts _ st_X11_isOn, trivial⟩ (g5_preS hPc hK hDc hN hT hS hFc) rfl rfl hl.1 rfl (lv_room (Nat.le_of_ble_eq_true rfl)) dX7_cellsIn_29 ⟨Nat.le_of_ble_eq_true rfl, Nat.le_of_ble_eq_true rfl⟩) hS (fun q _ h => hFc q h) hFc (fun r u t H1 locs ht hvm hw hB hz1 hk1 hS => ?_)
      obtain ⟨hP1, hD1⟩ := hB
      rw [ht] at hP1
      rcases hw with ⟨i_23, rfl, rfl⟩ | ⟨i_24, rfl, rfl⟩
      ·
        have i_23 : onB (f_ba 0) k_i.toInt = false := i_23
        have hP := g5_same hP hk1
        generalize H1 = H at hP hS ⊢
        refine lv_if_eq (tgt := 39) hx hb dX7_cellsIn_32 (by decide) (fun c_25 => ?_) (fun c_25 => ?_)
        ·
          refine lv_iconst (v := 1) hx hb dX7_cellsIn_39 (by decide) ?_
          refine va_iast hx hb hK hP hD hS 0 0 rfl rfl (i := k_i) (x := 1) (vp_in_iff.mpr ⟨by omega, by omega⟩) dX7_cellsIn_40 (fun H locs hP hD hS => ?_)
          refine g5_rs [(a_hl, (arI G 64 (upd k_f k_i.toNatClampNeg 1))), (a_lv, (arI G 64 f_lv)), (a_th, (oc7 a_h a_k a_ba a_ad e_fu a_cn a_nx a_hp a_hl a_lv)), (a_ba, (arJ G 24 f_ba)), (a_ad, (arI G 1536 f_ad)), (a_hp, (arI G 1536 z3))] hP hD (fun hP hD => ?_)
          refine lv_iinc (v := (k_i + 1)) (lv' := [(2, .int (k_i + 1)), (0, .ref a_th), (1, .int p_h)]) hx hb dX7_cellsIn_41 hl (k := 0) rfl rfl (by decide) rfl (fun ls hl => ?_)
          have t_26 : (k_i + 1).toInt = k_i.toInt + 1 := g5_iadd (a := k_i.toInt) (b := 1) rfl (by decide) (by omega) (by omega)
          refine lv_goto (tgt := 11) hx hb dX7_cellsIn_44 (by decide) ?_
          exact ih_11_7 ((k_i + 1), (upd k_f k_i.toNatClampNeg 1)) ls H locs (show Int.toNat (64 - (k_i + 1).toInt) < Int.toNat (64 - k_i.toInt) from g_up (show k_i.toInt < (k_i + 1).toInt by omega) (show k_i.toInt < 64 by omega)) ⟨lv_sub hl [0, 1, 2] rfl, hP, hD, hS, ⟨by omega, by omega⟩⟩
        ·
          exact absurd c_25 (by decide)
      ·
        have i_24 : onB (f_ba 0) k_i.toInt = true := i_24
        have hP := g5_same hP hk1
        generalize H1 = H at hP hS ⊢
        refine lv_if_eq (tgt := 39) hx hb dX7_cellsIn_32 (by decide) (fun c_27 => ?_) (fun c_27 => ?_)
        ·
          exact absurd c_27 (by decide)
        ·
          refine lv_iconst (v := 0) hx hb dX7_cellsIn_35 (by decide) ?_
          refine lv_goto (tgt := 40) hx hb dX7_cellsIn_36 (by decide) ?_
          refine va_iast hx hb hK hP hD hS 0 0 rfl rfl (i := k_i) (x := 0) (vp_in_iff.mpr ⟨by omega, by omega⟩) dX7_cellsIn_40 (fun H locs hP hD hS => ?_)
          refine g5_rs [(a_hl, (arI G 64 (upd k_f k_i.toNatClampNeg 0))), (a_lv, (arI G 64 f_lv)), (a_th, (oc7 a_h a_k a_ba a_ad e_fu a_cn a_nx a_hp a_hl a_lv)), (a_ba, (arJ G 24 f_ba)), (a_ad, (arI G 1536 f_ad)), (a_hp, (arI G 1536 z3))] hP hD (fun hP hD => ?_)
          refine lv_iinc (v := (k_i + 1)) (lv' := [(2, .int (k_i + 1)), (0, .ref a_th), (1, .int p_h)]) hx hb dX7_cellsIn_41 hl (k := 0) rfl rfl (by decide) rfl (fun ls hl => ?_)
          have t_28 : (k_i + 1).toInt = k_i.toInt + 1 := g5_iadd (a := k_i.toInt) (b := 1) rfl (by decide) (by omega) (by omega)
          refine lv_goto (tgt := 11) hx hb dX7_cellsIn_44 (by decide) ?_
          exact ih_11_7 ((k_i + 1), (upd k_f k_i.toNatClampNeg 0)) ls H locs (show Int.toNat (64 - (k_i + 1).toInt) < Int.toNat (64 - k_i.toInt) from g_up (show k_i.toInt < (k_i + 1).toInt by omega) (show k_i.toInt < 64 by omega)) ⟨lv_sub hl [0, 1, 2] rfl, hP, hD, hS, ⟨by omega, by omega⟩⟩
  ·
    have i_5 : z2.toInt = 0 := by have z := g5_neN (a := z2.toInt) (b := 0) (by rfl) (by decide) c_5; omega
    refine lv_lconst (v := 0) hx hb dX7_cellsIn_7 (by decide) ?_
    exact W.lret (v := 0) hx hb hr (fun t ht hW => ⟨⟨0, [(a_th, (oc7 a_h a_k a_ba a_ad e_fu a_cn a_nx a_hp a_hl a_lv)), (a_ba, (arJ G 24 f_ba)), (a_ad, (arI G 1536 f_ad)), (a_hp, (arI G 1536 z3)), (a_hl, (arI G 64 f_hl)), (a_lv, (arI G 64 f_lv))], rfl, ⟨0, z3, f_hl, f_lv, rfl, rfl⟩, by rw [ht]; exact hP.sub [2, 3, 4, 5, 0, 1] rfl, hD.sub [2, 3, 4, 5, 0, 1] (by decide) rfl⟩, hS.F ht⟩) hS.2.2 dX7_cellsIn_8
theorem dgX9_lowestNext_0 : ∀ r ∈ ([(0, (.iconst 0, 1)), (1, (.istore_n 3, 1)), (2, (.iload_n 3, 1)), (3, (.getstatic 64, 3)), (6, (.arraylength, 1)), (7, (.if_icmp .ge 38, 3)), (10, (.iload_n 0, 1)), (11, (.getstatic 64, 3)), (14, (.iload_n 3, 1)), (15, (.iaload, 1)), (16, (.invokestatic 67, 3)), (19, (.istore 4, 2)), (21, (.iload 4, 2)), (23, (.iconst (-1), 1)), (24, (.if_icmp .eq 15, 3)), (27, (.lload_n 1, 1)), (28, (.iload 4, 2)), (30, (.invokestatic 43, 3)), (33, (.ifCond .eq 6, 3)), (36, (.iload 4, 2)), (38, (.ireturn, 1)), (39, (.iinc 3 1, 3)), (42, (.goto (-40), 3)), (45, (.iload_n 0, 1)), (46, (.ireturn, 1))] : List (Nat × (Instr × Nat))), decode cX9_lowestNext r.1 = .ok r.2 := by decide +kernel
theorem dX9_lowestNext_0 : decode cX9_lowestNext 0 = .ok (.iconst 0, 1) := dgX9_lowestNext_0 (0, (.iconst 0, 1)) (List.mem_of_getElem? (i := 0) rfl)
theorem dX9_lowestNext_1 : decode cX9_lowestNext 1 = .ok (.istore_n 3, 1) := dgX9_lowestNext_0 (1, (.istore_n 3, 1)) (List.mem_of_getElem? (i := 1) rfl)
theorem dX9_lowestNext_2 : decode cX9_lowestNext 2 = .ok (.iload_n 3, 1) := dgX9_lowestNext_0 (2, (.iload_n 3, 1)) (List.mem_of_getElem? (i := 2) rfl)
theorem dX9_lowestNext_3 : decode cX9_lowestNext 3 = .ok (.getstatic 64, 3) := dgX9_lowestNext_0 (3, (.getstatic 64, 3)) (List.mem_of_getElem? (i := 3) rfl)
theorem dX9_lowestNext_6 : decode cX9_lowestNext 6 = .ok (.arraylength, 1) := dgX9_lowestNext_0 (6, (.arraylength, 1)) (List.mem_of_getElem? (i := 4) rfl)
theorem dX9_lowestNext_7 : decode cX9_lowestNext 7 = .ok (.if_icmp .ge 38, 3) := dgX9_lowestNext_0 (7, (.if_icmp .ge 38, 3)) (List.mem_of_getElem? (i := 5) rfl)
theorem dX9_lowestNext_10 : decode cX9_lowestNext 10 = .ok (.iload_n 0, 1) := dgX9_lowestNext_0 (10, (.iload_n 0, 1)) (List.mem_of_getElem? (i := 6) rfl)
theorem dX9_lowestNext_11 : decode cX9_lowestNext 11 = .ok (.getstatic 64, 3) := dgX9_lowestNext_0 (11, (.getstatic 64, 3)) (List.mem_of_getElem? (i := 7) rfl)
theorem dX9_lowestNext_14 : decode cX9_lowestNext 14 = .ok (.iload_n 3, 1) := dgX9_lowestNext_0 (14, (.iload_n 3, 1)) (List.mem_of_getElem? (i := 8) rfl)
theorem dX9_lowestNext_15 : decode cX9_lowestNext 15 = .ok (.iaload, 1) := dgX9_lowestNext_0 (15, (.iaload, 1)) (List.mem_of_getElem? (i := 9) rfl)
theorem dX9_lowestNext_16 : decode cX9_lowestNext 16 = .ok (.invokestatic 67, 3) := dgX9_lowestNext_0 (16, (.invokestatic 67, 3)) (List.mem_of_getElem? (i := 10) rfl)
theorem dX9_lowestNext_19 : decode cX9_lowestNext 19 = .ok (.istore 4, 2) := dgX9_lowestNext_0 (19, (.istore 4, 2)) (List.mem_of_getElem? (i := 11) rfl)
theorem dX9_lowestNext_21 : decode cX9_lowestNext 21 = .ok (.iload 4, 2) := dgX9_lowestNext_0 (21, (.iload 4, 2)) (List.mem_of_getElem? (i := 12) rfl)
theorem dX9_lowestNext_23 : decode cX9_lowestNext 23 = .ok (.iconst (-1), 1) := dgX9_lowestNext_0 (23, (.iconst (-1), 1)) (List.mem_of_getElem? (i := 13) rfl)
theorem dX9_lowestNext_24 : decode cX9_lowestNext 24 = .ok (.if_icmp .eq 15, 3) := dgX9_lowestNext_0 (24, (.if_icmp .eq 15, 3)) (List.mem_of_getElem? (i := 14) rfl)
theorem dX9_lowestNext_27 : decode cX9_lowestNext 27 = .ok (.lload_n 1, 1) := dgX9_lowestNext_0 (27, (.lload_n 1, 1)) (List.mem_of_getElem? (i := 15) rfl)
theorem dX9_lowestNext_28 : decode cX9_lowestNext 28 = .ok (.iload 4, 2) := dgX9_lowestNext_0 (28, (.iload 4, 2)) (List.mem_of_getElem? (i := 16) rfl)
theorem dX9_lowestNext_30 : decode cX9_lowestNext 30 = .ok (.invokestatic 43, 3) := dgX9_lowestNext_0 (30, (.invokestatic 43, 3)) (List.mem_of_getElem? (i := 17) rfl)
theorem dX9_lowestNext_33 : decode cX9_lowestNext 33 = .ok (.ifCond .eq 6, 3) := dgX9_lowestNext_0 (33, (.ifCond .eq 6, 3)) (List.mem_of_getElem? (i := 18) rfl)
theorem dX9_lowestNext_36 : decode cX9_lowestNext 36 = .ok (.iload 4, 2) := dgX9_lowestNext_0 (36, (.iload 4, 2)) (List.mem_of_getElem? (i := 19) rfl)
theorem dX9_lowestNext_38 : decode cX9_lowestNext 38 = .ok (.ireturn, 1) := dgX9_lowestNext_0 (38, (.ireturn, 1)) (List.mem_of_getElem? (i := 20) rfl)
theorem dX9_lowestNext_39 : decode cX9_lowestNext 39 = .ok (.iinc 3 1, 3) := dgX9_lowestNext_0 (39, (.iinc 3 1, 3)) (List.mem_of_getElem? (i := 21) rfl)
theorem dX9_lowestNext_42 : decode cX9_lowestNext 42 = .ok (.goto (-40), 3) := dgX9_lowestNext_0 (42, (.goto (-40), 3)) (List.mem_of_getElem? (i := 22) rfl)
theorem dX9_lowestNext_45 : decode cX9_lowestNext 45 = .ok (.iload_n 0, 1) := dgX9_lowestNext_0 (45, (.iload_n 0, 1)) (List.mem_of_getElem? (i := 23) rfl)
theorem dX9_lowestNext_46 : decode cX9_lowestNext 46 = .ok (.ireturn, 1) := dgX9_lowestNext_0 (46, (.ireturn, 1)) (List.mem_of_getElem? (i := 24) rfl)
set_option maxHeartbeats 4000000 in
set_option maxRecDepth 100000 in
theorem a_next (l : Launch) (G : g5_G) (sz : Nat) (p_c : Int32) (p_x : Int64) (h_p_c : 0 ≤ p_c.toInt ∧ p_c.toInt ≤ 63) : Met l yX9_lowestNext (wsG yX9_lowestNext cX9_lowestNext 5 (some .int)) ({ frames := 1, cells := 0, slots := 0, locals := 22 }) (va_Pc [.int p_c, .long p_x] (g5_P G [] sz)) (va_Qi (fun (r : Int32) (u : va_W) => (∃ (o_r : Int32), (0 ≤ o_r.toInt ∧ o_r.toInt ≤ 63) ∧ (r = o_r) ∧ (u = []))) (g5_B G (va_A [] sz)) (va_A [] sz)) 0 0 (va_A [] sz) := by
  refine Met.ofW (cc := cX9_lowestNext) (maxL := 5) (ret := (some .int)) (by decide) rfl ?_
  intro p e s m args below meth c s₁ B hml hv
  obtain ⟨rfl, hsz, hP, hK, hD0, hN, hT⟩ := hv
  have hx := B.exec
  have hb := B.bytes
  have hr := B.returns
  have hts : ∀ w ∈ tblG, w.before _ s = true := fun w h => atoms_spec (ws := (wsG yX9_lowestNext cX9_lowestNext 5 (some .int))) B.pre w (List.mem_cons_of_mem _ h)
  have hown : s.vm.findClass RX9 = some m.cls := findClass_of_methodNamed B.named
  have hlocks := B.notSynchronized
  subst hsz
  have hD := hD0.self (sz := s.heap.size)
  generalize hAe : va_A [] s.heap.size = A at hD hT ⊢
  have hA : ∀ q : Nat, s.heap.size ≤ q → A q := fun q h => by rw [← hAe]; exact Or.inr h
  have hS : va_S A s.heap s.heap [] := va_S.rf
  have hP : va_P G.1 vwCl [] s.heap := hP
  have hl := lv_entry ([.int p_c, .long p_x]) (n := 5) (Nat.le_of_ble_eq_true rfl)
  rw [lg_entry_eq]
  generalize (lg_sl ([.int p_c, .long p_x]) ++ List.replicate (5 - (lg_sl ([.int p_c, .long p_x])).length) Slot.unset).toArray = ls at hl ⊢
  have hl : lv_has ls 5 [(0, .int p_c), (1, .long p_x)] := hl
  refine lv_iconst (v := 0) hx hb dX9_lowestNext_0 (by decide) ?_
  refine lv_istore_n (lv' := [(3, .int 0), (0, .int p_c), (1, .long p_x)]) hx hb dX9_lowestNext_1 rfl hl (by decide) rfl (fun ls hl => ?_)
  refine g5_loop (α := (Int32)) (fun (k_i : (Int32)) (ls : Array Slot) (H : Heap) (locs : List Loc) => lv_has ls 5 [(3, .int k_i), (0, .int p_c), (1, .long p_x)] ∧ va_P G.1 vwCl [] H ∧ va_D A [] ∧ va_S A s.heap H locs ∧ (0 ≤ k_i.toInt ∧ k_i.toInt ≤ 5)) (fun (k_i : (Int32)) => Int.toNat (5 - k_i.toInt)) 0 ⟨lv_sub hl [0, 1, 2] rfl, hP, hD, hS, ⟨by decide, by decide⟩⟩ ?_
  rintro k_i ls H locs ⟨hl, hP, hD, hS, i_1⟩ ih_2_2
  have hl : lv_has ls 5 [(3, .int k_i), (0, .int p_c), (1, .long p_x)] := hl
  have i_1 : 0 ≤ k_i.toInt ∧ k_i.toInt ≤ 5 := i_1
  refine g5_rs [] hP hD (fun hP hD => ?_)
  refine lv_iload_n hx hb dX9_lowestNext_2 rfl (lv_at hl 0 rfl) ?_
  obtain ⟨tH, tL, tK, tV, tF, hZH, hTH, hZL, hTL, -⟩ := id hT
  refine va_getsN hx hb hZL hS hown (hN.1 _ g5_nw_X9_64) (fun _ h9 => h9) dX9_lowestNext_3 ?_
  refine va_tlen hx hb hTL hS (v := 5) (by decide) dX9_lowestNext_6 ?_
  refine lv_icmp_ge (tgt := 45) hx hb dX9_lowestNext_7 (by decide) (fun c_3 => ?_) (fun c_3 => ?_)
  ·
    have i_3 : k_i.toInt ≥ 5 := by have z := g5_ge (a := k_i.toInt) (b := 5) (by rfl) (by decide) c_3; omega
    refine lv_iload_n hx hb dX9_lowestNext_45 rfl (lv_at hl 1 rfl) ?_
    exact W.iret (v := p_c) hx hb hr (fun t ht hW => ⟨⟨p_c, [], rfl, ⟨p_c, h_p_c, rfl, rfl⟩, by rw [ht]; exact hP.sub [] rfl, hD.sub [] (by decide) rfl⟩, hS.F ht⟩) hS.2.2 dX9_lowestNext_46
  ·
    have i_3 : k_i.toInt < 5 := by have z := g5_geN (a := k_i.toInt) (b := 5) (by rfl) (by decide) c_3; omega
    refine lv_iload_n hx hb dX9_lowestNext_10 rfl (lv_at hl 1 rfl) ?_
    obtain ⟨tH, tL, tK, tV, tF, hZH, hTH, hZL, hTL, -⟩ := id hT
    refine va_getsN hx hb hZL hS hown (hN.1 _ g5_nw_X9_64) (fun _ h9 => h9) dX9_lowestNext_11 ?_
    refine lv_iload_n hx hb dX9_lowestNext_14 rfl (lv_at hl 0 rfl) ?_
    refine va_ti hx hb hTL hS (i := k_i) (vp_in_iff.mpr ⟨by omega, by omega⟩) (v := .int (g_low k_i.toNatClampNeg)) (g_low_eq _) dX9_lowestNext_15 ?_
    obtain ⟨hPc, hDc, hFc⟩ := g5_sub3 (wc := []) hP hD hS hA [] (by decide) rfl
    refine va_calli (va_runSN (As := [.int p_c, .int (g_low k_i.toNatClampNeg)]) (rest := []) ⟨hx, hb, hml, hown, hts⟩ (k_beside l G H.size p_c (g_low k_i.toNatClampNeg) h_p_c) ⟨va_cnB 2 hts gW_X11_beside rfl rfl rfl (hN.1 _ g5_nw_X9_67) (hts _ ini_X11) hs_X11_beside ⟨Nat.le_of_ble_eq_true rfl, Nat.le_of_ble_eq_true rfl⟩, hts _ st_X11_beside, trivial⟩ (g5_preS hPc hK hDc hN hT hS hFc) rfl rfl hl.1 rfl (lv_room (Nat.le_of_ble_eq_true rfl)) dX9_lowestNext_16 ⟨Nat.le_of_ble_eq_true rfl, Nat.le_of_ble_eq_true rfl⟩) hS (fun q _ h => hFc q h) hFc (fun r u t H1 locs ht hvm hw hB hz1 hk1 hS => ?_)
    obtain ⟨hP1, hD1⟩ := hB
    rw [ht] at hP1
    obtain ⟨z6, i_4, i_5, y7, rfl⟩ := hw
    have i_4 : z6.toInt = bs p_c.toInt (g_low k_i.toNatClampNeg).toInt := i_4
    have i_5 : -1 ≤ z6.toInt ∧ z6.toInt ≤ 63 := i_5
    have hP := g5_same hP hk1
    generalize H1 = H at hP hS ⊢
    refine g5_ti (v := z6) y7 ?_
    refine lv_istore (lv' := [(4, .int z6), (3, .int k_i), (0, .int p_c), (1, .long p_x)]) hx hb dX9_lowestNext_19 hl (by decide) rfl (fun ls hl => ?_)
    refine lv_iload hx hb dX9_lowestNext_21 (lv_at hl 0 rfl) ?_
    refine lv_iconst (v := (-1)) hx hb dX9_lowestNext_23 (by decide) ?_
    refine lv_icmp_eq (tgt := 39) hx hb dX9_lowestNext_24 (by decide) (fun c_8 => ?_) (fun c_8 => ?_)
    ·
      have i_8 : z6.toInt = (-1) := by have z := g5_eq (a := z6.toInt) (b := (-1)) (by rfl) (by decide) c_8; omega
      refine lv_iinc (v := (k_i + 1)) (lv' := [(3, .int (k_i + 1)), (4, .int z6), (0, .int p_c), (1, .long p_x)]) hx hb dX9_lowestNext_39 hl (k := 1) rfl rfl (by decide) rfl (fun ls hl => ?_)
      have t_9 : (k_i + 1).toInt = k_i.toInt + 1 := g5_iadd (a := k_i.toInt) (b := 1) rfl (by decide) (by omega) (by omega)
      refine lv_goto (tgt := 2) hx hb dX9_lowestNext_42 (by decide) ?_
      exact ih_2_2 (k_i + 1) ls H locs (show Int.toNat (5 - (k_i + 1).toInt) < Int.toNat (5 - k_i.toInt) from g_up (show k_i.toInt < (k_i + 1).toInt by omega) (show k_i.toInt < 5 by omega)) ⟨lv_sub hl [0, 2, 3] rfl, hP, hD, hS, ⟨by omega, by omega⟩⟩
    ·
      have n_8 : gNe (z6.toInt) ((-1)) := by have z := g5_eqN (a := z6.toInt) (b := (-1)) (by rfl) (by decide) c_8; unfold gNe; omega
      have i_8 : z6.toInt ≥ 0 := by have z := g5_eqN (a := z6.toInt) (b := (-1)) (by rfl) (by decide) c_8; omega
      refine lv_lload_n hx hb dX9_lowestNext_27 rfl (lv_at hl 3 rfl) ?_
      refine lv_iload hx hb dX9_lowestNext_28 (lv_at hl 0 rfl) ?_
      obtain ⟨hPc, hDc, hFc⟩ := g5_sub3 (wc := []) hP hD hS hA [] (by decide) rfl
      refine va_calli (va_runSN (As := [.long p_x, .int z6]) (rest := []) ⟨hx, hb, hml, hown, hts⟩ (k_isOn l G H.size z6 p_x ⟨by omega, by omega⟩) ⟨va_cnB 2 hts gW_X11_isOn rfl rfl rfl (hN.1 _ g5_nw_X9_43) (hts _ ini_X11) hs_X11_isOn ⟨Nat.le_of_ble_eq_true rfl, Nat.le_of_ble_eq_true rfl⟩, hts _ st_X11_isOn, trivial⟩ (g5_preS hPc hK hDc hN hT hS hFc) rfl rfl hl.1 rfl (lv_room (Nat.le_of_ble_eq_true rfl)) dX9_lowestNext_30 ⟨Nat.le_of_ble_eq_true rfl, Nat.le_of_ble_eq_true rfl⟩) hS (fun q _ h => hFc q h) hFc (fun r u t H1 locs ht hvm hw hB hz1 hk1 hS => ?_)
      obtain ⟨hP1, hD1⟩ := hB
      rw [ht] at hP1
      rcases hw with ⟨i_10, rfl, rfl⟩ | ⟨i_11, rfl, rfl⟩
      ·
        have i_10 : onB p_x z6.toInt = false := i_10
        have hP := g5_same hP hk1
        generalize H1 = H at hP hS ⊢
        refine lv_if_eq (tgt := 39) hx hb dX9_lowestNext_33 (by decide) (fun c_12 => ?_) (fun c_12 => ?_)
        ·
          refine lv_iinc (v := (k_i + 1)) (lv' := [(3, .int (k_i + 1)), (4, .int z6), (0, .int p_c), (1, .long p_x)]) hx hb dX9_lowestNext_39 hl (k := 1) rfl rfl (by decide) rfl (fun ls hl => ?_)
          have t_13 : (k_i + 1).toInt = k_i.toInt + 1 := g5_iadd (a := k_i.toInt) (b := 1) rfl (by decide) (by omega) (by omega)
          refine lv_goto (tgt := 2) hx hb dX9_lowestNext_42 (by decide) ?_
          exact ih_2_2 (k_i + 1) ls H locs (show Int.toNat (5 - (k_i + 1).toInt) < Int.toNat (5 - k_i.toInt) from g_up (show k_i.toInt < (k_i + 1).toInt by omega) (show k_i.toInt < 5 by omega)) ⟨lv_sub hl [0, 2, 3] rfl, hP, hD, hS, ⟨by omega, by omega⟩⟩
        ·
          exact absurd c_12 (by decide)
      ·
        have i_11 : onB p_x z6.toInt = true := i_11
        have hP := g5_same hP hk1
        generalize H1 = H at hP hS ⊢
        refine lv_if_eq (tgt := 39) hx hb dX9_lowestNext_33 (by decide) (fun c_14 => ?_) (fun c_14 => ?_)
        ·
          exact absurd c_14 (by decide)
        ·
          refine lv_iload hx hb dX9_lowestNext_36 (lv_at hl 0 rfl) ?_
          exact W.iret (v := z6) hx hb hr (fun t ht hW => ⟨⟨z6, [], rfl, ⟨z6, ⟨by omega, by omega⟩, rfl, rfl⟩, by rw [ht]; exact hP.sub [] rfl, hD.sub [] (by decide) rfl⟩, hS.F ht⟩) hS.2.2 dX9_lowestNext_38
theorem dgX9_firstRowAt_0 : ∀ r ∈ ([(0, (.iload_n 3, 1)), (1, (.iconst 1, 1)), (2, (.isub, 1)), (3, (.istore 5, 2)), (5, (.iload 5, 2)), (7, (.iload_n 2, 1)), (8, (.if_icmp .lt 29, 3)), (11, (.aload_n 0, 1)), (12, (.getfield 9, 3)), (15, (.iload 5, 2)), (17, (.aload_n 0, 1)), (18, (.aload_n 0, 1)), (19, (.getfield 9, 3)), (22, (.iload 5, 2)), (24, (.iconst 1, 1)), (25, (.iadd, 1)), (26, (.laload, 1)), (27, (.invokevirtual 56, 3)), (30, (.lastore, 1)), (31, (.iinc 5 (-1), 3)), (34, (.goto (-29), 3)), (37, (.iload_n 1, 1)), (38, (.istore 5, 2)), (40, (.iload_n 2, 1)), (41, (.iconst 1, 1)), (42, (.iadd, 1)), (43, (.istore 6, 2)), (45, (.iload 6, 2)), (47, (.iload 4, 2)), (49, (.if_icmp .gt 23, 3)), (52, (.iload 5, 2)), (54, (.aload_n 0, 1)), (55, (.getfield 9, 3)), (58, (.iload 6, 2)), (60, (.laload, 1)), (61, (.invokestatic 60, 3)), (64, (.istore 5, 2)), (66, (.iinc 6 1, 3)), (69, (.goto (-24), 3)), (72, (.iload 5, 2))] : List (Nat × (Instr × Nat))), decode cX9_firstRowAt r.1 = .ok r.2 := by decide +kernel
theorem dX9_firstRowAt_0 : decode cX9_firstRowAt 0 = .ok (.iload_n 3, 1) := dgX9_firstRowAt_0 (0, (.iload_n 3, 1)) (List.mem_of_getElem? (i := 0) rfl)
theorem dX9_firstRowAt_1 : decode cX9_firstRowAt 1 = .ok (.iconst 1, 1) := dgX9_firstRowAt_0 (1, (.iconst 1, 1)) (List.mem_of_getElem? (i := 1) rfl)
theorem dX9_firstRowAt_2 : decode cX9_firstRowAt 2 = .ok (.isub, 1) := dgX9_firstRowAt_0 (2, (.isub, 1)) (List.mem_of_getElem? (i := 2) rfl)
theorem dX9_firstRowAt_3 : decode cX9_firstRowAt 3 = .ok (.istore 5, 2) := dgX9_firstRowAt_0 (3, (.istore 5, 2)) (List.mem_of_getElem? (i := 3) rfl)
theorem dX9_firstRowAt_5 : decode cX9_firstRowAt 5 = .ok (.iload 5, 2) := dgX9_firstRowAt_0 (5, (.iload 5, 2)) (List.mem_of_getElem? (i := 4) rfl)
theorem dX9_firstRowAt_7 : decode cX9_firstRowAt 7 = .ok (.iload_n 2, 1) := dgX9_firstRowAt_0 (7, (.iload_n 2, 1)) (List.mem_of_getElem? (i := 5) rfl)
theorem dX9_firstRowAt_8 : decode cX9_firstRowAt 8 = .ok (.if_icmp .lt 29, 3) := dgX9_firstRowAt_0 (8, (.if_icmp .lt 29, 3)) (List.mem_of_getElem? (i := 6) rfl)
theorem dX9_firstRowAt_11 : decode cX9_firstRowAt 11 = .ok (.aload_n 0, 1) := dgX9_firstRowAt_0 (11, (.aload_n 0, 1)) (List.mem_of_getElem? (i := 7) rfl)
theorem dX9_firstRowAt_12 : decode cX9_firstRowAt 12 = .ok (.getfield 9, 3) := dgX9_firstRowAt_0 (12, (.getfield 9, 3)) (List.mem_of_getElem? (i := 8) rfl)
theorem dX9_firstRowAt_15 : decode cX9_firstRowAt 15 = .ok (.iload 5, 2) := dgX9_firstRowAt_0 (15, (.iload 5, 2)) (List.mem_of_getElem? (i := 9) rfl)
theorem dX9_firstRowAt_17 : decode cX9_firstRowAt 17 = .ok (.aload_n 0, 1) := dgX9_firstRowAt_0 (17, (.aload_n 0, 1)) (List.mem_of_getElem? (i := 10) rfl)
theorem dX9_firstRowAt_18 : decode cX9_firstRowAt 18 = .ok (.aload_n 0, 1) := dgX9_firstRowAt_0 (18, (.aload_n 0, 1)) (List.mem_of_getElem? (i := 11) rfl)
theorem dX9_firstRowAt_19 : decode cX9_firstRowAt 19 = .ok (.getfield 9, 3) := dgX9_firstRowAt_0 (19, (.getfield 9, 3)) (List.mem_of_getElem? (i := 12) rfl)
theorem dX9_firstRowAt_22 : decode cX9_firstRowAt 22 = .ok (.iload 5, 2) := dgX9_firstRowAt_0 (22, (.iload 5, 2)) (List.mem_of_getElem? (i := 13) rfl)
theorem dX9_firstRowAt_24 : decode cX9_firstRowAt 24 = .ok (.iconst 1, 1) := dgX9_firstRowAt_0 (24, (.iconst 1, 1)) (List.mem_of_getElem? (i := 14) rfl)
theorem dX9_firstRowAt_25 : decode cX9_firstRowAt 25 = .ok (.iadd, 1) := dgX9_firstRowAt_0 (25, (.iadd, 1)) (List.mem_of_getElem? (i := 15) rfl)
theorem dX9_firstRowAt_26 : decode cX9_firstRowAt 26 = .ok (.laload, 1) := dgX9_firstRowAt_0 (26, (.laload, 1)) (List.mem_of_getElem? (i := 16) rfl)
theorem dX9_firstRowAt_27 : decode cX9_firstRowAt 27 = .ok (.invokevirtual 56, 3) := dgX9_firstRowAt_0 (27, (.invokevirtual 56, 3)) (List.mem_of_getElem? (i := 17) rfl)
theorem dX9_firstRowAt_30 : decode cX9_firstRowAt 30 = .ok (.lastore, 1) := dgX9_firstRowAt_0 (30, (.lastore, 1)) (List.mem_of_getElem? (i := 18) rfl)
theorem dX9_firstRowAt_31 : decode cX9_firstRowAt 31 = .ok (.iinc 5 (-1), 3) := dgX9_firstRowAt_0 (31, (.iinc 5 (-1), 3)) (List.mem_of_getElem? (i := 19) rfl)
theorem dX9_firstRowAt_34 : decode cX9_firstRowAt 34 = .ok (.goto (-29), 3) := dgX9_firstRowAt_0 (34, (.goto (-29), 3)) (List.mem_of_getElem? (i := 20) rfl)
theorem dX9_firstRowAt_37 : decode cX9_firstRowAt 37 = .ok (.iload_n 1, 1) := dgX9_firstRowAt_0 (37, (.iload_n 1, 1)) (List.mem_of_getElem? (i := 21) rfl)
theorem dX9_firstRowAt_38 : decode cX9_firstRowAt 38 = .ok (.istore 5, 2) := dgX9_firstRowAt_0 (38, (.istore 5, 2)) (List.mem_of_getElem? (i := 22) rfl)
theorem dX9_firstRowAt_40 : decode cX9_firstRowAt 40 = .ok (.iload_n 2, 1) := dgX9_firstRowAt_0 (40, (.iload_n 2, 1)) (List.mem_of_getElem? (i := 23) rfl)
theorem dX9_firstRowAt_41 : decode cX9_firstRowAt 41 = .ok (.iconst 1, 1) := dgX9_firstRowAt_0 (41, (.iconst 1, 1)) (List.mem_of_getElem? (i := 24) rfl)
theorem dX9_firstRowAt_42 : decode cX9_firstRowAt 42 = .ok (.iadd, 1) := dgX9_firstRowAt_0 (42, (.iadd, 1)) (List.mem_of_getElem? (i := 25) rfl)
theorem dX9_firstRowAt_43 : decode cX9_firstRowAt 43 = .ok (.istore 6, 2) := dgX9_firstRowAt_0 (43, (.istore 6, 2)) (List.mem_of_getElem? (i := 26) rfl)
theorem dX9_firstRowAt_45 : decode cX9_firstRowAt 45 = .ok (.iload 6, 2) := dgX9_firstRowAt_0 (45, (.iload 6, 2)) (List.mem_of_getElem? (i := 27) rfl)
theorem dX9_firstRowAt_47 : decode cX9_firstRowAt 47 = .ok (.iload 4, 2) := dgX9_firstRowAt_0 (47, (.iload 4, 2)) (List.mem_of_getElem? (i := 28) rfl)
theorem dX9_firstRowAt_49 : decode cX9_firstRowAt 49 = .ok (.if_icmp .gt 23, 3) := dgX9_firstRowAt_0 (49, (.if_icmp .gt 23, 3)) (List.mem_of_getElem? (i := 29) rfl)
theorem dX9_firstRowAt_52 : decode cX9_firstRowAt 52 = .ok (.iload 5, 2) := dgX9_firstRowAt_0 (52, (.iload 5, 2)) (List.mem_of_getElem? (i := 30) rfl)
theorem dX9_firstRowAt_54 : decode cX9_firstRowAt 54 = .ok (.aload_n 0, 1) := dgX9_firstRowAt_0 (54, (.aload_n 0, 1)) (List.mem_of_getElem? (i := 31) rfl)
theorem dX9_firstRowAt_55 : decode cX9_firstRowAt 55 = .ok (.getfield 9, 3) := dgX9_firstRowAt_0 (55, (.getfield 9, 3)) (List.mem_of_getElem? (i := 32) rfl)
theorem dX9_firstRowAt_58 : decode cX9_firstRowAt 58 = .ok (.iload 6, 2) := dgX9_firstRowAt_0 (58, (.iload 6, 2)) (List.mem_of_getElem? (i := 33) rfl)
theorem dX9_firstRowAt_60 : decode cX9_firstRowAt 60 = .ok (.laload, 1) := dgX9_firstRowAt_0 (60, (.laload, 1)) (List.mem_of_getElem? (i := 34) rfl)
theorem dX9_firstRowAt_61 : decode cX9_firstRowAt 61 = .ok (.invokestatic 60, 3) := dgX9_firstRowAt_0 (61, (.invokestatic 60, 3)) (List.mem_of_getElem? (i := 35) rfl)
theorem dX9_firstRowAt_64 : decode cX9_firstRowAt 64 = .ok (.istore 5, 2) := dgX9_firstRowAt_0 (64, (.istore 5, 2)) (List.mem_of_getElem? (i := 36) rfl)
theorem dX9_firstRowAt_66 : decode cX9_firstRowAt 66 = .ok (.iinc 6 1, 3) := dgX9_firstRowAt_0 (66, (.iinc 6 1, 3)) (List.mem_of_getElem? (i := 37) rfl)
theorem dX9_firstRowAt_69 : decode cX9_firstRowAt 69 = .ok (.goto (-24), 3) := dgX9_firstRowAt_0 (69, (.goto (-24), 3)) (List.mem_of_getElem? (i := 38) rfl)
theorem dX9_firstRowAt_72 : decode cX9_firstRowAt 72 = .ok (.iload 5, 2) := dgX9_firstRowAt_0 (72, (.iload 5, 2)) (List.mem_of_getElem? (i := 39) rfl)
theorem dgX9_firstRowAt_1 : ∀ r ∈ ([(74, (.ireturn, 1))] : List (Nat × (Instr × Nat))), decode cX9_firstRowAt r.1 = .ok r.2 := by decide +kernel
theorem dX9_firstRowAt_74 : decode cX9_firstRowAt 74 = .ok (.ireturn, 1) := dgX9_firstRowAt_1 (74, (.ireturn, 1)) (List.mem_of_getElem? (i := 0) rfl)
theorem ml_X9_60 : Cond.methodLink RX9 60 yX9_lowestNext ∈ tblG := tg 1130 (by decide +kernel) (by decide +kernel)
theorem st_X9_lowestNext : Cond.static yX9_lowestNext ∈ tblG := tg 1131 (by decide +kernel) (by decide +kernel)
theorem cd_X9_lowestNext : Cond.code yX9_lowestNext cX9_lowestNext 5 (some .int) ∈ tblG := tg 1132 (by decide +kernel) (by decide +kernel)
theorem gW_X9_lowestNext : GoodIn tblG (wsG yX9_lowestNext cX9_lowestNext 5 (some .int)) := tgi cd_X9_lowestNext
theorem gS_X9_60 : GoodIn tblG (va_wsS RX9 60 yX9_lowestNext (wsG yX9_lowestNext cX9_lowestNext 5 (some .int))) := tgS ml_X9_60 st_X9_lowestNext ini_X9 gW_X9_lowestNext
theorem hs_X9_lowestNext : yX9_lowestNext.cls ≠ "java/lang/invoke/MethodHandle" ∧ yX9_lowestNext.cls ≠ "java/lang/invoke/VarHandle" ∧ (parseMethodDescriptor yX9_lowestNext.desc).map (fun d => d.parameters.length) = some 2 := by decide +kernel
set_option maxHeartbeats 4000000 in
set_option maxRecDepth 100000 in
theorem a_row (l : Launch) (G : g5_G) (a_h a_wk a_go a_l a_g a_b a_s a_p a_w a_bb a_k a_mt : Nat) (sz : Nat) (e_le : Int32) (e_st : Int32) (e_fo : Int32) (e_lc : Int32) (p_c : Int32) (p_f : Int32) (p_l : Int32) (p_h : Int32) (e_wa : Int64) (e_gb : Int64) (f_go : Nat → Int64) (h_p_c : 0 ≤ p_c.toInt ∧ p_c.toInt ≤ 63) (h_p_f : 0 ≤ p_f.toInt ∧ p_f.toInt ≤ 23) (h_p_l : 0 ≤ p_l.toInt ∧ p_l.toInt ≤ 23) (h_p_h : 0 ≤ p_h.toInt ∧ p_h.toInt ≤ 23) : Met l yX9_firstRowAt (wsG yX9_firstRowAt cX9_firstRowAt 7 (some .int)) ({ frames := 2, cells := 0, slots := 0, locals := 46 }) (va_Pc [.ref a_wk, .int p_c, .int p_f, .int p_l, .int p_h] (g5_P G [(a_h, (oc1 e_wa e_le e_st e_fo e_lc a_l a_g a_b a_s a_p a_w e_gb a_bb)), (a_wk, (oc9 a_h a_k a_go a_mt)), (a_go, (arJ G 24 f_go))] sz)) (va_Qi (fun (r : Int32) (u : va_W) => (∃ (o_r : Int32) (o_f : Nat → Int64), (0 ≤ o_r.toInt ∧ o_r.toInt ≤ 63) ∧ (r = o_r) ∧ (u = [(a_h, (oc1 e_wa e_le e_st e_fo e_lc a_l a_g a_b a_s a_p a_w e_gb a_bb)), (a_wk, (oc9 a_h a_k a_go a_mt)), (a_go, (arJ G 24 o_f))]))) (g5_B G (va_A [(a_h, (oc1 e_wa e_le e_st e_fo e_lc a_l a_g a_b a_s a_p a_w e_gb a_bb)), (a_wk, (oc9 a_h a_k a_go a_mt)), (a_go, (arJ G 24 f_go))] sz)) (va_A [(a_h, (oc1 e_wa e_le e_st e_fo e_lc a_l a_g a_b a_s a_p a_w e_gb a_bb)), (a_wk, (oc9 a_h a_k a_go a_mt)), (a_go, (arJ G 24 f_go))] sz)) 0 0 (va_A [(a_h, (oc1 e_wa e_le e_st e_fo e_lc a_l a_g a_b a_s a_p a_w e_gb a_bb)), (a_wk, (oc9 a_h a_k a_go a_mt)), (a_go, (arJ G 24 f_go))] sz) := by
  refine Met.ofW (cc := cX9_firstRowAt) (maxL := 7) (ret := (some .int)) (by decide) rfl ?_
  intro p e s m args below meth c s₁ B hml hv
  obtain ⟨rfl, hsz, hP, hK, hD0, hN, hT⟩ := hv
  have hx := B.exec
  have hb := B.bytes
  have hr := B.returns
  have hts : ∀ w ∈ tblG, w.before _ s = true := fun w h => atoms_spec (ws := (wsG yX9_firstRowAt cX9_firstRowAt 7 (some .int))) B.pre w (List.mem_cons_of_mem _ h)
  have hown : s.vm.findClass RX9 = some m.cls := findClass_of_methodNamed B.named
  have hlocks := B.notSynchronized
  subst hsz
  have hD := hD0.self (sz := s.heap.size)
  generalize hAe : va_A [(a_h, (oc1 e_wa e_le e_st e_fo e_lc a_l a_g a_b a_s a_p a_w e_gb a_bb)), (a_wk, (oc9 a_h a_k a_go a_mt)), (a_go, (arJ G 24 f_go))] s.heap.size = A at hD hT ⊢
  have hA : ∀ q : Nat, s.heap.size ≤ q → A q := fun q h => by rw [← hAe]; exact Or.inr h
  have hS : va_S A s.heap s.heap [] := va_S.rf
  have hP : va_P G.1 vwCl [(a_h, (oc1 e_wa e_le e_st e_fo e_lc a_l a_g a_b a_s a_p a_w e_gb a_bb)), (a_wk, (oc9 a_h a_k a_go a_mt)), (a_go, (arJ G 24 f_go))] s.heap := hP
  have hl := lv_entry ([.ref a_wk, .int p_c, .int p_f, .int p_l, .int p_h]) (n := 7) (Nat.le_of_ble_eq_true rfl)
  rw [lg_entry_eq]
  generalize (lg_sl ([.ref a_wk, .int p_c, .int p_f, .int p_l, .int p_h]) ++ List.replicate (7 - (lg_sl ([.ref a_wk, .int p_c, .int p_f, .int p_l, .int p_h])).length) Slot.unset).toArray = ls at hl ⊢
  have hl : lv_has ls 7 [(0, .ref a_wk), (1, .int p_c), (2, .int p_f), (3, .int p_l), (4, .int p_h)] := hl
  refine lv_iload_n hx hb dX9_firstRowAt_0 rfl (lv_at hl 3 rfl) ?_
  refine lv_iconst (v := 1) hx hb dX9_firstRowAt_1 (by decide) ?_
  refine lv_isub hx hb dX9_firstRowAt_2 ?_
  have t_1 : (p_l - 1).toInt = p_l.toInt - 1 := g5_isub (a := p_l.toInt) (b := 1) (by rfl) (by decide) (by omega) (by omega)
  refine lv_istore (lv' := [(5, .int (p_l - 1)), (0, .ref a_wk), (1, .int p_c), (2, .int p_f), (3, .int p_l), (4, .int p_h)]) hx hb dX9_firstRowAt_3 hl (by decide) rfl (fun ls hl => ?_)
  refine g5_loop (α := (Int32) × (Nat → Int64)) (fun (q : (Int32) × (Nat → Int64)) (ls : Array Slot) (H : Heap) (locs : List Loc) => match q with | (k_e, k_f) => lv_has ls 7 [(5, .int k_e), (0, .ref a_wk), (1, .int p_c), (2, .int p_f), (3, .int p_l), (4, .int p_h)] ∧ va_P G.1 vwCl [(a_h, (oc1 e_wa e_le e_st e_fo e_lc a_l a_g a_b a_s a_p a_w e_gb a_bb)), (a_wk, (oc9 a_h a_k a_go a_mt)), (a_go, (arJ G 24 k_f))] H ∧ va_D A [(a_h, (oc1 e_wa e_le e_st e_fo e_lc a_l a_g a_b a_s a_p a_w e_gb a_bb)), (a_wk, (oc9 a_h a_k a_go a_mt)), (a_go, (arJ G 24 k_f))] ∧ va_S A s.heap H locs ∧ ((-1) ≤ k_e.toInt ∧ k_e.toInt ≤ 22)) (fun (q : (Int32) × (Nat → Int64)) => match q with | (k_e, k_f) => Int.toNat (k_e.toInt + 1)) ((p_l - 1), f_go) ⟨lv_sub hl [0, 1, 2, 3, 4, 5] rfl, hP, hD, hS, ⟨by omega, by omega⟩⟩ ?_
  rintro ⟨k_e, k_f⟩ ls H locs ⟨hl, hP, hD, hS, i_2⟩ ih_5_3
  have hl : lv_has ls 7 [(5, .int k_e), (0, .ref a_wk), (1, .int p_c), (2, .int p_f), (3, .int p_l), (4, .int p_h)] := hl
  have i_2 : (-1) ≤ k_e.toInt ∧ k_e.toInt ≤ 22 := i_2
  refine g5_rs [(a_h, (oc1 e_wa e_le e_st e_fo e_lc a_l a_g a_b a_s a_p a_w e_gb a_bb)), (a_wk, (oc9 a_h a_k a_go a_mt)), (a_go, (arJ G 24 k_f))] hP hD (fun hP hD => ?_)
  refine lv_iload hx hb dX9_firstRowAt_5 (lv_at hl 0 rfl) ?_
  refine lv_iload_n hx hb dX9_firstRowAt_7 rfl (lv_at hl 3 rfl) ?_
  refine lv_icmp_lt (tgt := 37) hx hb dX9_firstRowAt_8 (by decide) (fun c_4 => ?_) (fun c_4 => ?_)
  ·
    have i_4 : k_e.toInt < p_f.toInt := by have z := g5_lt (a := k_e.toInt) (b := p_f.toInt) (by rfl) (by rfl) c_4; omega
    refine lv_iload_n hx hb dX9_firstRowAt_37 rfl (lv_at hl 2 rfl) ?_
    refine lv_istore (lv' := [(5, .int p_c), (0, .ref a_wk), (1, .int p_c), (2, .int p_f), (3, .int p_l), (4, .int p_h)]) hx hb dX9_firstRowAt_38 hl (by decide) rfl (fun ls hl => ?_)
    refine lv_iload_n hx hb dX9_firstRowAt_40 rfl (lv_at hl 3 rfl) ?_
    refine lv_iconst (v := 1) hx hb dX9_firstRowAt_41 (by decide) ?_
    refine lv_iadd hx hb dX9_firstRowAt_42 ?_
    have t_5 : (p_f + 1).toInt = p_f.toInt + 1 := g5_iadd (a := p_f.toInt) (b := 1) (by rfl) (by decide) (by omega) (by omega)
    refine lv_istore (lv' := [(6, .int (p_f + 1)), (5, .int p_c), (0, .ref a_wk), (1, .int p_c), (2, .int p_f), (3, .int p_l), (4, .int p_h)]) hx hb dX9_firstRowAt_43 hl (by decide) rfl (fun ls hl => ?_)
    refine g5_loop (α := (Int32) × (Int32)) (fun (q : (Int32) × (Int32)) (ls : Array Slot) (H : Heap) (locs : List Loc) => match q with | (m_a, m_h) => lv_has ls 7 [(5, .int m_a), (6, .int m_h), (0, .ref a_wk), (1, .int p_c), (2, .int p_f), (3, .int p_l), (4, .int p_h)] ∧ va_P G.1 vwCl [(a_h, (oc1 e_wa e_le e_st e_fo e_lc a_l a_g a_b a_s a_p a_w e_gb a_bb)), (a_wk, (oc9 a_h a_k a_go a_mt)), (a_go, (arJ G 24 k_f))] H ∧ va_D A [(a_h, (oc1 e_wa e_le e_st e_fo e_lc a_l a_g a_b a_s a_p a_w e_gb a_bb)), (a_wk, (oc9 a_h a_k a_go a_mt)), (a_go, (arJ G 24 k_f))] ∧ va_S A s.heap H locs ∧ (0 ≤ m_a.toInt ∧ m_a.toInt ≤ 63) ∧ (1 ≤ m_h.toInt ∧ m_h.toInt ≤ 24)) (fun (q : (Int32) × (Int32)) => match q with | (m_a, m_h) => Int.toNat (24 - m_h.toInt)) (p_c, (p_f + 1)) ⟨lv_sub hl [1, 0, 2, 3, 4, 5, 6] rfl, hP, hD, hS, h_p_c, ⟨by omega, by omega⟩⟩ ?_
    rintro ⟨m_a, m_h⟩ ls H locs ⟨hl, hP, hD, hS, i_6, i_7⟩ ih_45_8
    have hl : lv_has ls 7 [(5, .int m_a), (6, .int m_h), (0, .ref a_wk), (1, .int p_c), (2, .int p_f), (3, .int p_l), (4, .int p_h)] := hl
    have i_6 : 0 ≤ m_a.toInt ∧ m_a.toInt ≤ 63 := i_6
    have i_7 : 1 ≤ m_h.toInt ∧ m_h.toInt ≤ 24 := i_7
    refine g5_rs [(a_h, (oc1 e_wa e_le e_st e_fo e_lc a_l a_g a_b a_s a_p a_w e_gb a_bb)), (a_wk, (oc9 a_h a_k a_go a_mt)), (a_go, (arJ G 24 k_f))] hP hD (fun hP hD => ?_)
    refine lv_iload hx hb dX9_firstRowAt_45 (lv_at hl 1 rfl) ?_
    refine lv_iload hx hb dX9_firstRowAt_47 (lv_at hl 6 rfl) ?_
    refine lv_icmp_gt (tgt := 72) hx hb dX9_firstRowAt_49 (by decide) (fun c_9 => ?_) (fun c_9 => ?_)
    ·
      have i_9 : m_h.toInt > p_h.toInt := by have z := g5_gt (a := m_h.toInt) (b := p_h.toInt) (by rfl) (by rfl) c_9; omega
      refine lv_iload hx hb dX9_firstRowAt_72 (lv_at hl 0 rfl) ?_
      exact W.iret (v := m_a) hx hb hr (fun t ht hW => ⟨⟨m_a, [(a_h, (oc1 e_wa e_le e_st e_fo e_lc a_l a_g a_b a_s a_p a_w e_gb a_bb)), (a_wk, (oc9 a_h a_k a_go a_mt)), (a_go, (arJ G 24 k_f))], rfl, ⟨m_a, k_f, i_6, rfl, rfl⟩, by rw [ht]; exact hP.sub [0, 1, 2] rfl, hD.sub [0, 1, 2] (by decide) rfl⟩, hS.F ht⟩) hS.2.2 dX9_firstRowAt_74
    ·
      have i_9 : m_h.toInt ≤ p_h.toInt := by have z := g5_gtN (a := m_h.toInt) (b := p_h.toInt) (by rfl) (by rfl) c_9; omega
      refine lv_iload hx hb dX9_firstRowAt_52 (lv_at hl 0 rfl) ?_
      refine lv_aload_n hx hb dX9_firstRowAt_54 rfl (lv_at hl 2 rfl) ?_
      refine va_get (D := G.1) (ci := 9) (v := .ref a_go) (C := RX9) (T := TX9) (N := 4) hx hb hts inG_X9 hown hK hP 1 rfl rfl 2 (by decide) (hts _ fl_X9_9) (fun _ h9 => h9) rfl dX9_firstRowAt_55 ?_
      refine lv_iload hx hb dX9_firstRowAt_58 (lv_at hl 1 rfl) ?_
      refine va_lald hx hb hK hP 2 1 rfl rfl (i := m_h) (vp_in_iff.mpr ⟨by omega, by omega⟩) dX9_firstRowAt_60 ?_
      obtain ⟨hPc, hDc, hFc⟩ := g5_sub3 (wc := []) hP hD hS hA [] (by decide) rfl
      refine va_calli (va_runS (As := [.int m_a, .long (k_f m_h.toNatClampNeg)]) (rest := []) ⟨hx, hb, hml, hown, hts⟩ (a_next l G H.size m_a (k_f m_h.toNatClampNeg) i_6) (va_cwS 2 hts gS_X9_60 rfl rfl rfl hs_X9_lowestNext ⟨Nat.le_of_ble_eq_true rfl, Nat.le_of_ble_eq_true rfl⟩) (g5_preS hPc hK hDc hN hT hS hFc) rfl rfl hl.1 rfl (lv_room (Nat.le_of_ble_eq_true rfl)) dX9_firstRowAt_61 ⟨Nat.le_of_ble_eq_true rfl, Nat.le_of_ble_eq_true rfl⟩) hS (fun q _ h => hFc q h) hFc (fun r u t H1 locs ht hvm hw hB hz1 hk1 hS => ?_)
      obtain ⟨hP1, hD1⟩ := hB
      rw [ht] at hP1
      obtain ⟨z11, i_10, y12, rfl⟩ := hw
      have i_10 : 0 ≤ z11.toInt ∧ z11.toInt ≤ 63 := i_10
      have hP := g5_same hP hk1
      generalize H1 = H at hP hS ⊢
      refine g5_ti (v := z11) y12 ?_
      refine lv_istore (lv' := [(5, .int z11), (6, .int m_h), (0, .ref a_wk), (1, .int p_c), (2, .int p_f), (3, .int p_l), (4, .int p_h)]) hx hb dX9_firstRowAt_64 hl (by decide) rfl (fun ls hl => ?_)
      refine lv_iinc (v := (m_h + 1)) (lv' := [(6, .int (m_h + 1)), (5, .int z11), (0, .ref a_wk), (1, .int p_c), (2, .int p_f), (3, .int p_l), (4, .int p_h)]) hx hb dX9_firstRowAt_66 hl (k := 1) rfl rfl (by decide) rfl (fun ls hl => ?_)
      have t_13 : (m_h + 1).toInt = m_h.toInt + 1 := g5_iadd (a := m_h.toInt) (b := 1) rfl (by decide) (by omega) (by omega)
      refine lv_goto (tgt := 45) hx hb dX9_firstRowAt_69 (by decide) ?_
      exact ih_45_8 (z11, (m_h + 1)) ls H locs (show Int.toNat (24 - (m_h + 1).toInt) < Int.toNat (24 - m_h.toInt) from g_up (show m_h.toInt < (m_h + 1).toInt by omega) (show m_h.toInt < 24 by omega)) ⟨lv_sub hl [1, 0, 2, 3, 4, 5, 6] rfl, hP, hD, hS, i_10, ⟨by omega, by omega⟩⟩
  ·
    have i_4 : k_e.toInt ≥ p_f.toInt := by have z := g5_ltN (a := k_e.toInt) (b := p_f.toInt) (by rfl) (by rfl) c_4; omega
    refine lv_aload_n hx hb dX9_firstRowAt_11 rfl (lv_at hl 1 rfl) ?_
    refine va_get (D := G.1) (ci := 9) (v := .ref a_go) (C := RX9) (T := TX9) (N := 4) hx hb hts inG_X9 hown hK hP 1 rfl rfl 2 (by decide) (hts _ fl_X9_9) (fun _ h9 => h9) rfl dX9_firstRowAt_12 ?_
    refine lv_iload hx hb dX9_firstRowAt_15 (lv_at hl 0 rfl) ?_
    refine lv_aload_n hx hb dX9_firstRowAt_17 rfl (lv_at hl 1 rfl) ?_
    refine lv_aload_n hx hb dX9_firstRowAt_18 rfl (lv_at hl 1 rfl) ?_
    refine va_get (D := G.1) (ci := 9) (v := .ref a_go) (C := RX9) (T := TX9) (N := 4) hx hb hts inG_X9 hown hK hP 1 rfl rfl 2 (by decide) (hts _ fl_X9_9) (fun _ h9 => h9) rfl dX9_firstRowAt_19 ?_
    refine lv_iload hx hb dX9_firstRowAt_22 (lv_at hl 0 rfl) ?_
    refine lv_iconst (v := 1) hx hb dX9_firstRowAt_24 (by decide) ?_
    refine lv_iadd hx hb dX9_firstRowAt_25 ?_
    have t_14 : (k_e + 1).toInt = k_e.toInt + 1 := g5_iadd (a := k_e.toInt) (b := 1) (by rfl) (by decide) (by omega) (by omega)
    refine va_lald hx hb hK hP 2 1 rfl rfl (i := (k_e + 1)) (vp_in_iff.mpr ⟨by omega, by omega⟩) dX9_firstRowAt_26 ?_
    obtain ⟨hPc, hDc, hFc⟩ := g5_sub3 (wc := [(a_h, (oc1 e_wa e_le e_st e_fo e_lc a_l a_g a_b a_s a_p a_w e_gb a_bb)), (a_wk, (oc9 a_h a_k a_go a_mt))]) hP hD hS hA [0, 1] (by decide) rfl
    refine va_calll (va_runV (As := [.long (k_f (k_e + 1).toNatClampNeg)]) (rest := [.int k_e, .ref a_go]) ⟨hx, hb, hml, hown, hts⟩ (a_spread l G a_h a_wk a_l a_g a_b a_s a_p a_w a_bb a_k a_go a_mt H.size e_le e_st e_fo e_lc e_wa e_gb (k_f (k_e + 1).toNatClampNeg)) (cwV 1 hts gV_X9_56 rfl rfl rfl hv_X9_spread ⟨Nat.le_of_ble_eq_true rfl, Nat.le_of_ble_eq_true rfl⟩) (g5_preV hPc hK hDc hN hT hS hFc (ci := 9) (q0 := 1) rfl rfl) rfl rfl hl.1 rfl (lv_room (Nat.le_of_ble_eq_true rfl)) dX9_firstRowAt_27 ⟨Nat.le_of_ble_eq_true rfl, Nat.le_of_ble_eq_true rfl⟩) hS (fun q _ h => hFc q h) hFc (fun r u t H1 locs ht hvm hw hB hz1 hk1 hS => ?_)
    obtain ⟨hP1, hD1⟩ := hB
    rw [ht] at hP1
    obtain ⟨z15, y16, rfl⟩ := hw
    obtain ⟨hP, hD⟩ := va_join (wr := [(a_go, (arJ G 24 k_f))]) hP hD [0, 1] [2] rfl rfl (by decide) (by decide) hk1 hFc hP1 hD1
    generalize H1 = H at hP hS ⊢
    refine g5_rs [(a_go, (arJ G 24 k_f)), (a_h, (oc1 e_wa e_le e_st e_fo e_lc a_l a_g a_b a_s a_p a_w e_gb a_bb)), (a_wk, (oc9 a_h a_k a_go a_mt))] hP hD (fun hP hD => ?_)
    refine g5_tl (v := z15) y16 ?_
    refine va_last hx hb hK hP hD hS 0 1 rfl rfl (i := k_e) (x := z15) (vp_in_iff.mpr ⟨by omega, by omega⟩) dX9_firstRowAt_30 (fun H locs hP hD hS => ?_)
    refine g5_rs [(a_go, (arJ G 24 (vp_updL k_f k_e.toNatClampNeg z15))), (a_h, (oc1 e_wa e_le e_st e_fo e_lc a_l a_g a_b a_s a_p a_w e_gb a_bb)), (a_wk, (oc9 a_h a_k a_go a_mt))] hP hD (fun hP hD => ?_)
    obtain ⟨y17, hy_17, t_17⟩ := g_incN k_e (-1) (by decide) (by omega) (by omega)
    have t_17 : y17.toInt = k_e.toInt + (-1) := t_17
    refine lv_iinc (v := y17) (lv' := [(5, .int y17), (0, .ref a_wk), (1, .int p_c), (2, .int p_f), (3, .int p_l), (4, .int p_h)]) hx hb dX9_firstRowAt_31 hl (k := 0) rfl hy_17 (by decide) rfl (fun ls hl => ?_)
    refine lv_goto (tgt := 5) hx hb dX9_firstRowAt_34 (by decide) ?_
    exact ih_5_3 (y17, (vp_updL k_f k_e.toNatClampNeg z15)) ls H locs (show Int.toNat (y17.toInt + 1) < Int.toNat (k_e.toInt + 1) from g_dn (show y17.toInt < k_e.toInt by omega) (show 0 ≤ k_e.toInt by omega)) ⟨lv_sub hl [0, 1, 2, 3, 4, 5] rfl, hP.sub [1, 2, 0] rfl, hD.sub [1, 2, 0] (by decide) rfl, hS, ⟨by omega, by omega⟩⟩
theorem dgJ7_fill_53178_0 : ∀ r ∈ ([(0, (.iconst 0, 1)), (1, (.istore_n 2, 1)), (2, (.aload_n 0, 1)), (3, (.arraylength, 1)), (4, (.istore_n 3, 1)), (5, (.iload_n 2, 1)), (6, (.iload_n 3, 1)), (7, (.if_icmp .ge 13, 3)), (10, (.aload_n 0, 1)), (11, (.iload_n 2, 1)), (12, (.iload_n 1, 1)), (13, (.iastore, 1)), (14, (.iinc 2 1, 3)), (17, (.goto (-12), 3)), (20, (.return_, 1))] : List (Nat × (Instr × Nat))), decode cJ7_fill_53178 r.1 = .ok r.2 := by decide +kernel
theorem dJ7_fill_53178_0 : decode cJ7_fill_53178 0 = .ok (.iconst 0, 1) := dgJ7_fill_53178_0 (0, (.iconst 0, 1)) (List.mem_of_getElem? (i := 0) rfl)
theorem dJ7_fill_53178_1 : decode cJ7_fill_53178 1 = .ok (.istore_n 2, 1) := dgJ7_fill_53178_0 (1, (.istore_n 2, 1)) (List.mem_of_getElem? (i := 1) rfl)
theorem dJ7_fill_53178_2 : decode cJ7_fill_53178 2 = .ok (.aload_n 0, 1) := dgJ7_fill_53178_0 (2, (.aload_n 0, 1)) (List.mem_of_getElem? (i := 2) rfl)
theorem dJ7_fill_53178_3 : decode cJ7_fill_53178 3 = .ok (.arraylength, 1) := dgJ7_fill_53178_0 (3, (.arraylength, 1)) (List.mem_of_getElem? (i := 3) rfl)
theorem dJ7_fill_53178_4 : decode cJ7_fill_53178 4 = .ok (.istore_n 3, 1) := dgJ7_fill_53178_0 (4, (.istore_n 3, 1)) (List.mem_of_getElem? (i := 4) rfl)
theorem dJ7_fill_53178_5 : decode cJ7_fill_53178 5 = .ok (.iload_n 2, 1) := dgJ7_fill_53178_0 (5, (.iload_n 2, 1)) (List.mem_of_getElem? (i := 5) rfl)
theorem dJ7_fill_53178_6 : decode cJ7_fill_53178 6 = .ok (.iload_n 3, 1) := dgJ7_fill_53178_0 (6, (.iload_n 3, 1)) (List.mem_of_getElem? (i := 6) rfl)
theorem dJ7_fill_53178_7 : decode cJ7_fill_53178 7 = .ok (.if_icmp .ge 13, 3) := dgJ7_fill_53178_0 (7, (.if_icmp .ge 13, 3)) (List.mem_of_getElem? (i := 7) rfl)
theorem dJ7_fill_53178_10 : decode cJ7_fill_53178 10 = .ok (.aload_n 0, 1) := dgJ7_fill_53178_0 (10, (.aload_n 0, 1)) (List.mem_of_getElem? (i := 8) rfl)
theorem dJ7_fill_53178_11 : decode cJ7_fill_53178 11 = .ok (.iload_n 2, 1) := dgJ7_fill_53178_0 (11, (.iload_n 2, 1)) (List.mem_of_getElem? (i := 9) rfl)
theorem dJ7_fill_53178_12 : decode cJ7_fill_53178 12 = .ok (.iload_n 1, 1) := dgJ7_fill_53178_0 (12, (.iload_n 1, 1)) (List.mem_of_getElem? (i := 10) rfl)
theorem dJ7_fill_53178_13 : decode cJ7_fill_53178 13 = .ok (.iastore, 1) := dgJ7_fill_53178_0 (13, (.iastore, 1)) (List.mem_of_getElem? (i := 11) rfl)
theorem dJ7_fill_53178_14 : decode cJ7_fill_53178 14 = .ok (.iinc 2 1, 3) := dgJ7_fill_53178_0 (14, (.iinc 2 1, 3)) (List.mem_of_getElem? (i := 12) rfl)
theorem dJ7_fill_53178_17 : decode cJ7_fill_53178 17 = .ok (.goto (-12), 3) := dgJ7_fill_53178_0 (17, (.goto (-12), 3)) (List.mem_of_getElem? (i := 13) rfl)
theorem dJ7_fill_53178_20 : decode cJ7_fill_53178 20 = .ok (.return_, 1) := dgJ7_fill_53178_0 (20, (.return_, 1)) (List.mem_of_getElem? (i := 14) rfl)
set_option maxHeartbeats 4000000 in
set_option maxRecDepth 100000 in
theorem k_fillI1536 (l : Launch) (G : g5_G) (a_0 : Nat) (sz : Nat) (p_v : Int32) (f_a : Nat → Int32) : Met l yJ7_fill_53178 (wsG yJ7_fill_53178 cJ7_fill_53178 4 none) ({ frames := 0, cells := 0, slots := 0, locals := 0 }) (va_Pc [.ref a_0, .int p_v] (g5_P G [(a_0, (arI G 1536 f_a))] sz)) (va_Qv (fun (u : va_W) => ((u = [(a_0, (arI G 1536 (fun _ => p_v)))]))) (g5_B G (va_A [(a_0, (arI G 1536 f_a))] sz)) (va_A [(a_0, (arI G 1536 f_a))] sz)) 0 0 (va_A [(a_0, (arI G 1536 f_a))] sz) := by
  refine Met.ofW (cc := cJ7_fill_53178) (maxL := 4) (ret := none) (by decide) rfl ?_
  intro p e s m args below meth c s₁ B hml hv
  obtain ⟨rfl, hsz, hP, hK, hD0, hN, hT⟩ := hv
  have hx := B.exec
  have hb := B.bytes
  have hr := B.returns
  have hts : ∀ w ∈ tblG, w.before _ s = true := fun w h => atoms_spec (ws := (wsG yJ7_fill_53178 cJ7_fill_53178 4 none)) B.pre w (List.mem_cons_of_mem _ h)
  have hown : s.vm.findClass RJ7 = some m.cls := findClass_of_methodNamed B.named
  have hlocks := B.notSynchronized
  subst hsz
  have hD := hD0.self (sz := s.heap.size)
  generalize hAe : va_A [(a_0, (arI G 1536 f_a))] s.heap.size = A at hD hT ⊢
  have hA : ∀ q : Nat, s.heap.size ≤ q → A q := fun q h => by rw [← hAe]; exact Or.inr h
  have hS : va_S A s.heap s.heap [] := va_S.rf
  have hP : va_P G.1 vwCl [(a_0, (arI G 1536 f_a))] s.heap := hP
  have hl := lv_entry ([.ref a_0, .int p_v]) (n := 4) (Nat.le_of_ble_eq_true rfl)
  rw [lg_entry_eq]
  generalize (lg_sl ([.ref a_0, .int p_v]) ++ List.replicate (4 - (lg_sl ([.ref a_0, .int p_v])).length) Slot.unset).toArray = ls at hl ⊢
  have hl : lv_has ls 4 [(0, .ref a_0), (1, .int p_v)] := hl
  refine lv_iconst (v := 0) hx hb dJ7_fill_53178_0 (by decide) ?_
  refine lv_istore_n (lv' := [(2, .int 0), (0, .ref a_0), (1, .int p_v)]) hx hb dJ7_fill_53178_1 rfl hl (by decide) rfl (fun ls hl => ?_)
  refine lv_aload_n hx hb dJ7_fill_53178_2 rfl (lv_at hl 1 rfl) ?_
  refine va_alen hx hb hK hP 0 0 rfl rfl (v := 1536) (by show Int32.ofNat 1536 = 1536; decide) dJ7_fill_53178_3 ?_
  refine lv_istore_n (lv' := [(3, .int 1536), (2, .int 0), (0, .ref a_0), (1, .int p_v)]) hx hb dJ7_fill_53178_4 rfl hl (by decide) rfl (fun ls hl => ?_)
  refine g5_loop (α := (Int32) × (Nat → Int32)) (fun (q : (Int32) × (Nat → Int32)) (ls : Array Slot) (H : Heap) (locs : List Loc) => match q with | (k_i, k_f) => lv_has ls 4 [(2, .int k_i), (3, .int 1536), (0, .ref a_0), (1, .int p_v)] ∧ va_P G.1 vwCl [(a_0, (arI G 1536 k_f))] H ∧ va_D A [(a_0, (arI G 1536 k_f))] ∧ va_S A s.heap H locs ∧ (0 ≤ k_i.toInt ∧ k_i.toInt ≤ 1536) ∧ (∀ j : Nat, (j : Int) < k_i.toInt → k_f j = (fun _ => p_v) j)) (fun (q : (Int32) × (Nat → Int32)) => match q with | (k_i, k_f) => Int.toNat (1536 - k_i.toInt)) (0, f_a) ⟨lv_sub hl [1, 0, 2, 3] rfl, hP, hD, hS, ⟨by decide, by decide⟩, fun j h => absurd h (by have z : (0 : Int32).toInt = 0 := (by decide); omega)⟩ ?_
  rintro ⟨k_i, k_f⟩ ls H locs ⟨hl, hP, hD, hS, i_1, i_2⟩ ih_5_3
  have hl : lv_has ls 4 [(2, .int k_i), (3, .int 1536), (0, .ref a_0), (1, .int p_v)] := hl
  have i_1 : 0 ≤ k_i.toInt ∧ k_i.toInt ≤ 1536 := i_1
  have i_2 : ∀ j : Nat, (j : Int) < k_i.toInt → k_f j = (fun _ => p_v) j := i_2
  refine g5_rs [(a_0, (arI G 1536 k_f))] hP hD (fun hP hD => ?_)
  refine lv_iload_n hx hb dJ7_fill_53178_5 rfl (lv_at hl 0 rfl) ?_
  refine lv_iload_n hx hb dJ7_fill_53178_6 rfl (lv_at hl 1 rfl) ?_
  refine lv_icmp_ge (tgt := 20) hx hb dJ7_fill_53178_7 (by decide) (fun c_4 => ?_) (fun c_4 => ?_)
  ·
    have i_4 : k_i.toInt ≥ 1536 := by have z := g5_ge (a := k_i.toInt) (b := 1536) (by rfl) (by decide) c_4; omega
    obtain ⟨hP, hD⟩ := g5_cvI hP hD 0 (f := k_f) (g := (fun _ => p_v)) rfl (fun j h => i_2 j (by omega))
    refine g5_rs [(a_0, (arI G 1536 (fun _ => p_v)))] hP hD (fun hP hD => ?_)
    exact W.vret hx hb hr (fun t ht hW => ⟨⟨[(a_0, (arI G 1536 (fun _ => p_v)))], rfl, rfl, by rw [ht]; exact hP.sub [0] rfl, hD.sub [0] (by decide) rfl⟩, hS.F ht⟩) hS.2.2 dJ7_fill_53178_20
  ·
    have i_4 : k_i.toInt < 1536 := by have z := g5_geN (a := k_i.toInt) (b := 1536) (by rfl) (by decide) c_4; omega
    refine lv_aload_n hx hb dJ7_fill_53178_10 rfl (lv_at hl 2 rfl) ?_
    refine lv_iload_n hx hb dJ7_fill_53178_11 rfl (lv_at hl 0 rfl) ?_
    refine lv_iload_n hx hb dJ7_fill_53178_12 rfl (lv_at hl 3 rfl) ?_
    refine va_iast hx hb hK hP hD hS 0 0 rfl rfl (i := k_i) (x := p_v) (vp_in_iff.mpr ⟨by omega, by omega⟩) dJ7_fill_53178_13 (fun H locs hP hD hS => ?_)
    refine g5_rs [(a_0, (arI G 1536 (upd k_f k_i.toNatClampNeg p_v)))] hP hD (fun hP hD => ?_)
    refine lv_iinc (v := (k_i + 1)) (lv' := [(2, .int (k_i + 1)), (3, .int 1536), (0, .ref a_0), (1, .int p_v)]) hx hb dJ7_fill_53178_14 hl (k := 0) rfl rfl (by decide) rfl (fun ls hl => ?_)
    have t_5 : (k_i + 1).toInt = k_i.toInt + 1 := g5_iadd (a := k_i.toInt) (b := 1) rfl (by decide) (by omega) (by omega)
    refine lv_goto (tgt := 5) hx hb dJ7_fill_53178_17 (by decide) ?_
    exact ih_5_3 ((k_i + 1), (upd k_f k_i.toNatClampNeg p_v)) ls H locs (show Int.toNat (1536 - (k_i + 1).toInt) < Int.toNat (1536 - k_i.toInt) from g_up (show k_i.toInt < (k_i + 1).toInt by omega) (show k_i.toInt < 1536 by omega)) ⟨lv_sub hl [0, 1, 2, 3] rfl, hP, hD, hS, ⟨by omega, by omega⟩, g5_fillI i_2 (by omega) (by omega) rfl⟩
set_option maxHeartbeats 4000000 in
set_option maxRecDepth 100000 in
theorem k_fillJ2048 (l : Launch) (G : g5_G) (a_0 : Nat) (sz : Nat) (p_v : Int64) (f_a : Nat → Int64) : Met l yJ7_fill_d0a16 (wsG yJ7_fill_d0a16 cJ7_fill_d0a16 5 none) ({ frames := 0, cells := 0, slots := 0, locals := 0 }) (va_Pc [.ref a_0, .long p_v] (g5_P G [(a_0, (arJ G 2048 f_a))] sz)) (va_Qv (fun (u : va_W) => ((u = [(a_0, (arJ G 2048 (fun _ => p_v)))]))) (g5_B G (va_A [(a_0, (arJ G 2048 f_a))] sz)) (va_A [(a_0, (arJ G 2048 f_a))] sz)) 0 0 (va_A [(a_0, (arJ G 2048 f_a))] sz) := by
  refine Met.ofW (cc := cJ7_fill_d0a16) (maxL := 5) (ret := none) (by decide) rfl ?_
  intro p e s m args below meth c s₁ B hml hv
  obtain ⟨rfl, hsz, hP, hK, hD0, hN, hT⟩ := hv
  have hx := B.exec
  have hb := B.bytes
  have hr := B.returns
  have hts : ∀ w ∈ tblG, w.before _ s = true := fun w h => atoms_spec (ws := (wsG yJ7_fill_d0a16 cJ7_fill_d0a16 5 none)) B.pre w (List.mem_cons_of_mem _ h)
  have hown : s.vm.findClass RJ7 = some m.cls := findClass_of_methodNamed B.named
  have hlocks := B.notSynchronized
  subst hsz
  have hD := hD0.self (sz := s.heap.size)
  generalize hAe : va_A [(a_0, (arJ G 2048 f_a))] s.heap.size = A at hD hT ⊢
  have hA : ∀ q : Nat, s.heap.size ≤ q → A q := fun q h => by rw [← hAe]; exact Or.inr h
  have hS : va_S A s.heap s.heap [] := va_S.rf
  have hP : va_P G.1 vwCl [(a_0, (arJ G 2048 f_a))] s.heap := hP
  have hl := lv_entry ([.ref a_0, .long p_v]) (n := 5) (Nat.le_of_ble_eq_true rfl)
  rw [lg_entry_eq]
  generalize (lg_sl ([.ref a_0, .long p_v]) ++ List.replicate (5 - (lg_sl ([.ref a_0, .long p_v])).length) Slot.unset).toArray = ls at hl ⊢
  have hl : lv_has ls 5 [(0, .ref a_0), (1, .long p_v)] := hl
  refine lv_iconst (v := 0) hx hb dJ7_fill_d0a16_0 (by decide) ?_
  refine lv_istore_n (lv' := [(3, .int 0), (0, .ref a_0), (1, .long p_v)]) hx hb dJ7_fill_d0a16_1 rfl hl (by decide) rfl (fun ls hl => ?_)
  refine lv_aload_n hx hb dJ7_fill_d0a16_2 rfl (lv_at hl 1 rfl) ?_
  refine va_alen hx hb hK hP 0 1 rfl rfl (v := 2048) (by show Int32.ofNat 2048 = 2048; decide) dJ7_fill_d0a16_3 ?_
  refine lv_istore (lv' := [(4, .int 2048), (3, .int 0), (0, .ref a_0), (1, .long p_v)]) hx hb dJ7_fill_d0a16_4 hl (by decide) rfl (fun ls hl => ?_)
  refine g5_loop (α := (Int32) × (Nat → Int64)) (fun (q : (Int32) × (Nat → Int64)) (ls : Array Slot) (H : Heap) (locs : List Loc) => match q with | (k_i, k_f) => lv_has ls 5 [(3, .int k_i), (4, .int 2048), (0, .ref a_0), (1, .long p_v)] ∧ va_P G.1 vwCl [(a_0, (arJ G 2048 k_f))] H ∧ va_D A [(a_0, (arJ G 2048 k_f))] ∧ va_S A s.heap H locs ∧ (0 ≤ k_i.toInt ∧ k_i.toInt ≤ 2048) ∧ (∀ j : Nat, (j : Int) < k_i.toInt → k_f j = (fun _ => p_v) j)) (fun (q : (Int32) × (Nat → Int64)) => match q with | (k_i, k_f) => Int.toNat (2048 - k_i.toInt)) (0, f_a) ⟨lv_sub hl [1, 0, 2, 3] rfl, hP, hD, hS, ⟨by decide, by decide⟩, fun j h => absurd h (by have z : (0 : Int32).toInt = 0 := (by decide); omega)⟩ ?_
  rintro ⟨k_i, k_f⟩ ls H locs ⟨hl, hP, hD, hS, i_1, i_2⟩ ih_6_3
  have hl : lv_has ls 5 [(3, .int k_i), (4, .int 2048), (0, .ref a_0), (1, .long p_v)] := hl
  have i_1 : 0 ≤ k_i.toInt ∧ k_i.toInt ≤ 2048 := i_1
  have i_2 : ∀ j : Nat, (j : Int) < k_i.toInt → k_f j = (fun _ => p_v) j := i_2
  refine g5_rs [(a_0, (arJ G 2048 k_f))] hP hD (fun hP hD => ?_)
  refine lv_iload_n hx hb dJ7_fill_d0a16_6 rfl (lv_at hl 0 rfl) ?_
  refine lv_iload hx hb dJ7_fill_d0a16_7 (lv_at hl 1 rfl) ?_
  refine lv_icmp_ge (tgt := 22) hx hb dJ7_fill_d0a16_9 (by decide) (fun c_4 => ?_) (fun c_4 => ?_)
  ·
    have i_4 : k_i.toInt ≥ 2048 := by have z := g5_ge (a := k_i.toInt) (b := 2048) (by rfl) (by decide) c_4; omega
    obtain ⟨hP, hD⟩ := g5_cvJ hP hD 0 (f := k_f) (g := (fun _ => p_v)) rfl (fun j h => i_2 j (by omega))
    refine g5_rs [(a_0, (arJ G 2048 (fun _ => p_v)))] hP hD (fun hP hD => ?_)
    exact W.vret hx hb hr (fun t ht hW => ⟨⟨[(a_0, (arJ G 2048 (fun _ => p_v)))], rfl, rfl, by rw [ht]; exact hP.sub [0] rfl, hD.sub [0] (by decide) rfl⟩, hS.F ht⟩) hS.2.2 dJ7_fill_d0a16_22
  ·
    have i_4 : k_i.toInt < 2048 := by have z := g5_geN (a := k_i.toInt) (b := 2048) (by rfl) (by decide) c_4; omega
    refine lv_aload_n hx hb dJ7_fill_d0a16_12 rfl (lv_at hl 2 rfl) ?_
    refine lv_iload_n hx hb dJ7_fill_d0a16_13 rfl (lv_at hl 0 rfl) ?_
    refine lv_lload_n hx hb dJ7_fill_d0a16_14 rfl (lv_at hl 3 rfl) ?_
    refine va_last hx hb hK hP hD hS 0 1 rfl rfl (i := k_i) (x := p_v) (vp_in_iff.mpr ⟨by omega, by omega⟩) dJ7_fill_d0a16_15 (fun H locs hP hD hS => ?_)
    refine g5_rs [(a_0, (arJ G 2048 (vp_updL k_f k_i.toNatClampNeg p_v)))] hP hD (fun hP hD => ?_)
    refine lv_iinc (v := (k_i + 1)) (lv' := [(3, .int (k_i + 1)), (4, .int 2048), (0, .ref a_0), (1, .long p_v)]) hx hb dJ7_fill_d0a16_16 hl (k := 0) rfl rfl (by decide) rfl (fun ls hl => ?_)
    have t_5 : (k_i + 1).toInt = k_i.toInt + 1 := g5_iadd (a := k_i.toInt) (b := 1) rfl (by decide) (by omega) (by omega)
    refine lv_goto (tgt := 6) hx hb dJ7_fill_d0a16_19 (by decide) ?_
    exact ih_6_3 ((k_i + 1), (vp_updL k_f k_i.toNatClampNeg p_v)) ls H locs (show Int.toNat (2048 - (k_i + 1).toInt) < Int.toNat (2048 - k_i.toInt) from g_up (show k_i.toInt < (k_i + 1).toInt by omega) (show k_i.toInt < 2048 by omega)) ⟨lv_sub hl [0, 1, 2, 3] rfl, hP, hD, hS, ⟨by omega, by omega⟩, g5_fillJ i_2 (by omega) (by omega) rfl⟩
theorem dgX7_load_0 : ∀ r ∈ ([(0, (.aload_n 0, 1)), (1, (.getfield 9, 3)), (4, (.aload_n 0, 1)), (5, (.getfield 34, 3)), (8, (.getfield 54, 3)), (11, (.invokestatic 58, 3)), (14, (.aload_n 0, 1)), (15, (.getfield 15, 3)), (18, (.iconst 0, 1)), (19, (.invokestatic 64, 3)), (22, (.aload_n 0, 1)), (23, (.getfield 34, 3)), (26, (.getfield 67, 3)), (29, (.iconst (-1), 1)), (30, (.if_icmp .eq 25, 3)), (33, (.aload_n 0, 1)), (34, (.getfield 9, 3)), (37, (.iconst 0, 1)), (38, (.dup2, 1)), (39, (.laload, 1)), (40, (.lconst 1, 1)), (41, (.aload_n 0, 1)), (42, (.getfield 34, 3)), (45, (.getfield 67, 3)), (48, (.lshl, 1)), (49, (.ldc2_w 70, 3)), (52, (.lxor, 1)), (53, (.lor, 1)), (54, (.lastore, 1)), (55, (.iconst 1, 1)), (56, (.istore_n 2, 1)), (57, (.aload_n 0, 1)), (58, (.getfield 34, 3)), (61, (.getfield 42, 3)), (64, (.astore_n 3, 1)), (65, (.iconst 0, 1)), (66, (.istore 4, 2)), (68, (.iload 4, 2)), (70, (.aload_n 3, 1)), (71, (.getfield 48, 3))] : List (Nat × (Instr × Nat))), decode cX7_load r.1 = .ok r.2 := by decide +kernel
theorem dX7_load_0 : decode cX7_load 0 = .ok (.aload_n 0, 1) := dgX7_load_0 (0, (.aload_n 0, 1)) (List.mem_of_getElem? (i := 0) rfl)
theorem dX7_load_1 : decode cX7_load 1 = .ok (.getfield 9, 3) := dgX7_load_0 (1, (.getfield 9, 3)) (List.mem_of_getElem? (i := 1) rfl)
theorem dX7_load_4 : decode cX7_load 4 = .ok (.aload_n 0, 1) := dgX7_load_0 (4, (.aload_n 0, 1)) (List.mem_of_getElem? (i := 2) rfl)
theorem dX7_load_5 : decode cX7_load 5 = .ok (.getfield 34, 3) := dgX7_load_0 (5, (.getfield 34, 3)) (List.mem_of_getElem? (i := 3) rfl)
theorem dX7_load_8 : decode cX7_load 8 = .ok (.getfield 54, 3) := dgX7_load_0 (8, (.getfield 54, 3)) (List.mem_of_getElem? (i := 4) rfl)
theorem dX7_load_11 : decode cX7_load 11 = .ok (.invokestatic 58, 3) := dgX7_load_0 (11, (.invokestatic 58, 3)) (List.mem_of_getElem? (i := 5) rfl)
theorem dX7_load_14 : decode cX7_load 14 = .ok (.aload_n 0, 1) := dgX7_load_0 (14, (.aload_n 0, 1)) (List.mem_of_getElem? (i := 6) rfl)
theorem dX7_load_15 : decode cX7_load 15 = .ok (.getfield 15, 3) := dgX7_load_0 (15, (.getfield 15, 3)) (List.mem_of_getElem? (i := 7) rfl)
theorem dX7_load_18 : decode cX7_load 18 = .ok (.iconst 0, 1) := dgX7_load_0 (18, (.iconst 0, 1)) (List.mem_of_getElem? (i := 8) rfl)
theorem dX7_load_19 : decode cX7_load 19 = .ok (.invokestatic 64, 3) := dgX7_load_0 (19, (.invokestatic 64, 3)) (List.mem_of_getElem? (i := 9) rfl)
theorem dX7_load_22 : decode cX7_load 22 = .ok (.aload_n 0, 1) := dgX7_load_0 (22, (.aload_n 0, 1)) (List.mem_of_getElem? (i := 10) rfl)
theorem dX7_load_23 : decode cX7_load 23 = .ok (.getfield 34, 3) := dgX7_load_0 (23, (.getfield 34, 3)) (List.mem_of_getElem? (i := 11) rfl)
theorem dX7_load_26 : decode cX7_load 26 = .ok (.getfield 67, 3) := dgX7_load_0 (26, (.getfield 67, 3)) (List.mem_of_getElem? (i := 12) rfl)
theorem dX7_load_29 : decode cX7_load 29 = .ok (.iconst (-1), 1) := dgX7_load_0 (29, (.iconst (-1), 1)) (List.mem_of_getElem? (i := 13) rfl)
theorem dX7_load_30 : decode cX7_load 30 = .ok (.if_icmp .eq 25, 3) := dgX7_load_0 (30, (.if_icmp .eq 25, 3)) (List.mem_of_getElem? (i := 14) rfl)
theorem dX7_load_33 : decode cX7_load 33 = .ok (.aload_n 0, 1) := dgX7_load_0 (33, (.aload_n 0, 1)) (List.mem_of_getElem? (i := 15) rfl)
theorem dX7_load_34 : decode cX7_load 34 = .ok (.getfield 9, 3) := dgX7_load_0 (34, (.getfield 9, 3)) (List.mem_of_getElem? (i := 16) rfl)
theorem dX7_load_37 : decode cX7_load 37 = .ok (.iconst 0, 1) := dgX7_load_0 (37, (.iconst 0, 1)) (List.mem_of_getElem? (i := 17) rfl)
theorem dX7_load_38 : decode cX7_load 38 = .ok (.dup2, 1) := dgX7_load_0 (38, (.dup2, 1)) (List.mem_of_getElem? (i := 18) rfl)
theorem dX7_load_39 : decode cX7_load 39 = .ok (.laload, 1) := dgX7_load_0 (39, (.laload, 1)) (List.mem_of_getElem? (i := 19) rfl)
theorem dX7_load_40 : decode cX7_load 40 = .ok (.lconst 1, 1) := dgX7_load_0 (40, (.lconst 1, 1)) (List.mem_of_getElem? (i := 20) rfl)
theorem dX7_load_41 : decode cX7_load 41 = .ok (.aload_n 0, 1) := dgX7_load_0 (41, (.aload_n 0, 1)) (List.mem_of_getElem? (i := 21) rfl)
theorem dX7_load_42 : decode cX7_load 42 = .ok (.getfield 34, 3) := dgX7_load_0 (42, (.getfield 34, 3)) (List.mem_of_getElem? (i := 22) rfl)
theorem dX7_load_45 : decode cX7_load 45 = .ok (.getfield 67, 3) := dgX7_load_0 (45, (.getfield 67, 3)) (List.mem_of_getElem? (i := 23) rfl)
theorem dX7_load_48 : decode cX7_load 48 = .ok (.lshl, 1) := dgX7_load_0 (48, (.lshl, 1)) (List.mem_of_getElem? (i := 24) rfl)
theorem dX7_load_49 : decode cX7_load 49 = .ok (.ldc2_w 70, 3) := dgX7_load_0 (49, (.ldc2_w 70, 3)) (List.mem_of_getElem? (i := 25) rfl)
theorem dX7_load_52 : decode cX7_load 52 = .ok (.lxor, 1) := dgX7_load_0 (52, (.lxor, 1)) (List.mem_of_getElem? (i := 26) rfl)
theorem dX7_load_53 : decode cX7_load 53 = .ok (.lor, 1) := dgX7_load_0 (53, (.lor, 1)) (List.mem_of_getElem? (i := 27) rfl)
theorem dX7_load_54 : decode cX7_load 54 = .ok (.lastore, 1) := dgX7_load_0 (54, (.lastore, 1)) (List.mem_of_getElem? (i := 28) rfl)
theorem dX7_load_55 : decode cX7_load 55 = .ok (.iconst 1, 1) := dgX7_load_0 (55, (.iconst 1, 1)) (List.mem_of_getElem? (i := 29) rfl)
theorem dX7_load_56 : decode cX7_load 56 = .ok (.istore_n 2, 1) := dgX7_load_0 (56, (.istore_n 2, 1)) (List.mem_of_getElem? (i := 30) rfl)
theorem dX7_load_57 : decode cX7_load 57 = .ok (.aload_n 0, 1) := dgX7_load_0 (57, (.aload_n 0, 1)) (List.mem_of_getElem? (i := 31) rfl)
theorem dX7_load_58 : decode cX7_load 58 = .ok (.getfield 34, 3) := dgX7_load_0 (58, (.getfield 34, 3)) (List.mem_of_getElem? (i := 32) rfl)
theorem dX7_load_61 : decode cX7_load 61 = .ok (.getfield 42, 3) := dgX7_load_0 (61, (.getfield 42, 3)) (List.mem_of_getElem? (i := 33) rfl)
theorem dX7_load_64 : decode cX7_load 64 = .ok (.astore_n 3, 1) := dgX7_load_0 (64, (.astore_n 3, 1)) (List.mem_of_getElem? (i := 34) rfl)
theorem dX7_load_65 : decode cX7_load 65 = .ok (.iconst 0, 1) := dgX7_load_0 (65, (.iconst 0, 1)) (List.mem_of_getElem? (i := 35) rfl)
theorem dX7_load_66 : decode cX7_load 66 = .ok (.istore 4, 2) := dgX7_load_0 (66, (.istore 4, 2)) (List.mem_of_getElem? (i := 36) rfl)
theorem dX7_load_68 : decode cX7_load 68 = .ok (.iload 4, 2) := dgX7_load_0 (68, (.iload 4, 2)) (List.mem_of_getElem? (i := 37) rfl)
theorem dX7_load_70 : decode cX7_load 70 = .ok (.aload_n 3, 1) := dgX7_load_0 (70, (.aload_n 3, 1)) (List.mem_of_getElem? (i := 38) rfl)
theorem dX7_load_71 : decode cX7_load 71 = .ok (.getfield 48, 3) := dgX7_load_0 (71, (.getfield 48, 3)) (List.mem_of_getElem? (i := 39) rfl)
theorem dgX7_load_1 : ∀ r ∈ ([(74, (.if_icmp .ge 74, 3)), (77, (.iload_n 1, 1)), (78, (.iload 4, 2)), (80, (.ishr, 1)), (81, (.iconst 1, 1)), (82, (.iand, 1)), (83, (.ifCond .eq 59, 3)), (86, (.aload_n 0, 1)), (87, (.getfield 38, 3)), (90, (.aload_n 3, 1)), (91, (.iload 4, 2)), (93, (.iconst 0, 1)), (94, (.invokevirtual 72, 3)), (97, (.aload_n 3, 1)), (98, (.iload 4, 2)), (100, (.iconst 1, 1)), (101, (.invokevirtual 72, 3)), (104, (.aload_n 3, 1)), (105, (.iload 4, 2)), (107, (.iconst 2, 1)), (108, (.invokevirtual 72, 3)), (111, (.iconst 0, 1)), (112, (.invokevirtual 76, 3)), (115, (.aload_n 3, 1)), (116, (.iload 4, 2)), (118, (.iconst 3, 1)), (119, (.invokevirtual 72, 3)), (122, (.iconst 1, 1)), (123, (.if_icmp .ne 15, 3)), (126, (.aload_n 0, 1)), (127, (.iload_n 2, 1)), (128, (.invokevirtual 82, 3)), (131, (.iload_n 2, 1)), (132, (.iconst 1, 1)), (133, (.ishl, 1)), (134, (.istore_n 2, 1)), (135, (.goto 7, 3)), (138, (.aload_n 0, 1)), (139, (.invokevirtual 86, 3)), (142, (.iinc 4 1, 3))] : List (Nat × (Instr × Nat))), decode cX7_load r.1 = .ok r.2 := by decide +kernel
theorem dX7_load_74 : decode cX7_load 74 = .ok (.if_icmp .ge 74, 3) := dgX7_load_1 (74, (.if_icmp .ge 74, 3)) (List.mem_of_getElem? (i := 0) rfl)
theorem dX7_load_77 : decode cX7_load 77 = .ok (.iload_n 1, 1) := dgX7_load_1 (77, (.iload_n 1, 1)) (List.mem_of_getElem? (i := 1) rfl)
theorem dX7_load_78 : decode cX7_load 78 = .ok (.iload 4, 2) := dgX7_load_1 (78, (.iload 4, 2)) (List.mem_of_getElem? (i := 2) rfl)
theorem dX7_load_80 : decode cX7_load 80 = .ok (.ishr, 1) := dgX7_load_1 (80, (.ishr, 1)) (List.mem_of_getElem? (i := 3) rfl)
theorem dX7_load_81 : decode cX7_load 81 = .ok (.iconst 1, 1) := dgX7_load_1 (81, (.iconst 1, 1)) (List.mem_of_getElem? (i := 4) rfl)
theorem dX7_load_82 : decode cX7_load 82 = .ok (.iand, 1) := dgX7_load_1 (82, (.iand, 1)) (List.mem_of_getElem? (i := 5) rfl)
theorem dX7_load_83 : decode cX7_load 83 = .ok (.ifCond .eq 59, 3) := dgX7_load_1 (83, (.ifCond .eq 59, 3)) (List.mem_of_getElem? (i := 6) rfl)
theorem dX7_load_86 : decode cX7_load 86 = .ok (.aload_n 0, 1) := dgX7_load_1 (86, (.aload_n 0, 1)) (List.mem_of_getElem? (i := 7) rfl)
theorem dX7_load_87 : decode cX7_load 87 = .ok (.getfield 38, 3) := dgX7_load_1 (87, (.getfield 38, 3)) (List.mem_of_getElem? (i := 8) rfl)
theorem dX7_load_90 : decode cX7_load 90 = .ok (.aload_n 3, 1) := dgX7_load_1 (90, (.aload_n 3, 1)) (List.mem_of_getElem? (i := 9) rfl)
theorem dX7_load_91 : decode cX7_load 91 = .ok (.iload 4, 2) := dgX7_load_1 (91, (.iload 4, 2)) (List.mem_of_getElem? (i := 10) rfl)
theorem dX7_load_93 : decode cX7_load 93 = .ok (.iconst 0, 1) := dgX7_load_1 (93, (.iconst 0, 1)) (List.mem_of_getElem? (i := 11) rfl)
theorem dX7_load_94 : decode cX7_load 94 = .ok (.invokevirtual 72, 3) := dgX7_load_1 (94, (.invokevirtual 72, 3)) (List.mem_of_getElem? (i := 12) rfl)
theorem dX7_load_97 : decode cX7_load 97 = .ok (.aload_n 3, 1) := dgX7_load_1 (97, (.aload_n 3, 1)) (List.mem_of_getElem? (i := 13) rfl)
theorem dX7_load_98 : decode cX7_load 98 = .ok (.iload 4, 2) := dgX7_load_1 (98, (.iload 4, 2)) (List.mem_of_getElem? (i := 14) rfl)
theorem dX7_load_100 : decode cX7_load 100 = .ok (.iconst 1, 1) := dgX7_load_1 (100, (.iconst 1, 1)) (List.mem_of_getElem? (i := 15) rfl)
theorem dX7_load_101 : decode cX7_load 101 = .ok (.invokevirtual 72, 3) := dgX7_load_1 (101, (.invokevirtual 72, 3)) (List.mem_of_getElem? (i := 16) rfl)
theorem dX7_load_104 : decode cX7_load 104 = .ok (.aload_n 3, 1) := dgX7_load_1 (104, (.aload_n 3, 1)) (List.mem_of_getElem? (i := 17) rfl)
theorem dX7_load_105 : decode cX7_load 105 = .ok (.iload 4, 2) := dgX7_load_1 (105, (.iload 4, 2)) (List.mem_of_getElem? (i := 18) rfl)
theorem dX7_load_107 : decode cX7_load 107 = .ok (.iconst 2, 1) := dgX7_load_1 (107, (.iconst 2, 1)) (List.mem_of_getElem? (i := 19) rfl)
theorem dX7_load_108 : decode cX7_load 108 = .ok (.invokevirtual 72, 3) := dgX7_load_1 (108, (.invokevirtual 72, 3)) (List.mem_of_getElem? (i := 20) rfl)
theorem dX7_load_111 : decode cX7_load 111 = .ok (.iconst 0, 1) := dgX7_load_1 (111, (.iconst 0, 1)) (List.mem_of_getElem? (i := 21) rfl)
theorem dX7_load_112 : decode cX7_load 112 = .ok (.invokevirtual 76, 3) := dgX7_load_1 (112, (.invokevirtual 76, 3)) (List.mem_of_getElem? (i := 22) rfl)
theorem dX7_load_115 : decode cX7_load 115 = .ok (.aload_n 3, 1) := dgX7_load_1 (115, (.aload_n 3, 1)) (List.mem_of_getElem? (i := 23) rfl)
theorem dX7_load_116 : decode cX7_load 116 = .ok (.iload 4, 2) := dgX7_load_1 (116, (.iload 4, 2)) (List.mem_of_getElem? (i := 24) rfl)
theorem dX7_load_118 : decode cX7_load 118 = .ok (.iconst 3, 1) := dgX7_load_1 (118, (.iconst 3, 1)) (List.mem_of_getElem? (i := 25) rfl)
theorem dX7_load_119 : decode cX7_load 119 = .ok (.invokevirtual 72, 3) := dgX7_load_1 (119, (.invokevirtual 72, 3)) (List.mem_of_getElem? (i := 26) rfl)
theorem dX7_load_122 : decode cX7_load 122 = .ok (.iconst 1, 1) := dgX7_load_1 (122, (.iconst 1, 1)) (List.mem_of_getElem? (i := 27) rfl)
theorem dX7_load_123 : decode cX7_load 123 = .ok (.if_icmp .ne 15, 3) := dgX7_load_1 (123, (.if_icmp .ne 15, 3)) (List.mem_of_getElem? (i := 28) rfl)
theorem dX7_load_126 : decode cX7_load 126 = .ok (.aload_n 0, 1) := dgX7_load_1 (126, (.aload_n 0, 1)) (List.mem_of_getElem? (i := 29) rfl)
theorem dX7_load_127 : decode cX7_load 127 = .ok (.iload_n 2, 1) := dgX7_load_1 (127, (.iload_n 2, 1)) (List.mem_of_getElem? (i := 30) rfl)
theorem dX7_load_128 : decode cX7_load 128 = .ok (.invokevirtual 82, 3) := dgX7_load_1 (128, (.invokevirtual 82, 3)) (List.mem_of_getElem? (i := 31) rfl)
theorem dX7_load_131 : decode cX7_load 131 = .ok (.iload_n 2, 1) := dgX7_load_1 (131, (.iload_n 2, 1)) (List.mem_of_getElem? (i := 32) rfl)
theorem dX7_load_132 : decode cX7_load 132 = .ok (.iconst 1, 1) := dgX7_load_1 (132, (.iconst 1, 1)) (List.mem_of_getElem? (i := 33) rfl)
theorem dX7_load_133 : decode cX7_load 133 = .ok (.ishl, 1) := dgX7_load_1 (133, (.ishl, 1)) (List.mem_of_getElem? (i := 34) rfl)
theorem dX7_load_134 : decode cX7_load 134 = .ok (.istore_n 2, 1) := dgX7_load_1 (134, (.istore_n 2, 1)) (List.mem_of_getElem? (i := 35) rfl)
theorem dX7_load_135 : decode cX7_load 135 = .ok (.goto 7, 3) := dgX7_load_1 (135, (.goto 7, 3)) (List.mem_of_getElem? (i := 36) rfl)
theorem dX7_load_138 : decode cX7_load 138 = .ok (.aload_n 0, 1) := dgX7_load_1 (138, (.aload_n 0, 1)) (List.mem_of_getElem? (i := 37) rfl)
theorem dX7_load_139 : decode cX7_load 139 = .ok (.invokevirtual 86, 3) := dgX7_load_1 (139, (.invokevirtual 86, 3)) (List.mem_of_getElem? (i := 38) rfl)
theorem dX7_load_142 : decode cX7_load 142 = .ok (.iinc 4 1, 3) := dgX7_load_1 (142, (.iinc 4 1, 3)) (List.mem_of_getElem? (i := 39) rfl)
theorem dgX7_load_2 : ∀ r ∈ ([(145, (.goto (-77), 3)), (148, (.aload_n 0, 1)), (149, (.iload_n 2, 1)), (150, (.iconst 1, 1)), (151, (.isub, 1)), (152, (.putfield 89, 3)), (155, (.return_, 1))] : List (Nat × (Instr × Nat))), decode cX7_load r.1 = .ok r.2 := by decide +kernel
theorem dX7_load_145 : decode cX7_load 145 = .ok (.goto (-77), 3) := dgX7_load_2 (145, (.goto (-77), 3)) (List.mem_of_getElem? (i := 0) rfl)
theorem dX7_load_148 : decode cX7_load 148 = .ok (.aload_n 0, 1) := dgX7_load_2 (148, (.aload_n 0, 1)) (List.mem_of_getElem? (i := 1) rfl)
theorem dX7_load_149 : decode cX7_load 149 = .ok (.iload_n 2, 1) := dgX7_load_2 (149, (.iload_n 2, 1)) (List.mem_of_getElem? (i := 2) rfl)
theorem dX7_load_150 : decode cX7_load 150 = .ok (.iconst 1, 1) := dgX7_load_2 (150, (.iconst 1, 1)) (List.mem_of_getElem? (i := 3) rfl)
theorem dX7_load_151 : decode cX7_load 151 = .ok (.isub, 1) := dgX7_load_2 (151, (.isub, 1)) (List.mem_of_getElem? (i := 4) rfl)
theorem dX7_load_152 : decode cX7_load 152 = .ok (.putfield 89, 3) := dgX7_load_2 (152, (.putfield 89, 3)) (List.mem_of_getElem? (i := 5) rfl)
theorem dX7_load_155 : decode cX7_load 155 = .ok (.return_, 1) := dgX7_load_2 (155, (.return_, 1)) (List.mem_of_getElem? (i := 6) rfl)
theorem fl_X7_34 : Cond.fieldLink RX7 34 "LateGlass$Thief" "house" "LLateGlass$House;" ∈ tblG := tg 317 (by decide +kernel) (by decide +kernel)
theorem fl_X7_54 : Cond.fieldLink RX7 54 "LateGlass$House" "walls" "J" ∈ tblG := tg 156 (by decide +kernel) (by decide +kernel)
theorem ml_X7_58 : Cond.methodLink RX7 58 yJ7_fill_d0a16 ∈ tblG := tg 963 (by decide +kernel) (by decide +kernel)
theorem gS_X7_58 : GoodIn tblG (va_wsS RX7 58 yJ7_fill_d0a16 (wsG yJ7_fill_d0a16 cJ7_fill_d0a16 5 none)) := tgS ml_X7_58 st_J7_fill_d0a16 ini_J7 gW_J7_fill_d0a16
theorem ml_X7_64 : Cond.methodLink RX7 64 yJ7_fill_53178 ∈ tblG := tg 964 (by decide +kernel) (by decide +kernel)
theorem st_J7_fill_53178 : Cond.static yJ7_fill_53178 ∈ tblG := tg 965 (by decide +kernel) (by decide +kernel)
theorem cd_J7_fill_53178 : Cond.code yJ7_fill_53178 cJ7_fill_53178 4 none ∈ tblG := tg 966 (by decide +kernel) (by decide +kernel)
theorem gW_J7_fill_53178 : GoodIn tblG (wsG yJ7_fill_53178 cJ7_fill_53178 4 none) := tgi cd_J7_fill_53178
theorem gS_X7_64 : GoodIn tblG (va_wsS RX7 64 yJ7_fill_53178 (wsG yJ7_fill_53178 cJ7_fill_53178 4 none)) := tgS ml_X7_64 st_J7_fill_53178 ini_J7 gW_J7_fill_53178
theorem hs_J7_fill_53178 : yJ7_fill_53178.cls ≠ "java/lang/invoke/MethodHandle" ∧ yJ7_fill_53178.cls ≠ "java/lang/invoke/VarHandle" ∧ (parseMethodDescriptor yJ7_fill_53178.desc).map (fun d => d.parameters.length) = some 2 := by decide +kernel
theorem fl_X7_67 : Cond.fieldLink RX7 67 "LateGlass$House" "start" "I" ∈ tblG := tg 162 (by decide +kernel) (by decide +kernel)
theorem fl_X7_42 : Cond.fieldLink RX7 42 "LateGlass$House" "sightings" "LLateGlass$Table;" ∈ tblG := tg 179 (by decide +kernel) (by decide +kernel)
theorem fl_X7_48 : Cond.fieldLink RX7 48 "LateGlass$Table" "rows" "I" ∈ tblG := tg 137 (by decide +kernel) (by decide +kernel)
theorem ml_X7_72 : Cond.methodLink RX7 72 yX6_get ∈ tblG := tg 968 (by decide +kernel) (by decide +kernel)
theorem gV_X7_72 : GoodIn tblG (wsV RX7 72 RX6 yX6_get (wsG yX6_get cX6_get 3 (some .int))) := tgV ml_X7_72 im_X6_get se_X6_get ini_X6 gW_X6_get
theorem ml_X7_76 : Cond.methodLink RX7 76 yX5_run ∈ tblG := tg 969 (by decide +kernel) (by decide +kernel)
theorem gV_X7_76 : GoodIn tblG (wsV RX7 76 RX5 yX5_run (wsG yX5_run cX5_run 9 none)) := tgV ml_X7_76 im_X5_run se_X5_run ini_X5 gW_X5_run
theorem ml_X7_86 : Cond.methodLink RX7 86 yX7_barPoints ∈ tblG := tg 974 (by decide +kernel) (by decide +kernel)
theorem im_X7_barPoints : Cond.instanceMethod yX7_barPoints ∈ tblG := tg 975 (by decide +kernel) (by decide +kernel)
theorem se_X7_barPoints : Cond.selects RX7 yX7_barPoints yX7_barPoints ∈ tblG := tg 976 (by decide +kernel) (by decide +kernel)
theorem cd_X7_barPoints : Cond.code yX7_barPoints cX7_barPoints 2 none ∈ tblG := tg 977 (by decide +kernel) (by decide +kernel)
theorem gW_X7_barPoints : GoodIn tblG (wsG yX7_barPoints cX7_barPoints 2 none) := tgi cd_X7_barPoints
theorem gV_X7_86 : GoodIn tblG (wsV RX7 86 RX7 yX7_barPoints (wsG yX7_barPoints cX7_barPoints 2 none)) := tgV ml_X7_86 im_X7_barPoints se_X7_barPoints ini_X7 gW_X7_barPoints
theorem hv_X7_barPoints : yX7_barPoints.cls = RX7 ∧ yX7_barPoints.cls ≠ "java/lang/invoke/MethodHandle" ∧ yX7_barPoints.cls ≠ "java/lang/invoke/VarHandle" ∧ (parseMethodDescriptor yX7_barPoints.desc).map (fun d => d.parameters.length) = some 0 := by decide +kernel
theorem ml_X7_82 : Cond.methodLink RX7 82 yX7_addPoints ∈ tblG := tg 970 (by decide +kernel) (by decide +kernel)
theorem im_X7_addPoints : Cond.instanceMethod yX7_addPoints ∈ tblG := tg 972 (by decide +kernel) (by decide +kernel)
theorem se_X7_addPoints : Cond.selects RX7 yX7_addPoints yX7_addPoints ∈ tblG := tg 20 (by decide +kernel) (by decide +kernel)
theorem cd_X7_addPoints : Cond.code yX7_addPoints cX7_addPoints 3 none ∈ tblG := tg 973 (by decide +kernel) (by decide +kernel)
theorem gW_X7_addPoints : GoodIn tblG (wsG yX7_addPoints cX7_addPoints 3 none) := tgi cd_X7_addPoints
theorem gV_X7_82 : GoodIn tblG (wsV RX7 82 RX7 yX7_addPoints (wsG yX7_addPoints cX7_addPoints 3 none)) := tgV ml_X7_82 im_X7_addPoints se_X7_addPoints ini_X7 gW_X7_addPoints
theorem hv_X7_addPoints : yX7_addPoints.cls = RX7 ∧ yX7_addPoints.cls ≠ "java/lang/invoke/MethodHandle" ∧ yX7_addPoints.cls ≠ "java/lang/invoke/VarHandle" ∧ (parseMethodDescriptor yX7_addPoints.desc).map (fun d => d.parameters.length) = some 1 := by decide +kernel
theorem kl_X7_70 : Cond.constantLong RX7 70 (-1) ∈ tblG := tg 967 (by decide +kernel) (by decide +kernel)
set_option maxHeartbeats 4000000 in
set_option maxRecDepth 100000 in
theorem th_loadN (l : Launch) (G : g5_G) (a_k a_h a_g a_gn a_b a_bn a_p a_pn a_s a_sn a_bb a_j a_as a_sk a_l a_pt a_th a_ba a_ad a_w a_cn a_nx a_hp a_hl a_lv : Nat) (sz : Nat) (e_le : Int32) (e_st : Int32) (e_fo : Int32) (e_lc : Int32) (e_g : Int32) (e_b : Int32) (e_p : Int32) (e_s : Int32) (e_ln : Int32) (e_se : Int32) (e_lh : Int32) (e_br : Int32) (e_we : Int32) (e_me : Int32) (e_ce : Int32) (e_wy : Int32) (e_ho : Int32) (e_ov : Int32) (e_fu : Int32) (p_s : Int32) (e_wa : Int64) (e_gb : Int64) (f_g : Nat → Int32) (f_b : Nat → Int32) (f_p : Nat → Int32) (f_s : Nat → Int32) (f_bb : Nat → Int64) (f_as : Nat → Int32) (f_sk : Nat → Int64) (f_l : Nat → Option Nat) (f_pt : Nat → Int32) (f_ba : Nat → Int64) (f_ad : Nat → Int32) (h_e_g : 0 ≤ e_g.toInt ∧ e_g.toInt ≤ 6) (h_e_b : 0 ≤ e_b.toInt ∧ e_b.toInt ≤ 5) (h_e_p : 0 ≤ e_p.toInt ∧ e_p.toInt ≤ 8) (h_e_s : 0 ≤ e_s.toInt ∧ e_s.toInt ≤ 10) (h_e_ov : 0 ≤ e_ov.toInt ∧ e_ov.toInt ≤ 1) (e_gk : gOK f_g e_g.toInt) (e_pk : gOK f_p e_p.toInt) (e_gi : inT e_gb f_g e_g.toInt) (e_sh : ∀ r : Int, 0 ≤ r → r < e_s.toInt → 0 ≤ (tget f_s e_s.toInt 4 r (3 : Int32).toInt).toInt ∧ (tget f_s e_s.toInt 4 r (3 : Int32).toInt).toInt ≤ 1) (e_s5 : snS f_s e_s.toInt e_s.toInt.toNat ≤ 5) (e_f : e_fo.toInt < 0 ∨ e_lc.toInt ≤ e_fo.toInt) : Met l yX7_load (wsG yX7_load cX7_load 5 none) ({ frames := 14, cells := 0, slots := 0, locals := 556 }) (va_Pc [.ref a_th, .int p_s] (g5_P G [(a_k, (oc5 a_h a_j a_pt e_ln e_se e_lh e_br e_we e_me e_ce e_wy e_ho e_ov)), (a_h, (oc1 e_wa e_le e_st e_fo e_lc a_l a_g a_b a_s a_p a_w e_gb a_bb)), (a_g, (oc6 6 5 a_gn e_g)), (a_gn, (arI G 30 f_g)), (a_b, (oc6 5 24 a_bn e_b)), (a_bn, (arI G 120 f_b)), (a_p, (oc6 8 5 a_pn e_p)), (a_pn, (arI G 40 f_p)), (a_s, (oc6 10 4 a_sn e_s)), (a_sn, (arI G 40 f_s)), (a_bb, (arJ G 24 f_bb)), (a_j, (oc2 a_as a_sk)), (a_as, (arI G 8 f_as)), (a_sk, (arJ G 50 f_sk)), (a_l, (arW G 6 f_l)), (a_pt, (arI G 200 f_pt)), (a_th, (oc7 a_h a_k a_ba a_ad e_fu a_cn a_nx a_hp a_hl a_lv)), (a_ba, (arJ G 24 f_ba)), (a_ad, (arI G 1536 f_ad))] sz)) (va_Qv (fun (u : va_W) => (∃ (o_ln : Int32) (o_se : Int32) (o_lh : Int32) (o_br : Int32) (o_we : Int32) (o_me : Int32) (o_ce : Int32) (o_wy : Int32) (o_ho : Int32) (o_ov : Int32) (o_pt : Nat → Int32) (o_as : Nat → Int32) (o_sk : Nat → Int64) (o_fu : Int32) (o_ba : Nat → Int64) (o_ad : Nat → Int32), (0 ≤ o_ov.toInt ∧ o_ov.toInt ≤ 1) ∧ (TOK o_fu o_ad) ∧ (u = [(a_k, (oc5 a_h a_j a_pt o_ln o_se o_lh o_br o_we o_me o_ce o_wy o_ho o_ov)), (a_h, (oc1 e_wa e_le e_st e_fo e_lc a_l a_g a_b a_s a_p a_w e_gb a_bb)), (a_g, (oc6 6 5 a_gn e_g)), (a_gn, (arI G 30 f_g)), (a_b, (oc6 5 24 a_bn e_b)), (a_bn, (arI G 120 f_b)), (a_p, (oc6 8 5 a_pn e_p)), (a_pn, (arI G 40 f_p)), (a_s, (oc6 10 4 a_sn e_s)), (a_sn, (arI G 40 f_s)), (a_bb, (arJ G 24 f_bb)), (a_j, (oc2 a_as a_sk)), (a_as, (arI G 8 o_as)), (a_sk, (arJ G 50 o_sk)), (a_l, (arW G 6 f_l)), (a_pt, (arI G 200 o_pt)), (a_th, (oc7 a_h a_k a_ba a_ad o_fu a_cn a_nx a_hp a_hl a_lv)), (a_ba, (arJ G 24 o_ba)), (a_ad, (arI G 1536 o_ad))]))) (g5_B G (va_A [(a_k, (oc5 a_h a_j a_pt e_ln e_se e_lh e_br e_we e_me e_ce e_wy e_ho e_ov)), (a_h, (oc1 e_wa e_le e_st e_fo e_lc a_l a_g a_b a_s a_p a_w e_gb a_bb)), (a_g, (oc6 6 5 a_gn e_g)), (a_gn, (arI G 30 f_g)), (a_b, (oc6 5 24 a_bn e_b)), (a_bn, (arI G 120 f_b)), (a_p, (oc6 8 5 a_pn e_p)), (a_pn, (arI G 40 f_p)), (a_s, (oc6 10 4 a_sn e_s)), (a_sn, (arI G 40 f_s)), (a_bb, (arJ G 24 f_bb)), (a_j, (oc2 a_as a_sk)), (a_as, (arI G 8 f_as)), (a_sk, (arJ G 50 f_sk)), (a_l, (arW G 6 f_l)), (a_pt, (arI G 200 f_pt)), (a_th, (oc7 a_h a_k a_ba a_ad e_fu a_cn a_nx a_hp a_hl a_lv)), (a_ba, (arJ G 24 f_ba)), (a_ad, (arI G 1536 f_ad))] sz)) (va_A [(a_k, (oc5 a_h a_j a_pt e_ln e_se e_lh e_br e_we e_me e_ce e_wy e_ho e_ov)), (a_h, (oc1 e_wa e_le e_st e_fo e_lc a_l a_g a_b a_s a_p a_w e_gb a_bb)), (a_g, (oc6 6 5 a_gn e_g)), (a_gn, (arI G 30 f_g)), (a_b, (oc6 5 24 a_bn e_b)), (a_bn, (arI G 120 f_b)), (a_p, (oc6 8 5 a_pn e_p)), (a_pn, (arI G 40 f_p)), (a_s, (oc6 10 4 a_sn e_s)), (a_sn, (arI G 40 f_s)), (a_bb, (arJ G 24 f_bb)), (a_j, (oc2 a_as a_sk)), (a_as, (arI G 8 f_as)), (a_sk, (arJ G 50 f_sk)), (a_l, (arW G 6 f_l)), (a_pt, (arI G 200 f_pt)), (a_th, (oc7 a_h a_k a_ba a_ad e_fu a_cn a_nx a_hp a_hl a_lv)), (a_ba, (arJ G 24 f_ba)), (a_ad, (arI G 1536 f_ad))] sz)) 0 0 (va_A [(a_k, (oc5 a_h a_j a_pt e_ln e_se e_lh e_br e_we e_me e_ce e_wy e_ho e_ov)), (a_h, (oc1 e_wa e_le e_st e_fo e_lc a_l a_g a_b a_s a_p a_w e_gb a_bb)), (a_g, (oc6 6 5 a_gn e_g)), (a_gn, (arI G 30 f_g)), (a_b, (oc6 5 24 a_bn e_b)), (a_bn, (arI G 120 f_b)), (a_p, (oc6 8 5 a_pn e_p)), (a_pn, (arI G 40 f_p)), (a_s, (oc6 10 4 a_sn e_s)), (a_sn, (arI G 40 f_s)), (a_bb, (arJ G 24 f_bb)), (a_j, (oc2 a_as a_sk)), (a_as, (arI G 8 f_as)), (a_sk, (arJ G 50 f_sk)), (a_l, (arW G 6 f_l)), (a_pt, (arI G 200 f_pt)), (a_th, (oc7 a_h a_k a_ba a_ad e_fu a_cn a_nx a_hp a_hl a_lv)), (a_ba, (arJ G 24 f_ba)), (a_ad, (arI G 1536 f_ad))] sz) := by
  refine Met.ofW (cc := cX7_load) (maxL := 5) (ret := none) (by decide) rfl ?_
  intro p e s m args below meth c s₁ B hml hv
  obtain ⟨rfl, hsz, hP, hK, hD0, hN, hT⟩ := hv
  have hx := B.exec
  have hb := B.bytes
  have hr := B.returns
  have hts : ∀ w ∈ tblG, w.before _ s = true := fun w h => atoms_spec (ws := (wsG yX7_load cX7_load 5 none)) B.pre w (List.mem_cons_of_mem _ h)
  have hown : s.vm.findClass RX7 = some m.cls := findClass_of_methodNamed B.named
  have hlocks := B.notSynchronized
  subst hsz
  have hD := hD0.self (sz := s.heap.size)
  generalize hAe : va_A [(a_k, (oc5 a_h a_j a_pt e_ln e_se e_lh e_br e_we e_me e_ce e_wy e_ho e_ov)), (a_h, (oc1 e_wa e_le e_st e_fo e_lc a_l a_g a_b a_s a_p a_w e_gb a_bb)), (a_g, (oc6 6 5 a_gn e_g)), (a_gn, (arI G 30 f_g)), (a_b, (oc6 5 24 a_bn e_b)), (a_bn, (arI G 120 f_b)), (a_p, (oc6 8 5 a_pn e_p)), (a_pn, (arI G 40 f_p)), (a_s, (oc6 10 4 a_sn e_s)), (a_sn, (arI G 40 f_s)), (a_bb, (arJ G 24 f_bb)), (a_j, (oc2 a_as a_sk)), (a_as, (arI G 8 f_as)), (a_sk, (arJ G 50 f_sk)), (a_l, (arW G 6 f_l)), (a_pt, (arI G 200 f_pt)), (a_th, (oc7 a_h a_k a_ba a_ad e_fu a_cn a_nx a_hp a_hl a_lv)), (a_ba, (arJ G 24 f_ba)), (a_ad, (arI G 1536 f_ad))] s.heap.size = A at hD hT ⊢
  have hA : ∀ q : Nat, s.heap.size ≤ q → A q := fun q h => by rw [← hAe]; exact Or.inr h
  have hS : va_S A s.heap s.heap [] := va_S.rf
  have hP : va_P G.1 vwCl [(a_k, (oc5 a_h a_j a_pt e_ln e_se e_lh e_br e_we e_me e_ce e_wy e_ho e_ov)), (a_h, (oc1 e_wa e_le e_st e_fo e_lc a_l a_g a_b a_s a_p a_w e_gb a_bb)), (a_g, (oc6 6 5 a_gn e_g)), (a_gn, (arI G 30 f_g)), (a_b, (oc6 5 24 a_bn e_b)), (a_bn, (arI G 120 f_b)), (a_p, (oc6 8 5 a_pn e_p)), (a_pn, (arI G 40 f_p)), (a_s, (oc6 10 4 a_sn e_s)), (a_sn, (arI G 40 f_s)), (a_bb, (arJ G 24 f_bb)), (a_j, (oc2 a_as a_sk)), (a_as, (arI G 8 f_as)), (a_sk, (arJ G 50 f_sk)), (a_l, (arW G 6 f_l)), (a_pt, (arI G 200 f_pt)), (a_th, (oc7 a_h a_k a_ba a_ad e_fu a_cn a_nx a_hp a_hl a_lv)), (a_ba, (arJ G 24 f_ba)), (a_ad, (arI G 1536 f_ad))] s.heap := hP
  have hl := lv_entry ([.ref a_th, .int p_s]) (n := 5) (Nat.le_of_ble_eq_true rfl)
  rw [lg_entry_eq]
  generalize (lg_sl ([.ref a_th, .int p_s]) ++ List.replicate (5 - (lg_sl ([.ref a_th, .int p_s])).length) Slot.unset).toArray = ls at hl ⊢
  have hl : lv_has ls 5 [(0, .ref a_th), (1, .int p_s)] := hl
  refine lv_aload_n hx hb dX7_load_0 rfl (lv_at hl 0 rfl) ?_
  refine va_get (D := G.1) (ci := 7) (v := .ref a_ba) (C := RX7) (T := TX7) (N := 10) hx hb hts inG_X7 hown hK hP 16 rfl rfl 2 (by decide) (hts _ fl_X7_9) (fun _ h9 => h9) rfl dX7_load_1 ?_
  refine lv_aload_n hx hb dX7_load_4 rfl (lv_at hl 0 rfl) ?_
  refine va_get (D := G.1) (ci := 7) (v := .ref a_h) (C := RX7) (T := TX7) (N := 10) hx hb hts inG_X7 hown hK hP 16 rfl rfl 0 (by decide) (hts _ fl_X7_34) (fun _ h9 => h9) rfl dX7_load_5 ?_
  refine va_get (D := G.1) (ci := 1) (v := .long e_wa) (C := RX1) (T := TX1) (N := 13) hx hb hts inG_X1 hown hK hP 1 rfl rfl 0 (by decide) (hts _ fl_X7_54) (fun _ h9 => h9) rfl dX7_load_8 ?_
  obtain ⟨hPc, hDc, hFc⟩ := g5_sub3 (wc := [(a_ba, (arJ G 24 f_ba))]) hP hD hS hA [17] (by decide) rfl
  refine va_callv (va_runS (As := [.ref a_ba, .long e_wa]) (rest := []) ⟨hx, hb, hml, hown, hts⟩ (k_fillJ24 l G a_ba s.heap.size e_wa f_ba) (va_cwS 2 hts gS_X7_58 rfl rfl rfl hs_J7_fill_d0a16 ⟨Nat.le_of_ble_eq_true rfl, Nat.le_of_ble_eq_true rfl⟩) (g5_preS hPc hK hDc hN hT hS hFc) rfl rfl hl.1 rfl (lv_room (Nat.le_of_ble_eq_true rfl)) dX7_load_11 ⟨Nat.le_of_ble_eq_true rfl, Nat.le_of_ble_eq_true rfl⟩) hS (fun q _ h => hFc q h) hFc (fun u t H1 locs ht hvm hw hB hz1 hk1 hS => ?_)
  obtain ⟨hP1, hD1⟩ := hB
  rw [ht] at hP1
  obtain rfl := hw
  obtain ⟨hP, hD⟩ := va_join (wr := [(a_k, (oc5 a_h a_j a_pt e_ln e_se e_lh e_br e_we e_me e_ce e_wy e_ho e_ov)), (a_h, (oc1 e_wa e_le e_st e_fo e_lc a_l a_g a_b a_s a_p a_w e_gb a_bb)), (a_g, (oc6 6 5 a_gn e_g)), (a_gn, (arI G 30 f_g)), (a_b, (oc6 5 24 a_bn e_b)), (a_bn, (arI G 120 f_b)), (a_p, (oc6 8 5 a_pn e_p)), (a_pn, (arI G 40 f_p)), (a_s, (oc6 10 4 a_sn e_s)), (a_sn, (arI G 40 f_s)), (a_bb, (arJ G 24 f_bb)), (a_j, (oc2 a_as a_sk)), (a_as, (arI G 8 f_as)), (a_sk, (arJ G 50 f_sk)), (a_l, (arW G 6 f_l)), (a_pt, (arI G 200 f_pt)), (a_th, (oc7 a_h a_k a_ba a_ad e_fu a_cn a_nx a_hp a_hl a_lv)), (a_ad, (arI G 1536 f_ad))]) hP hD [17] [0, 1, 2, 3, 4, 5, 6, 7, 8, 9, 10, 11, 12, 13, 14, 15, 16, 18] rfl rfl (by decide) (by decide) hk1 hFc hP1 hD1
  generalize H1 = H at hP hS ⊢
  refine g5_rs [(a_k, (oc5 a_h a_j a_pt e_ln e_se e_lh e_br e_we e_me e_ce e_wy e_ho e_ov)), (a_h, (oc1 e_wa e_le e_st e_fo e_lc a_l a_g a_b a_s a_p a_w e_gb a_bb)), (a_g, (oc6 6 5 a_gn e_g)), (a_gn, (arI G 30 f_g)), (a_b, (oc6 5 24 a_bn e_b)), (a_bn, (arI G 120 f_b)), (a_p, (oc6 8 5 a_pn e_p)), (a_pn, (arI G 40 f_p)), (a_s, (oc6 10 4 a_sn e_s)), (a_sn, (arI G 40 f_s)), (a_bb, (arJ G 24 f_bb)), (a_j, (oc2 a_as a_sk)), (a_as, (arI G 8 f_as)), (a_sk, (arJ G 50 f_sk)), (a_l, (arW G 6 f_l)), (a_pt, (arI G 200 f_pt)), (a_th, (oc7 a_h a_k a_ba a_ad e_fu a_cn a_nx a_hp a_hl a_lv)), (a_ad, (arI G 1536 f_ad)), (a_ba, (arJ G 24 (fun _ => e_wa)))] hP hD (fun hP hD => ?_)
  refine lv_aload_n hx hb dX7_load_14 rfl (lv_at hl 0 rfl) ?_
  refine va_get (D := G.1) (ci := 7) (v := .ref a_ad) (C := RX7) (T := TX7) (N := 10) hx hb hts inG_X7 hown hK hP 16 rfl rfl 3 (by decide) (hts _ fl_X7_15) (fun _ h9 => h9) rfl dX7_load_15 ?_
  refine lv_iconst (v := 0) hx hb dX7_load_18 (by decide) ?_
  obtain ⟨hPc, hDc, hFc⟩ := g5_sub3 (wc := [(a_ad, (arI G 1536 f_ad))]) hP hD hS hA [17] (by decide) rfl
  refine va_callv (va_runS (As := [.ref a_ad, .int 0]) (rest := []) ⟨hx, hb, hml, hown, hts⟩ (k_fillI1536 l G a_ad H.size 0 f_ad) (va_cwS 2 hts gS_X7_64 rfl rfl rfl hs_J7_fill_53178 ⟨Nat.le_of_ble_eq_true rfl, Nat.le_of_ble_eq_true rfl⟩) (g5_preS hPc hK hDc hN hT hS hFc) rfl rfl hl.1 rfl (lv_room (Nat.le_of_ble_eq_true rfl)) dX7_load_19 ⟨Nat.le_of_ble_eq_true rfl, Nat.le_of_ble_eq_true rfl⟩) hS (fun q _ h => hFc q h) hFc (fun u t H1 locs ht hvm hw hB hz1 hk1 hS => ?_)
  obtain ⟨hP1, hD1⟩ := hB
  rw [ht] at hP1
  obtain rfl := hw
  obtain ⟨hP, hD⟩ := va_join (wr := [(a_k, (oc5 a_h a_j a_pt e_ln e_se e_lh e_br e_we e_me e_ce e_wy e_ho e_ov)), (a_h, (oc1 e_wa e_le e_st e_fo e_lc a_l a_g a_b a_s a_p a_w e_gb a_bb)), (a_g, (oc6 6 5 a_gn e_g)), (a_gn, (arI G 30 f_g)), (a_b, (oc6 5 24 a_bn e_b)), (a_bn, (arI G 120 f_b)), (a_p, (oc6 8 5 a_pn e_p)), (a_pn, (arI G 40 f_p)), (a_s, (oc6 10 4 a_sn e_s)), (a_sn, (arI G 40 f_s)), (a_bb, (arJ G 24 f_bb)), (a_j, (oc2 a_as a_sk)), (a_as, (arI G 8 f_as)), (a_sk, (arJ G 50 f_sk)), (a_l, (arW G 6 f_l)), (a_pt, (arI G 200 f_pt)), (a_th, (oc7 a_h a_k a_ba a_ad e_fu a_cn a_nx a_hp a_hl a_lv)), (a_ba, (arJ G 24 (fun _ => e_wa)))]) hP hD [17] [0, 1, 2, 3, 4, 5, 6, 7, 8, 9, 10, 11, 12, 13, 14, 15, 16, 18] rfl rfl (by decide) (by decide) hk1 hFc hP1 hD1
  generalize H1 = H at hP hS ⊢
  refine g5_rs [(a_k, (oc5 a_h a_j a_pt e_ln e_se e_lh e_br e_we e_me e_ce e_wy e_ho e_ov)), (a_h, (oc1 e_wa e_le e_st e_fo e_lc a_l a_g a_b a_s a_p a_w e_gb a_bb)), (a_g, (oc6 6 5 a_gn e_g)), (a_gn, (arI G 30 f_g)), (a_b, (oc6 5 24 a_bn e_b)), (a_bn, (arI G 120 f_b)), (a_p, (oc6 8 5 a_pn e_p)), (a_pn, (arI G 40 f_p)), (a_s, (oc6 10 4 a_sn e_s)), (a_sn, (arI G 40 f_s)), (a_bb, (arJ G 24 f_bb)), (a_j, (oc2 a_as a_sk)), (a_as, (arI G 8 f_as)), (a_sk, (arJ G 50 f_sk)), (a_l, (arW G 6 f_l)), (a_pt, (arI G 200 f_pt)), (a_th, (oc7 a_h a_k a_ba a_ad e_fu a_cn a_nx a_hp a_hl a_lv)), (a_ba, (arJ G 24 (fun _ => e_wa))), (a_ad, (arI G 1536 (fun _ => (0 : Int32))))] hP hD (fun hP hD => ?_)
  refine lv_aload_n hx hb dX7_load_22 rfl (lv_at hl 0 rfl) ?_
  refine va_get (D := G.1) (ci := 7) (v := .ref a_h) (C := RX7) (T := TX7) (N := 10) hx hb hts inG_X7 hown hK hP 16 rfl rfl 0 (by decide) (hts _ fl_X7_34) (fun _ h9 => h9) rfl dX7_load_23 ?_
  refine va_get (D := G.1) (ci := 1) (v := .int e_st) (C := RX1) (T := TX1) (N := 13) hx hb hts inG_X1 hown hK hP 1 rfl rfl 2 (by decide) (hts _ fl_X7_67) (fun _ h9 => h9) rfl dX7_load_26 ?_
  refine lv_iconst (v := (-1)) hx hb dX7_load_29 (by decide) ?_
  refine lv_icmp_eq (tgt := 55) hx hb dX7_load_30 (by decide) (fun c_1 => ?_) (fun c_1 => ?_)
  ·
    have i_1 : e_st.toInt = (-1) := by have z := g5_eq (a := e_st.toInt) (b := (-1)) (by rfl) (by decide) c_1; omega
    refine lv_iconst (v := 1) hx hb dX7_load_55 (by decide) ?_
    refine lv_istore_n (lv' := [(2, .int 1), (0, .ref a_th), (1, .int p_s)]) hx hb dX7_load_56 rfl hl (by decide) rfl (fun ls hl => ?_)
    refine lv_aload_n hx hb dX7_load_57 rfl (lv_at hl 1 rfl) ?_
    refine va_get (D := G.1) (ci := 7) (v := .ref a_h) (C := RX7) (T := TX7) (N := 10) hx hb hts inG_X7 hown hK hP 16 rfl rfl 0 (by decide) (hts _ fl_X7_34) (fun _ h9 => h9) rfl dX7_load_58 ?_
    refine va_get (D := G.1) (ci := 1) (v := .ref a_s) (C := RX1) (T := TX1) (N := 13) hx hb hts inG_X1 hown hK hP 1 rfl rfl 8 (by decide) (hts _ fl_X7_42) (fun _ h9 => h9) rfl dX7_load_61 ?_
    refine lv_astore_n (lv' := [(3, .ref a_s), (2, .int 1), (0, .ref a_th), (1, .int p_s)]) hx hb dX7_load_64 rfl hl (by decide) rfl (fun ls hl => ?_)
    refine lv_iconst (v := 0) hx hb dX7_load_65 (by decide) ?_
    refine lv_istore (lv' := [(4, .int 0), (3, .ref a_s), (2, .int 1), (0, .ref a_th), (1, .int p_s)]) hx hb dX7_load_66 hl (by decide) rfl (fun ls hl => ?_)
    refine g5_loop (α := (Int32) × (Int32) × (Int32) × (Int32) × (Int32) × (Int32) × (Int32) × (Int32) × (Int32) × (Int32) × (Int32) × (Nat → Int32) × (Nat → Int32) × (Nat → Int64) × (Int32) × (Nat → Int64) × (Nat → Int32)) (fun (q : (Int32) × (Int32) × (Int32) × (Int32) × (Int32) × (Int32) × (Int32) × (Int32) × (Int32) × (Int32) × (Int32) × (Nat → Int32) × (Nat → Int32) × (Nat → Int64) × (Int32) × (Nat → Int64) × (Nat → Int32)) (ls : Array Slot) (H : Heap) (locs : List Loc) => match q with | (k_b, k_i, k_se, k_lh, k_br, k_we, k_me, k_ce, k_wy, k_ho, k_ov, k_pt, k_as, k_sk, k_ln, k_ba, k_ad) => lv_has ls 5 [(2, .int k_b), (4, .int k_i), (3, .ref a_s), (0, .ref a_th), (1, .int p_s)] ∧ va_P G.1 vwCl [(a_k, (oc5 a_h a_j a_pt k_ln k_se k_lh k_br k_we k_me k_ce k_wy k_ho k_ov)), (a_h, (oc1 e_wa e_le e_st e_fo e_lc a_l a_g a_b a_s a_p a_w e_gb a_bb)), (a_g, (oc6 6 5 a_gn e_g)), (a_gn, (arI G 30 f_g)), (a_b, (oc6 5 24 a_bn e_b)), (a_bn, (arI G 120 f_b)), (a_p, (oc6 8 5 a_pn e_p)), (a_pn, (arI G 40 f_p)), (a_s, (oc6 10 4 a_sn e_s)), (a_sn, (arI G 40 f_s)), (a_bb, (arJ G 24 f_bb)), (a_j, (oc2 a_as a_sk)), (a_as, (arI G 8 k_as)), (a_sk, (arJ G 50 k_sk)), (a_l, (arW G 6 f_l)), (a_pt, (arI G 200 k_pt)), (a_th, (oc7 a_h a_k a_ba a_ad e_fu a_cn a_nx a_hp a_hl a_lv)), (a_ba, (arJ G 24 k_ba)), (a_ad, (arI G 1536 k_ad))] H ∧ va_D A [(a_k, (oc5 a_h a_j a_pt k_ln k_se k_lh k_br k_we k_me k_ce k_wy k_ho k_ov)), (a_h, (oc1 e_wa e_le e_st e_fo e_lc a_l a_g a_b a_s a_p a_w e_gb a_bb)), (a_g, (oc6 6 5 a_gn e_g)), (a_gn, (arI G 30 f_g)), (a_b, (oc6 5 24 a_bn e_b)), (a_bn, (arI G 120 f_b)), (a_p, (oc6 8 5 a_pn e_p)), (a_pn, (arI G 40 f_p)), (a_s, (oc6 10 4 a_sn e_s)), (a_sn, (arI G 40 f_s)), (a_bb, (arJ G 24 f_bb)), (a_j, (oc2 a_as a_sk)), (a_as, (arI G 8 k_as)), (a_sk, (arJ G 50 k_sk)), (a_l, (arW G 6 f_l)), (a_pt, (arI G 200 k_pt)), (a_th, (oc7 a_h a_k a_ba a_ad e_fu a_cn a_nx a_hp a_hl a_lv)), (a_ba, (arJ G 24 k_ba)), (a_ad, (arI G 1536 k_ad))] ∧ va_S A s.heap H locs ∧ (0 ≤ k_i.toInt ∧ k_i.toInt ≤ 10) ∧ (0 ≤ k_ov.toInt ∧ k_ov.toInt ≤ 1) ∧ (k_i.toInt ≤ e_s.toInt) ∧ (LDI f_s e_s.toInt k_i.toInt k_b k_ad)) (fun (q : (Int32) × (Int32) × (Int32) × (Int32) × (Int32) × (Int32) × (Int32) × (Int32) × (Int32) × (Int32) × (Int32) × (Nat → Int32) × (Nat → Int32) × (Nat → Int64) × (Int32) × (Nat → Int64) × (Nat → Int32)) => match q with | (k_b, k_i, k_se, k_lh, k_br, k_we, k_me, k_ce, k_wy, k_ho, k_ov, k_pt, k_as, k_sk, k_ln, k_ba, k_ad) => Int.toNat (10 - k_i.toInt)) (1, 0, e_se, e_lh, e_br, e_we, e_me, e_ce, e_wy, e_ho, e_ov, f_pt, f_as, f_sk, e_ln, (fun _ => e_wa), (fun _ => (0 : Int32))) ⟨lv_sub hl [2, 0, 1, 3, 4] rfl, hP, hD, hS, ⟨by decide, by decide⟩, h_e_ov, by have z0 : (0 : Int32).toInt = 0 := (by decide); omega, ld_0⟩ ?_
    rintro ⟨k_b, k_i, k_se, k_lh, k_br, k_we, k_me, k_ce, k_wy, k_ho, k_ov, k_pt, k_as, k_sk, k_ln, k_ba, k_ad⟩ ls H locs ⟨hl, hP, hD, hS, i_2, i_3, i_4, i_5⟩ ih_68_6
    have hl : lv_has ls 5 [(2, .int k_b), (4, .int k_i), (3, .ref a_s), (0, .ref a_th), (1, .int p_s)] := hl
    have i_2 : 0 ≤ k_i.toInt ∧ k_i.toInt ≤ 10 := i_2
    have i_3 : 0 ≤ k_ov.toInt ∧ k_ov.toInt ≤ 1 := i_3
    have i_4 : k_i.toInt ≤ e_s.toInt := i_4
    have i_5 : LDI f_s e_s.toInt k_i.toInt k_b k_ad := i_5
    refine g5_rs [(a_k, (oc5 a_h a_j a_pt k_ln k_se k_lh k_br k_we k_me k_ce k_wy k_ho k_ov)), (a_h, (oc1 e_wa e_le e_st e_fo e_lc a_l a_g a_b a_s a_p a_w e_gb a_bb)), (a_g, (oc6 6 5 a_gn e_g)), (a_gn, (arI G 30 f_g)), (a_b, (oc6 5 24 a_bn e_b)), (a_bn, (arI G 120 f_b)), (a_p, (oc6 8 5 a_pn e_p)), (a_pn, (arI G 40 f_p)), (a_s, (oc6 10 4 a_sn e_s)), (a_sn, (arI G 40 f_s)), (a_bb, (arJ G 24 f_bb)), (a_j, (oc2 a_as a_sk)), (a_as, (arI G 8 k_as)), (a_sk, (arJ G 50 k_sk)), (a_l, (arW G 6 f_l)), (a_pt, (arI G 200 k_pt)), (a_th, (oc7 a_h a_k a_ba a_ad e_fu a_cn a_nx a_hp a_hl a_lv)), (a_ba, (arJ G 24 k_ba)), (a_ad, (arI G 1536 k_ad))] hP hD (fun hP hD => ?_)
    refine lv_iload hx hb dX7_load_68 (lv_at hl 1 rfl) ?_
    refine lv_aload_n hx hb dX7_load_70 rfl (lv_at hl 2 rfl) ?_
    refine va_get (D := G.1) (ci := 6) (v := .int e_s) (C := RX6) (T := TX6) (N := 4) hx hb hts inG_X6 hown hK hP 8 rfl rfl 3 (by decide) (hts _ fl_X7_48) (fun _ h9 => h9) rfl dX7_load_71 ?_
    refine lv_icmp_ge (tgt := 148) hx hb dX7_load_74 (by decide) (fun c_7 => ?_) (fun c_7 => ?_)
    ·
      have i_7 : k_i.toInt ≥ e_s.toInt := by have z := g5_ge (a := k_i.toInt) (b := e_s.toInt) (by rfl) (by rfl) c_7; omega
      refine lv_aload_n hx hb dX7_load_148 rfl (lv_at hl 3 rfl) ?_
      refine lv_iload_n hx hb dX7_load_149 rfl (lv_at hl 0 rfl) ?_
      refine lv_iconst (v := 1) hx hb dX7_load_150 (by decide) ?_
      refine lv_isub hx hb dX7_load_151 ?_
      refine va_put (D := G.1) (ci := 7) (v := .int (k_b - 1)) (ty := .int) (C := RX7) (T := TX7) (N := 10) hx hb hts inG_X7 tyX7 tyX7_ok nmX7 hown hK hP hD hS 16 rfl rfl 4 (by decide) (hts _ fl_X7_89) (fun _ h9 => h9) rfl (by decide +kernel) rfl rfl (Nat.le_of_ble_eq_true rfl) dX7_load_152 (fun H locs hP hD hS => ?_)
      refine g5_rs [(a_k, (oc5 a_h a_j a_pt k_ln k_se k_lh k_br k_we k_me k_ce k_wy k_ho k_ov)), (a_h, (oc1 e_wa e_le e_st e_fo e_lc a_l a_g a_b a_s a_p a_w e_gb a_bb)), (a_g, (oc6 6 5 a_gn e_g)), (a_gn, (arI G 30 f_g)), (a_b, (oc6 5 24 a_bn e_b)), (a_bn, (arI G 120 f_b)), (a_p, (oc6 8 5 a_pn e_p)), (a_pn, (arI G 40 f_p)), (a_s, (oc6 10 4 a_sn e_s)), (a_sn, (arI G 40 f_s)), (a_bb, (arJ G 24 f_bb)), (a_j, (oc2 a_as a_sk)), (a_as, (arI G 8 k_as)), (a_sk, (arJ G 50 k_sk)), (a_l, (arW G 6 f_l)), (a_pt, (arI G 200 k_pt)), (a_th, (oc7 a_h a_k a_ba a_ad (k_b - 1) a_cn a_nx a_hp a_hl a_lv)), (a_ba, (arJ G 24 k_ba)), (a_ad, (arI G 1536 k_ad))] hP hD (fun hP hD => ?_)
      exact W.vret hx hb hr (fun t ht hW => ⟨⟨[(a_k, (oc5 a_h a_j a_pt k_ln k_se k_lh k_br k_we k_me k_ce k_wy k_ho k_ov)), (a_h, (oc1 e_wa e_le e_st e_fo e_lc a_l a_g a_b a_s a_p a_w e_gb a_bb)), (a_g, (oc6 6 5 a_gn e_g)), (a_gn, (arI G 30 f_g)), (a_b, (oc6 5 24 a_bn e_b)), (a_bn, (arI G 120 f_b)), (a_p, (oc6 8 5 a_pn e_p)), (a_pn, (arI G 40 f_p)), (a_s, (oc6 10 4 a_sn e_s)), (a_sn, (arI G 40 f_s)), (a_bb, (arJ G 24 f_bb)), (a_j, (oc2 a_as a_sk)), (a_as, (arI G 8 k_as)), (a_sk, (arJ G 50 k_sk)), (a_l, (arW G 6 f_l)), (a_pt, (arI G 200 k_pt)), (a_th, (oc7 a_h a_k a_ba a_ad (k_b - 1) a_cn a_nx a_hp a_hl a_lv)), (a_ba, (arJ G 24 k_ba)), (a_ad, (arI G 1536 k_ad))], rfl, ⟨k_ln, k_se, k_lh, k_br, k_we, k_me, k_ce, k_wy, k_ho, k_ov, k_pt, k_as, k_sk, (k_b - 1), k_ba, k_ad, i_3, ld_end i_5 e_sh e_s5 (by omega) (by omega), rfl⟩, by rw [ht]; exact hP.sub [0, 1, 2, 3, 4, 5, 6, 7, 8, 9, 10, 11, 12, 13, 14, 15, 16, 17, 18] rfl, hD.sub [0, 1, 2, 3, 4, 5, 6, 7, 8, 9, 10, 11, 12, 13, 14, 15, 16, 17, 18] (by decide) rfl⟩, hS.F ht⟩) hS.2.2 dX7_load_155
    ·
      have i_7 : k_i.toInt < e_s.toInt := by have z := g5_geN (a := k_i.toInt) (b := e_s.toInt) (by rfl) (by rfl) c_7; omega
      refine lv_iload_n hx hb dX7_load_77 rfl (lv_at hl 4 rfl) ?_
      refine lv_iload hx hb dX7_load_78 (lv_at hl 1 rfl) ?_
      refine lv_ishr hx hb dX7_load_80 ?_
      refine lv_iconst (v := 1) hx hb dX7_load_81 (by decide) ?_
      refine lv_iand hx hb dX7_load_82 ?_
      refine lv_if_eq (tgt := 142) hx hb dX7_load_83 (by decide) (fun c_8 => ?_) (fun c_8 => ?_)
      ·
        have i_8 : ((p_s >>> (k_i &&& 31)) &&& 1).toInt = 0 := by have z := g5_eq (a := ((p_s >>> (k_i &&& 31)) &&& 1).toInt) (b := 0) (by rfl) (by decide) c_8; omega
        refine lv_iinc (v := (k_i + 1)) (lv' := [(4, .int (k_i + 1)), (2, .int k_b), (3, .ref a_s), (0, .ref a_th), (1, .int p_s)]) hx hb dX7_load_142 hl (k := 1) rfl rfl (by decide) rfl (fun ls hl => ?_)
        have t_9 : (k_i + 1).toInt = k_i.toInt + 1 := g5_iadd (a := k_i.toInt) (b := 1) rfl (by decide) (by omega) (by omega)
        refine lv_goto (tgt := 68) hx hb dX7_load_145 (by decide) ?_
        exact ih_68_6 (k_b, (k_i + 1), k_se, k_lh, k_br, k_we, k_me, k_ce, k_wy, k_ho, k_ov, k_pt, k_as, k_sk, k_ln, k_ba, k_ad) ls H locs (show Int.toNat (10 - (k_i + 1).toInt) < Int.toNat (10 - k_i.toInt) from g_up (show k_i.toInt < (k_i + 1).toInt by omega) (show k_i.toInt < 10 by omega)) ⟨lv_sub hl [1, 0, 2, 3, 4] rfl, hP, hD, hS, ⟨by omega, by omega⟩, i_3, by omega, ld_stay i_5 e_sh (by omega) (by omega) (by omega)⟩
      ·
        have n_8 : gNe (((p_s >>> (k_i &&& 31)) &&& 1).toInt) (0) := by have z := g5_eqN (a := ((p_s >>> (k_i &&& 31)) &&& 1).toInt) (b := 0) (by rfl) (by decide) c_8; unfold gNe; omega
        refine lv_aload_n hx hb dX7_load_86 rfl (lv_at hl 3 rfl) ?_
        refine va_get (D := G.1) (ci := 7) (v := .ref a_k) (C := RX7) (T := TX7) (N := 10) hx hb hts inG_X7 hown hK hP 16 rfl rfl 1 (by decide) (hts _ fl_X7_38) (fun _ h9 => h9) rfl dX7_load_87 ?_
        refine lv_aload_n hx hb dX7_load_90 rfl (lv_at hl 2 rfl) ?_
        refine lv_iload hx hb dX7_load_91 (lv_at hl 1 rfl) ?_
        refine lv_iconst (v := 0) hx hb dX7_load_93 (by decide) ?_
        obtain ⟨hPc, hDc, hFc⟩ := g5_sub3 (wc := [(a_s, (oc6 10 4 a_sn e_s)), (a_sn, (arI G 40 f_s))]) hP hD hS hA [8, 9] (by decide) rfl
        refine va_calli (va_runV (As := [.int k_i, .int 0]) (rest := [.ref a_k]) ⟨hx, hb, hml, hown, hts⟩ (t_get_S l G a_s a_sn H.size e_s k_i 0 f_s h_e_s) (cwV 2 hts gV_X7_72 rfl rfl rfl hv_X6_get ⟨Nat.le_of_ble_eq_true rfl, Nat.le_of_ble_eq_true rfl⟩) (g5_preV hPc hK hDc hN hT hS hFc (ci := 6) (q0 := 0) rfl rfl) rfl rfl hl.1 rfl (lv_room (Nat.le_of_ble_eq_true rfl)) dX7_load_94 ⟨Nat.le_of_ble_eq_true rfl, Nat.le_of_ble_eq_true rfl⟩) hS (fun q _ h => hFc q h) hFc (fun r u t H1 locs ht hvm hw hB hz1 hk1 hS => ?_)
        obtain ⟨hP1, hD1⟩ := hB
        rw [ht] at hP1
        obtain ⟨z11, i_10, y12, rfl⟩ := hw
        have i_10 : z11 = tget f_s e_s.toInt 4 k_i.toInt (0 : Int32).toInt := i_10
        obtain ⟨hP, hD⟩ := va_join (wr := [(a_k, (oc5 a_h a_j a_pt k_ln k_se k_lh k_br k_we k_me k_ce k_wy k_ho k_ov)), (a_h, (oc1 e_wa e_le e_st e_fo e_lc a_l a_g a_b a_s a_p a_w e_gb a_bb)), (a_g, (oc6 6 5 a_gn e_g)), (a_gn, (arI G 30 f_g)), (a_b, (oc6 5 24 a_bn e_b)), (a_bn, (arI G 120 f_b)), (a_p, (oc6 8 5 a_pn e_p)), (a_pn, (arI G 40 f_p)), (a_bb, (arJ G 24 f_bb)), (a_j, (oc2 a_as a_sk)), (a_as, (arI G 8 k_as)), (a_sk, (arJ G 50 k_sk)), (a_l, (arW G 6 f_l)), (a_pt, (arI G 200 k_pt)), (a_th, (oc7 a_h a_k a_ba a_ad e_fu a_cn a_nx a_hp a_hl a_lv)), (a_ba, (arJ G 24 k_ba)), (a_ad, (arI G 1536 k_ad))]) hP hD [8, 9] [0, 1, 2, 3, 4, 5, 6, 7, 10, 11, 12, 13, 14, 15, 16, 17, 18] rfl rfl (by decide) (by decide) hk1 hFc hP1 hD1
        generalize H1 = H at hP hS ⊢
        refine g5_rs [(a_k, (oc5 a_h a_j a_pt k_ln k_se k_lh k_br k_we k_me k_ce k_wy k_ho k_ov)), (a_h, (oc1 e_wa e_le e_st e_fo e_lc a_l a_g a_b a_s a_p a_w e_gb a_bb)), (a_g, (oc6 6 5 a_gn e_g)), (a_gn, (arI G 30 f_g)), (a_b, (oc6 5 24 a_bn e_b)), (a_bn, (arI G 120 f_b)), (a_p, (oc6 8 5 a_pn e_p)), (a_pn, (arI G 40 f_p)), (a_bb, (arJ G 24 f_bb)), (a_j, (oc2 a_as a_sk)), (a_as, (arI G 8 k_as)), (a_sk, (arJ G 50 k_sk)), (a_l, (arW G 6 f_l)), (a_pt, (arI G 200 k_pt)), (a_th, (oc7 a_h a_k a_ba a_ad e_fu a_cn a_nx a_hp a_hl a_lv)), (a_ba, (arJ G 24 k_ba)), (a_ad, (arI G 1536 k_ad)), (a_s, (oc6 10 4 a_sn e_s)), (a_sn, (arI G 40 f_s))] hP hD (fun hP hD => ?_)
        refine g5_ti (v := z11) y12 ?_
        refine lv_aload_n hx hb dX7_load_97 rfl (lv_at hl 2 rfl) ?_
        refine lv_iload hx hb dX7_load_98 (lv_at hl 1 rfl) ?_
        refine lv_iconst (v := 1) hx hb dX7_load_100 (by decide) ?_
        obtain ⟨hPc, hDc, hFc⟩ := g5_sub3 (wc := [(a_s, (oc6 10 4 a_sn e_s)), (a_sn, (arI G 40 f_s))]) hP hD hS hA [17, 18] (by decide) rfl
        refine va_calli (va_runV (As := [.int k_i, .int 1]) (rest := [.int z11, .ref a_k]) ⟨hx, hb, hml, hown, hts⟩ (t_get_S l G a_s a_sn H.size e_s k_i 1 f_s h_e_s) (cwV 2 hts gV_X7_72 rfl rfl rfl hv_X6_get ⟨Nat.le_of_ble_eq_true rfl, Nat.le_of_ble_eq_true rfl⟩) (g5_preV hPc hK hDc hN hT hS hFc (ci := 6) (q0 := 0) rfl rfl) rfl rfl hl.1 rfl (lv_room (Nat.le_of_ble_eq_true rfl)) dX7_load_101 ⟨Nat.le_of_ble_eq_true rfl, Nat.le_of_ble_eq_true rfl⟩) hS (fun q _ h => hFc q h) hFc (fun r u t H1 locs ht hvm hw hB hz1 hk1 hS => ?_)
        obtain ⟨hP1, hD1⟩ := hB
        rw [ht] at hP1
        obtain ⟨z14, i_13, y15, rfl⟩ := hw
        have i_13 : z14 = tget f_s e_s.toInt 4 k_i.toInt (1 : Int32).toInt := i_13
        obtain ⟨hP, hD⟩ := va_join (wr := [(a_k, (oc5 a_h a_j a_pt k_ln k_se k_lh k_br k_we k_me k_ce k_wy k_ho k_ov)), (a_h, (oc1 e_wa e_le e_st e_fo e_lc a_l a_g a_b a_s a_p a_w e_gb a_bb)), (a_g, (oc6 6 5 a_gn e_g)), (a_gn, (arI G 30 f_g)), (a_b, (oc6 5 24 a_bn e_b)), (a_bn, (arI G 120 f_b)), (a_p, (oc6 8 5 a_pn e_p)), (a_pn, (arI G 40 f_p)), (a_bb, (arJ G 24 f_bb)), (a_j, (oc2 a_as a_sk)), (a_as, (arI G 8 k_as)), (a_sk, (arJ G 50 k_sk)), (a_l, (arW G 6 f_l)), (a_pt, (arI G 200 k_pt)), (a_th, (oc7 a_h a_k a_ba a_ad e_fu a_cn a_nx a_hp a_hl a_lv)), (a_ba, (arJ G 24 k_ba)), (a_ad, (arI G 1536 k_ad))]) hP hD [17, 18] [0, 1, 2, 3, 4, 5, 6, 7, 8, 9, 10, 11, 12, 13, 14, 15, 16] rfl rfl (by decide) (by decide) hk1 hFc hP1 hD1
        generalize H1 = H at hP hS ⊢
        refine g5_rs [(a_k, (oc5 a_h a_j a_pt k_ln k_se k_lh k_br k_we k_me k_ce k_wy k_ho k_ov)), (a_h, (oc1 e_wa e_le e_st e_fo e_lc a_l a_g a_b a_s a_p a_w e_gb a_bb)), (a_g, (oc6 6 5 a_gn e_g)), (a_gn, (arI G 30 f_g)), (a_b, (oc6 5 24 a_bn e_b)), (a_bn, (arI G 120 f_b)), (a_p, (oc6 8 5 a_pn e_p)), (a_pn, (arI G 40 f_p)), (a_bb, (arJ G 24 f_bb)), (a_j, (oc2 a_as a_sk)), (a_as, (arI G 8 k_as)), (a_sk, (arJ G 50 k_sk)), (a_l, (arW G 6 f_l)), (a_pt, (arI G 200 k_pt)), (a_th, (oc7 a_h a_k a_ba a_ad e_fu a_cn a_nx a_hp a_hl a_lv)), (a_ba, (arJ G 24 k_ba)), (a_ad, (arI G 1536 k_ad)), (a_s, (oc6 10 4 a_sn e_s)), (a_sn, (arI G 40 f_s))] hP hD (fun hP hD => ?_)
        refine g5_ti (v := z14) y15 ?_
        refine lv_aload_n hx hb dX7_load_104 rfl (lv_at hl 2 rfl) ?_
        refine lv_iload hx hb dX7_load_105 (lv_at hl 1 rfl) ?_
        refine lv_iconst (v := 2) hx hb dX7_load_107 (by decide) ?_
        obtain ⟨hPc, hDc, hFc⟩ := g5_sub3 (wc := [(a_s, (oc6 10 4 a_sn e_s)), (a_sn, (arI G 40 f_s))]) hP hD hS hA [17, 18] (by decide) rfl
        refine va_calli (va_runV (As := [.int k_i, .int 2]) (rest := [.int z14, .int z11, .ref a_k]) ⟨hx, hb, hml, hown, hts⟩ (t_get_S l G a_s a_sn H.size e_s k_i 2 f_s h_e_s) (cwV 2 hts gV_X7_72 rfl rfl rfl hv_X6_get ⟨Nat.le_of_ble_eq_true rfl, Nat.le_of_ble_eq_true rfl⟩) (g5_preV hPc hK hDc hN hT hS hFc (ci := 6) (q0 := 0) rfl rfl) rfl rfl hl.1 rfl (lv_room (Nat.le_of_ble_eq_true rfl)) dX7_load_108 ⟨Nat.le_of_ble_eq_true rfl, Nat.le_of_ble_eq_true rfl⟩) hS (fun q _ h => hFc q h) hFc (fun r u t H1 locs ht hvm hw hB hz1 hk1 hS => ?_)
        obtain ⟨hP1, hD1⟩ := hB
        rw [ht] at hP1
        obtain ⟨z17, i_16, y18, rfl⟩ := hw
        have i_16 : z17 = tget f_s e_s.toInt 4 k_i.toInt (2 : Int32).toInt := i_16
        obtain ⟨hP, hD⟩ := va_join (wr := [(a_k, (oc5 a_h a_j a_pt k_ln k_se k_lh k_br k_we k_me k_ce k_wy k_ho k_ov)), (a_h, (oc1 e_wa e_le e_st e_fo e_lc a_l a_g a_b a_s a_p a_w e_gb a_bb)), (a_g, (oc6 6 5 a_gn e_g)), (a_gn, (arI G 30 f_g)), (a_b, (oc6 5 24 a_bn e_b)), (a_bn, (arI G 120 f_b)), (a_p, (oc6 8 5 a_pn e_p)), (a_pn, (arI G 40 f_p)), (a_bb, (arJ G 24 f_bb)), (a_j, (oc2 a_as a_sk)), (a_as, (arI G 8 k_as)), (a_sk, (arJ G 50 k_sk)), (a_l, (arW G 6 f_l)), (a_pt, (arI G 200 k_pt)), (a_th, (oc7 a_h a_k a_ba a_ad e_fu a_cn a_nx a_hp a_hl a_lv)), (a_ba, (arJ G 24 k_ba)), (a_ad, (arI G 1536 k_ad))]) hP hD [17, 18] [0, 1, 2, 3, 4, 5, 6, 7, 8, 9, 10, 11, 12, 13, 14, 15, 16] rfl rfl (by decide) (by decide) hk1 hFc hP1 hD1
        generalize H1 = H at hP hS ⊢
        refine g5_rs [(a_k, (oc5 a_h a_j a_pt k_ln k_se k_lh k_br k_we k_me k_ce k_wy k_ho k_ov)), (a_h, (oc1 e_wa e_le e_st e_fo e_lc a_l a_g a_b a_s a_p a_w e_gb a_bb)), (a_g, (oc6 6 5 a_gn e_g)), (a_gn, (arI G 30 f_g)), (a_b, (oc6 5 24 a_bn e_b)), (a_bn, (arI G 120 f_b)), (a_p, (oc6 8 5 a_pn e_p)), (a_pn, (arI G 40 f_p)), (a_bb, (arJ G 24 f_bb)), (a_j, (oc2 a_as a_sk)), (a_as, (arI G 8 k_as)), (a_sk, (arJ G 50 k_sk)), (a_l, (arW G 6 f_l)), (a_pt, (arI G 200 k_pt)), (a_th, (oc7 a_h a_k a_ba a_ad e_fu a_cn a_nx a_hp a_hl a_lv)), (a_ba, (arJ G 24 k_ba)), (a_ad, (arI G 1536 k_ad)), (a_s, (oc6 10 4 a_sn e_s)), (a_sn, (arI G 40 f_s))] hP hD (fun hP hD => ?_)
        refine g5_ti (v := z17) y18 ?_
        refine lv_iconst (v := 0) hx hb dX7_load_111 (by decide) ?_
        obtain ⟨hPc, hDc, hFc⟩ := g5_sub3 (wc := [(a_k, (oc5 a_h a_j a_pt k_ln k_se k_lh k_br k_we k_me k_ce k_wy k_ho k_ov)), (a_h, (oc1 e_wa e_le e_st e_fo e_lc a_l a_g a_b a_s a_p a_w e_gb a_bb)), (a_g, (oc6 6 5 a_gn e_g)), (a_gn, (arI G 30 f_g)), (a_b, (oc6 5 24 a_bn e_b)), (a_bn, (arI G 120 f_b)), (a_p, (oc6 8 5 a_pn e_p)), (a_pn, (arI G 40 f_p)), (a_bb, (arJ G 24 f_bb)), (a_j, (oc2 a_as a_sk)), (a_as, (arI G 8 k_as)), (a_sk, (arJ G 50 k_sk)), (a_l, (arW G 6 f_l)), (a_pt, (arI G 200 k_pt))]) hP hD hS hA [0, 1, 2, 3, 4, 5, 6, 7, 8, 9, 10, 11, 12, 13] (by decide) rfl
        refine va_callv (va_runV (As := [.int z11, .int z14, .int z17, .int 0]) (rest := []) ⟨hx, hb, hml, hown, hts⟩ (k_runN l G a_k a_h a_g a_gn a_b a_bn a_p a_pn a_bb a_j a_as a_sk a_l a_pt a_s a_w H.size e_le e_st e_fo e_lc e_g e_b e_p k_ln k_se k_lh k_br k_we k_me k_ce k_wy k_ho k_ov z11 z14 z17 0 e_wa e_gb f_g f_b f_p f_bb k_as k_sk f_l k_pt h_e_g h_e_b h_e_p i_3 (e_gk) (e_pk) (e_gi) (e_f)) (cwV 4 hts gV_X7_76 rfl rfl rfl hv_X5_run ⟨Nat.le_of_ble_eq_true rfl, Nat.le_of_ble_eq_true rfl⟩) (g5_preV hPc hK hDc hN hT hS hFc (ci := 5) (q0 := 0) rfl rfl) rfl rfl hl.1 rfl (lv_room (Nat.le_of_ble_eq_true rfl)) dX7_load_112 ⟨Nat.le_of_ble_eq_true rfl, Nat.le_of_ble_eq_true rfl⟩) hS (fun q _ h => hFc q h) hFc (fun u t H1 locs ht hvm hw hB hz1 hk1 hS => ?_)
        obtain ⟨hP1, hD1⟩ := hB
        rw [ht] at hP1
        obtain ⟨z22, z23, z24, z25, z26, z27, z28, z29, z30, z31, z32, z33, z34, i_19, i_20, i_21, rfl⟩ := hw
        have i_19 : 0 ≤ z22.toInt ∧ z22.toInt ≤ 200 := i_19
        have i_20 : 0 ≤ z31.toInt ∧ z31.toInt ≤ 1 := i_20
        have i_21 : ∀ j : Nat, (j : Int) < z22.toInt → 0 ≤ (z32 j).toInt ∧ (z32 j).toInt ≤ 1535 := i_21
        obtain ⟨hP, hD⟩ := va_join (wr := [(a_th, (oc7 a_h a_k a_ba a_ad e_fu a_cn a_nx a_hp a_hl a_lv)), (a_ba, (arJ G 24 k_ba)), (a_ad, (arI G 1536 k_ad)), (a_s, (oc6 10 4 a_sn e_s)), (a_sn, (arI G 40 f_s))]) hP hD [0, 1, 2, 3, 4, 5, 6, 7, 8, 9, 10, 11, 12, 13] [14, 15, 16, 17, 18] rfl rfl (by decide) (by decide) hk1 hFc hP1 hD1
        generalize H1 = H at hP hS ⊢
        refine g5_rs [(a_th, (oc7 a_h a_k a_ba a_ad e_fu a_cn a_nx a_hp a_hl a_lv)), (a_ba, (arJ G 24 k_ba)), (a_ad, (arI G 1536 k_ad)), (a_s, (oc6 10 4 a_sn e_s)), (a_sn, (arI G 40 f_s)), (a_k, (oc5 a_h a_j a_pt z22 z23 z24 z25 z26 z27 z28 z29 z30 z31)), (a_h, (oc1 e_wa e_le e_st e_fo e_lc a_l a_g a_b a_s a_p a_w e_gb a_bb)), (a_g, (oc6 6 5 a_gn e_g)), (a_gn, (arI G 30 f_g)), (a_b, (oc6 5 24 a_bn e_b)), (a_bn, (arI G 120 f_b)), (a_p, (oc6 8 5 a_pn e_p)), (a_pn, (arI G 40 f_p)), (a_bb, (arJ G 24 f_bb)), (a_j, (oc2 a_as a_sk)), (a_as, (arI G 8 z33)), (a_sk, (arJ G 50 z34)), (a_l, (arW G 6 f_l)), (a_pt, (arI G 200 z32))] hP hD (fun hP hD => ?_)
        refine lv_aload_n hx hb dX7_load_115 rfl (lv_at hl 2 rfl) ?_
        refine lv_iload hx hb dX7_load_116 (lv_at hl 1 rfl) ?_
        refine lv_iconst (v := 3) hx hb dX7_load_118 (by decide) ?_
        obtain ⟨hPc, hDc, hFc⟩ := g5_sub3 (wc := [(a_s, (oc6 10 4 a_sn e_s)), (a_sn, (arI G 40 f_s))]) hP hD hS hA [3, 4] (by decide) rfl
        refine va_calli (va_runV (As := [.int k_i, .int 3]) (rest := []) ⟨hx, hb, hml, hown, hts⟩ (t_get_S l G a_s a_sn H.size e_s k_i 3 f_s h_e_s) (cwV 2 hts gV_X7_72 rfl rfl rfl hv_X6_get ⟨Nat.le_of_ble_eq_true rfl, Nat.le_of_ble_eq_true rfl⟩) (g5_preV hPc hK hDc hN hT hS hFc (ci := 6) (q0 := 0) rfl rfl) rfl rfl hl.1 rfl (lv_room (Nat.le_of_ble_eq_true rfl)) dX7_load_119 ⟨Nat.le_of_ble_eq_true rfl, Nat.le_of_ble_eq_true rfl⟩) hS (fun q _ h => hFc q h) hFc (fun r u t H1 locs ht hvm hw hB hz1 hk1 hS => ?_)
        obtain ⟨hP1, hD1⟩ := hB
        rw [ht] at hP1
        obtain ⟨z36, i_35, y37, rfl⟩ := hw
        have i_35 : z36 = tget f_s e_s.toInt 4 k_i.toInt (3 : Int32).toInt := i_35
        obtain ⟨hP, hD⟩ := va_join (wr := [(a_th, (oc7 a_h a_k a_ba a_ad e_fu a_cn a_nx a_hp a_hl a_lv)), (a_ba, (arJ G 24 k_ba)), (a_ad, (arI G 1536 k_ad)), (a_k, (oc5 a_h a_j a_pt z22 z23 z24 z25 z26 z27 z28 z29 z30 z31)), (a_h, (oc1 e_wa e_le e_st e_fo e_lc a_l a_g a_b a_s a_p a_w e_gb a_bb)), (a_g, (oc6 6 5 a_gn e_g)), (a_gn, (arI G 30 f_g)), (a_b, (oc6 5 24 a_bn e_b)), (a_bn, (arI G 120 f_b)), (a_p, (oc6 8 5 a_pn e_p)), (a_pn, (arI G 40 f_p)), (a_bb, (arJ G 24 f_bb)), (a_j, (oc2 a_as a_sk)), (a_as, (arI G 8 z33)), (a_sk, (arJ G 50 z34)), (a_l, (arW G 6 f_l)), (a_pt, (arI G 200 z32))]) hP hD [3, 4] [0, 1, 2, 5, 6, 7, 8, 9, 10, 11, 12, 13, 14, 15, 16, 17, 18] rfl rfl (by decide) (by decide) hk1 hFc hP1 hD1
        generalize H1 = H at hP hS ⊢
        refine g5_rs [(a_th, (oc7 a_h a_k a_ba a_ad e_fu a_cn a_nx a_hp a_hl a_lv)), (a_ba, (arJ G 24 k_ba)), (a_ad, (arI G 1536 k_ad)), (a_k, (oc5 a_h a_j a_pt z22 z23 z24 z25 z26 z27 z28 z29 z30 z31)), (a_h, (oc1 e_wa e_le e_st e_fo e_lc a_l a_g a_b a_s a_p a_w e_gb a_bb)), (a_g, (oc6 6 5 a_gn e_g)), (a_gn, (arI G 30 f_g)), (a_b, (oc6 5 24 a_bn e_b)), (a_bn, (arI G 120 f_b)), (a_p, (oc6 8 5 a_pn e_p)), (a_pn, (arI G 40 f_p)), (a_bb, (arJ G 24 f_bb)), (a_j, (oc2 a_as a_sk)), (a_as, (arI G 8 z33)), (a_sk, (arJ G 50 z34)), (a_l, (arW G 6 f_l)), (a_pt, (arI G 200 z32)), (a_s, (oc6 10 4 a_sn e_s)), (a_sn, (arI G 40 f_s))] hP hD (fun hP hD => ?_)
        refine g5_ti (v := z36) y37 ?_
        refine lv_iconst (v := 1) hx hb dX7_load_122 (by decide) ?_
        refine lv_icmp_ne (tgt := 138) hx hb dX7_load_123 (by decide) (fun c_38 => ?_) (fun c_38 => ?_)
        ·
          have n_38 : gNe (z36.toInt) (1) := by have z := g5_ne (a := z36.toInt) (b := 1) (by rfl) (by decide) c_38; unfold gNe; omega
          refine lv_aload_n hx hb dX7_load_138 rfl (lv_at hl 3 rfl) ?_
          obtain ⟨hPc, hDc, hFc⟩ := g5_sub3 (wc := [(a_th, (oc7 a_h a_k a_ba a_ad e_fu a_cn a_nx a_hp a_hl a_lv)), (a_k, (oc5 a_h a_j a_pt z22 z23 z24 z25 z26 z27 z28 z29 z30 z31)), (a_pt, (arI G 200 z32)), (a_ba, (arJ G 24 k_ba))]) hP hD hS hA [0, 3, 16, 1] (by decide) rfl
          refine va_callv (va_runV (As := []) (rest := []) ⟨hx, hb, hml, hown, hts⟩ (th_bar l G a_th a_k a_pt a_ba a_h a_ad a_cn a_nx a_hp a_hl a_lv a_j H.size e_fu z22 z23 z24 z25 z26 z27 z28 z29 z30 z31 z32 k_ba i_19 i_20 (i_21)) (cwV 0 hts gV_X7_86 rfl rfl rfl hv_X7_barPoints ⟨Nat.le_of_ble_eq_true rfl, Nat.le_of_ble_eq_true rfl⟩) (g5_preV hPc hK hDc hN hT hS hFc (ci := 7) (q0 := 0) rfl rfl) rfl rfl hl.1 rfl (lv_room (Nat.le_of_ble_eq_true rfl)) dX7_load_139 ⟨Nat.le_of_ble_eq_true rfl, Nat.le_of_ble_eq_true rfl⟩) hS (fun q _ h => hFc q h) hFc (fun u t H1 locs ht hvm hw hB hz1 hk1 hS => ?_)
          obtain ⟨hP1, hD1⟩ := hB
          rw [ht] at hP1
          obtain ⟨z39, rfl⟩ := hw
          obtain ⟨hP, hD⟩ := va_join (wr := [(a_ad, (arI G 1536 k_ad)), (a_h, (oc1 e_wa e_le e_st e_fo e_lc a_l a_g a_b a_s a_p a_w e_gb a_bb)), (a_g, (oc6 6 5 a_gn e_g)), (a_gn, (arI G 30 f_g)), (a_b, (oc6 5 24 a_bn e_b)), (a_bn, (arI G 120 f_b)), (a_p, (oc6 8 5 a_pn e_p)), (a_pn, (arI G 40 f_p)), (a_bb, (arJ G 24 f_bb)), (a_j, (oc2 a_as a_sk)), (a_as, (arI G 8 z33)), (a_sk, (arJ G 50 z34)), (a_l, (arW G 6 f_l)), (a_s, (oc6 10 4 a_sn e_s)), (a_sn, (arI G 40 f_s))]) hP hD [0, 3, 16, 1] [2, 4, 5, 6, 7, 8, 9, 10, 11, 12, 13, 14, 15, 17, 18] rfl rfl (by decide) (by decide) hk1 hFc hP1 hD1
          generalize H1 = H at hP hS ⊢
          refine g5_rs [(a_ad, (arI G 1536 k_ad)), (a_h, (oc1 e_wa e_le e_st e_fo e_lc a_l a_g a_b a_s a_p a_w e_gb a_bb)), (a_g, (oc6 6 5 a_gn e_g)), (a_gn, (arI G 30 f_g)), (a_b, (oc6 5 24 a_bn e_b)), (a_bn, (arI G 120 f_b)), (a_p, (oc6 8 5 a_pn e_p)), (a_pn, (arI G 40 f_p)), (a_bb, (arJ G 24 f_bb)), (a_j, (oc2 a_as a_sk)), (a_as, (arI G 8 z33)), (a_sk, (arJ G 50 z34)), (a_l, (arW G 6 f_l)), (a_s, (oc6 10 4 a_sn e_s)), (a_sn, (arI G 40 f_s)), (a_th, (oc7 a_h a_k a_ba a_ad e_fu a_cn a_nx a_hp a_hl a_lv)), (a_k, (oc5 a_h a_j a_pt z22 z23 z24 z25 z26 z27 z28 z29 z30 z31)), (a_pt, (arI G 200 z32)), (a_ba, (arJ G 24 z39))] hP hD (fun hP hD => ?_)
          refine lv_iinc (v := (k_i + 1)) (lv' := [(4, .int (k_i + 1)), (2, .int k_b), (3, .ref a_s), (0, .ref a_th), (1, .int p_s)]) hx hb dX7_load_142 hl (k := 1) rfl rfl (by decide) rfl (fun ls hl => ?_)
          have t_40 : (k_i + 1).toInt = k_i.toInt + 1 := g5_iadd (a := k_i.toInt) (b := 1) rfl (by decide) (by omega) (by omega)
          refine lv_goto (tgt := 68) hx hb dX7_load_145 (by decide) ?_
          exact ih_68_6 (k_b, (k_i + 1), z23, z24, z25, z26, z27, z28, z29, z30, z31, z32, z33, z34, z22, z39, k_ad) ls H locs (show Int.toNat (10 - (k_i + 1).toInt) < Int.toNat (10 - k_i.toInt) from g_up (show k_i.toInt < (k_i + 1).toInt by omega) (show k_i.toInt < 10 by omega)) ⟨lv_sub hl [1, 0, 2, 3, 4] rfl, hP.sub [16, 1, 2, 3, 4, 5, 6, 7, 13, 14, 8, 9, 10, 11, 12, 17, 15, 18, 0] rfl, hD.sub [16, 1, 2, 3, 4, 5, 6, 7, 13, 14, 8, 9, 10, 11, 12, 17, 15, 18, 0] (by decide) rfl, hS, ⟨by omega, by omega⟩, i_20, by omega, ld_stay i_5 e_sh (by omega) (by omega) (by omega)⟩
        ·
          have i_38 : z36.toInt = 1 := by have z := g5_neN (a := z36.toInt) (b := 1) (by rfl) (by decide) c_38; omega
          obtain ⟨gs_41, hg1_41, hg2_41, hg3_41⟩ := id i_5
          have hg4_41 : gs_41 < 5 := ld_lt hg1_41 e_sh e_s5 i_35 (by omega) (by omega) (by omega)
          have hg5_41 : mOK k_ad (gs_41 + 1) := mOK_up hg3_41
          refine lv_aload_n hx hb dX7_load_126 rfl (lv_at hl 3 rfl) ?_
          refine lv_iload_n hx hb dX7_load_127 rfl (lv_at hl 0 rfl) ?_
          obtain ⟨hPc, hDc, hFc⟩ := g5_sub3 (wc := [(a_th, (oc7 a_h a_k a_ba a_ad e_fu a_cn a_nx a_hp a_hl a_lv)), (a_k, (oc5 a_h a_j a_pt z22 z23 z24 z25 z26 z27 z28 z29 z30 z31)), (a_pt, (arI G 200 z32)), (a_ad, (arI G 1536 k_ad))]) hP hD hS hA [0, 3, 16, 2] (by decide) rfl
          refine va_callv (va_runV (As := [.int k_b]) (rest := []) ⟨hx, hb, hml, hown, hts⟩ (th_add l G a_th a_k a_pt a_ad a_h a_ba a_cn a_nx a_hp a_hl a_lv a_j H.size e_fu z22 z23 z24 z25 z26 z27 z28 z29 z30 z31 k_b z32 k_ad gs_41 i_19 i_20 (i_21) (hg4_41) (hg2_41) (hg5_41)) (cwV 1 hts gV_X7_82 rfl rfl rfl hv_X7_addPoints ⟨Nat.le_of_ble_eq_true rfl, Nat.le_of_ble_eq_true rfl⟩) (g5_preV hPc hK hDc hN hT hS hFc (ci := 7) (q0 := 0) rfl rfl) rfl rfl hl.1 rfl (lv_room (Nat.le_of_ble_eq_true rfl)) dX7_load_128 ⟨Nat.le_of_ble_eq_true rfl, Nat.le_of_ble_eq_true rfl⟩) hS (fun q _ h => hFc q h) hFc (fun u t H1 locs ht hvm hw hB hz1 hk1 hS => ?_)
          obtain ⟨hP1, hD1⟩ := hB
          rw [ht] at hP1
          obtain ⟨z43, i_42, rfl⟩ := hw
          have i_42 : mOK z43 (gs_41 + 1) := i_42
          obtain ⟨hP, hD⟩ := va_join (wr := [(a_ba, (arJ G 24 k_ba)), (a_h, (oc1 e_wa e_le e_st e_fo e_lc a_l a_g a_b a_s a_p a_w e_gb a_bb)), (a_g, (oc6 6 5 a_gn e_g)), (a_gn, (arI G 30 f_g)), (a_b, (oc6 5 24 a_bn e_b)), (a_bn, (arI G 120 f_b)), (a_p, (oc6 8 5 a_pn e_p)), (a_pn, (arI G 40 f_p)), (a_bb, (arJ G 24 f_bb)), (a_j, (oc2 a_as a_sk)), (a_as, (arI G 8 z33)), (a_sk, (arJ G 50 z34)), (a_l, (arW G 6 f_l)), (a_s, (oc6 10 4 a_sn e_s)), (a_sn, (arI G 40 f_s))]) hP hD [0, 3, 16, 2] [1, 4, 5, 6, 7, 8, 9, 10, 11, 12, 13, 14, 15, 17, 18] rfl rfl (by decide) (by decide) hk1 hFc hP1 hD1
          generalize H1 = H at hP hS ⊢
          refine g5_rs [(a_ba, (arJ G 24 k_ba)), (a_h, (oc1 e_wa e_le e_st e_fo e_lc a_l a_g a_b a_s a_p a_w e_gb a_bb)), (a_g, (oc6 6 5 a_gn e_g)), (a_gn, (arI G 30 f_g)), (a_b, (oc6 5 24 a_bn e_b)), (a_bn, (arI G 120 f_b)), (a_p, (oc6 8 5 a_pn e_p)), (a_pn, (arI G 40 f_p)), (a_bb, (arJ G 24 f_bb)), (a_j, (oc2 a_as a_sk)), (a_as, (arI G 8 z33)), (a_sk, (arJ G 50 z34)), (a_l, (arW G 6 f_l)), (a_s, (oc6 10 4 a_sn e_s)), (a_sn, (arI G 40 f_s)), (a_th, (oc7 a_h a_k a_ba a_ad e_fu a_cn a_nx a_hp a_hl a_lv)), (a_k, (oc5 a_h a_j a_pt z22 z23 z24 z25 z26 z27 z28 z29 z30 z31)), (a_pt, (arI G 200 z32)), (a_ad, (arI G 1536 z43))] hP hD (fun hP hD => ?_)
          refine lv_iload_n hx hb dX7_load_131 rfl (lv_at hl 0 rfl) ?_
          refine lv_iconst (v := 1) hx hb dX7_load_132 (by decide) ?_
          refine lv_ishl hx hb dX7_load_133 ?_
          refine lv_istore_n (lv' := [(2, .int (k_b <<< (1 &&& 31))), (4, .int k_i), (3, .ref a_s), (0, .ref a_th), (1, .int p_s)]) hx hb dX7_load_134 rfl hl (by decide) rfl (fun ls hl => ?_)
          refine lv_goto (tgt := 142) hx hb dX7_load_135 (by decide) ?_
          refine lv_iinc (v := (k_i + 1)) (lv' := [(4, .int (k_i + 1)), (2, .int (k_b <<< (1 &&& 31))), (3, .ref a_s), (0, .ref a_th), (1, .int p_s)]) hx hb dX7_load_142 hl (k := 1) rfl rfl (by decide) rfl (fun ls hl => ?_)
          have t_44 : (k_i + 1).toInt = k_i.toInt + 1 := g5_iadd (a := k_i.toInt) (b := 1) rfl (by decide) (by omega) (by omega)
          refine lv_goto (tgt := 68) hx hb dX7_load_145 (by decide) ?_
          exact ih_68_6 ((k_b <<< (1 &&& 31)), (k_i + 1), z23, z24, z25, z26, z27, z28, z29, z30, z31, z32, z33, z34, z22, k_ba, z43) ls H locs (show Int.toNat (10 - (k_i + 1).toInt) < Int.toNat (10 - k_i.toInt) from g_up (show k_i.toInt < (k_i + 1).toInt by omega) (show k_i.toInt < 10 by omega)) ⟨lv_sub hl [1, 0, 2, 3, 4] rfl, hP.sub [16, 1, 2, 3, 4, 5, 6, 7, 13, 14, 8, 9, 10, 11, 12, 17, 15, 0, 18] rfl, hD.sub [16, 1, 2, 3, 4, 5, 6, 7, 13, 14, 8, 9, 10, 11, 12, 17, 15, 0, 18] (by decide) rfl, hS, ⟨by omega, by omega⟩, i_20, by omega, ld_go hg1_41 hg2_41 hg4_41 i_42 i_35 (by omega) (by omega) (by omega)⟩
  ·
    have n_1 : gNe (e_st.toInt) ((-1)) := by have z := g5_eqN (a := e_st.toInt) (b := (-1)) (by rfl) (by decide) c_1; unfold gNe; omega
    refine lv_aload_n hx hb dX7_load_33 rfl (lv_at hl 0 rfl) ?_
    refine va_get (D := G.1) (ci := 7) (v := .ref a_ba) (C := RX7) (T := TX7) (N := 10) hx hb hts inG_X7 hown hK hP 16 rfl rfl 2 (by decide) (hts _ fl_X7_9) (fun _ h9 => h9) rfl dX7_load_34 ?_
    refine lv_iconst (v := 0) hx hb dX7_load_37 (by decide) ?_
    refine lv_dup2_11 hx hb dX7_load_38 rfl rfl ?_
    refine va_lald hx hb hK hP 17 1 rfl rfl (i := 0) (by unfold vp_in; decide) dX7_load_39 ?_
    refine g5_tl (v := ((fun _ => e_wa) 0)) rfl ?_
    refine lv_lconst (v := 1) hx hb dX7_load_40 (by decide) ?_
    refine lv_aload_n hx hb dX7_load_41 rfl (lv_at hl 0 rfl) ?_
    refine va_get (D := G.1) (ci := 7) (v := .ref a_h) (C := RX7) (T := TX7) (N := 10) hx hb hts inG_X7 hown hK hP 16 rfl rfl 0 (by decide) (hts _ fl_X7_34) (fun _ h9 => h9) rfl dX7_load_42 ?_
    refine va_get (D := G.1) (ci := 1) (v := .int e_st) (C := RX1) (T := TX1) (N := 13) hx hb hts inG_X1 hown hK hP 1 rfl rfl 2 (by decide) (hts _ fl_X7_67) (fun _ h9 => h9) rfl dX7_load_45 ?_
    refine lv_lshl (v := ((1 : Int64) <<< (e_st.toInt64 &&& 63))) hx hb dX7_load_48 rfl ?_
    refine lv_ldc2 (v := (-1)) hx hb hown (hts _ kl_X7_70) dX7_load_49 ?_
    refine lv_lxor hx hb dX7_load_52 ?_
    refine lv_lor hx hb dX7_load_53 ?_
    refine va_last hx hb hK hP hD hS 17 1 rfl rfl (i := 0) (x := (((fun _ => e_wa) 0) ||| (((1 : Int64) <<< (e_st.toInt64 &&& 63)) ^^^ (-1)))) (by unfold vp_in; decide) dX7_load_54 (fun H locs hP hD hS => ?_)
    refine g5_rs [(a_k, (oc5 a_h a_j a_pt e_ln e_se e_lh e_br e_we e_me e_ce e_wy e_ho e_ov)), (a_h, (oc1 e_wa e_le e_st e_fo e_lc a_l a_g a_b a_s a_p a_w e_gb a_bb)), (a_g, (oc6 6 5 a_gn e_g)), (a_gn, (arI G 30 f_g)), (a_b, (oc6 5 24 a_bn e_b)), (a_bn, (arI G 120 f_b)), (a_p, (oc6 8 5 a_pn e_p)), (a_pn, (arI G 40 f_p)), (a_s, (oc6 10 4 a_sn e_s)), (a_sn, (arI G 40 f_s)), (a_bb, (arJ G 24 f_bb)), (a_j, (oc2 a_as a_sk)), (a_as, (arI G 8 f_as)), (a_sk, (arJ G 50 f_sk)), (a_l, (arW G 6 f_l)), (a_pt, (arI G 200 f_pt)), (a_th, (oc7 a_h a_k a_ba a_ad e_fu a_cn a_nx a_hp a_hl a_lv)), (a_ba, (arJ G 24 (vp_updL (fun _ => e_wa) 0 (((fun _ => e_wa) 0) ||| (((1 : Int64) <<< (e_st.toInt64 &&& 63)) ^^^ (-1)))))), (a_ad, (arI G 1536 (fun _ => (0 : Int32))))] hP hD (fun hP hD => ?_)
    refine lv_iconst (v := 1) hx hb dX7_load_55 (by decide) ?_
    refine lv_istore_n (lv' := [(2, .int 1), (0, .ref a_th), (1, .int p_s)]) hx hb dX7_load_56 rfl hl (by decide) rfl (fun ls hl => ?_)
    refine lv_aload_n hx hb dX7_load_57 rfl (lv_at hl 1 rfl) ?_
    refine va_get (D := G.1) (ci := 7) (v := .ref a_h) (C := RX7) (T := TX7) (N := 10) hx hb hts inG_X7 hown hK hP 16 rfl rfl 0 (by decide) (hts _ fl_X7_34) (fun _ h9 => h9) rfl dX7_load_58 ?_
    refine va_get (D := G.1) (ci := 1) (v := .ref a_s) (C := RX1) (T := TX1) (N := 13) hx hb hts inG_X1 hown hK hP 1 rfl rfl 8 (by decide) (hts _ fl_X7_42) (fun _ h9 => h9) rfl dX7_load_61 ?_
    refine lv_astore_n (lv' := [(3, .ref a_s), (2, .int 1), (0, .ref a_th), (1, .int p_s)]) hx hb dX7_load_64 rfl hl (by decide) rfl (fun ls hl => ?_)
    refine lv_iconst (v := 0) hx hb dX7_load_65 (by decide) ?_
    refine lv_istore (lv' := [(4, .int 0), (3, .ref a_s), (2, .int 1), (0, .ref a_th), (1, .int p_s)]) hx hb dX7_load_66 hl (by decide) rfl (fun ls hl => ?_)
    refine g5_loop (α := (Int32) × (Int32) × (Int32) × (Int32) × (Int32) × (Int32) × (Int32) × (Int32) × (Int32) × (Int32) × (Int32) × (Nat → Int32) × (Nat → Int32) × (Nat → Int64) × (Int32) × (Nat → Int64) × (Nat → Int32)) (fun (q : (Int32) × (Int32) × (Int32) × (Int32) × (Int32) × (Int32) × (Int32) × (Int32) × (Int32) × (Int32) × (Int32) × (Nat → Int32) × (Nat → Int32) × (Nat → Int64) × (Int32) × (Nat → Int64) × (Nat → Int32)) (ls : Array Slot) (H : Heap) (locs : List Loc) => match q with | (k_b, k_i, k_se, k_lh, k_br, k_we, k_me, k_ce, k_wy, k_ho, k_ov, k_pt, k_as, k_sk, k_ln, k_ba, k_ad) => lv_has ls 5 [(2, .int k_b), (4, .int k_i), (3, .ref a_s), (0, .ref a_th), (1, .int p_s)] ∧ va_P G.1 vwCl [(a_k, (oc5 a_h a_j a_pt k_ln k_se k_lh k_br k_we k_me k_ce k_wy k_ho k_ov)), (a_h, (oc1 e_wa e_le e_st e_fo e_lc a_l a_g a_b a_s a_p a_w e_gb a_bb)), (a_g, (oc6 6 5 a_gn e_g)), (a_gn, (arI G 30 f_g)), (a_b, (oc6 5 24 a_bn e_b)), (a_bn, (arI G 120 f_b)), (a_p, (oc6 8 5 a_pn e_p)), (a_pn, (arI G 40 f_p)), (a_s, (oc6 10 4 a_sn e_s)), (a_sn, (arI G 40 f_s)), (a_bb, (arJ G 24 f_bb)), (a_j, (oc2 a_as a_sk)), (a_as, (arI G 8 k_as)), (a_sk, (arJ G 50 k_sk)), (a_l, (arW G 6 f_l)), (a_pt, (arI G 200 k_pt)), (a_th, (oc7 a_h a_k a_ba a_ad e_fu a_cn a_nx a_hp a_hl a_lv)), (a_ba, (arJ G 24 k_ba)), (a_ad, (arI G 1536 k_ad))] H ∧ va_D A [(a_k, (oc5 a_h a_j a_pt k_ln k_se k_lh k_br k_we k_me k_ce k_wy k_ho k_ov)), (a_h, (oc1 e_wa e_le e_st e_fo e_lc a_l a_g a_b a_s a_p a_w e_gb a_bb)), (a_g, (oc6 6 5 a_gn e_g)), (a_gn, (arI G 30 f_g)), (a_b, (oc6 5 24 a_bn e_b)), (a_bn, (arI G 120 f_b)), (a_p, (oc6 8 5 a_pn e_p)), (a_pn, (arI G 40 f_p)), (a_s, (oc6 10 4 a_sn e_s)), (a_sn, (arI G 40 f_s)), (a_bb, (arJ G 24 f_bb)), (a_j, (oc2 a_as a_sk)), (a_as, (arI G 8 k_as)), (a_sk, (arJ G 50 k_sk)), (a_l, (arW G 6 f_l)), (a_pt, (arI G 200 k_pt)), (a_th, (oc7 a_h a_k a_ba a_ad e_fu a_cn a_nx a_hp a_hl a_lv)), (a_ba, (arJ G 24 k_ba)), (a_ad, (arI G 1536 k_ad))] ∧ va_S A s.heap H locs ∧ (0 ≤ k_i.toInt ∧ k_i.toInt ≤ 10) ∧ (0 ≤ k_ov.toInt ∧ k_ov.toInt ≤ 1) ∧ (k_i.toInt ≤ e_s.toInt) ∧ (LDI f_s e_s.toInt k_i.toInt k_b k_ad)) (fun (q : (Int32) × (Int32) × (Int32) × (Int32) × (Int32) × (Int32) × (Int32) × (Int32) × (Int32) × (Int32) × (Int32) × (Nat → Int32) × (Nat → Int32) × (Nat → Int64) × (Int32) × (Nat → Int64) × (Nat → Int32)) => match q with | (k_b, k_i, k_se, k_lh, k_br, k_we, k_me, k_ce, k_wy, k_ho, k_ov, k_pt, k_as, k_sk, k_ln, k_ba, k_ad) => Int.toNat (10 - k_i.toInt)) (1, 0, e_se, e_lh, e_br, e_we, e_me, e_ce, e_wy, e_ho, e_ov, f_pt, f_as, f_sk, e_ln, (vp_updL (fun _ => e_wa) 0 (((fun _ => e_wa) 0) ||| (((1 : Int64) <<< (e_st.toInt64 &&& 63)) ^^^ (-1)))), (fun _ => (0 : Int32))) ⟨lv_sub hl [2, 0, 1, 3, 4] rfl, hP, hD, hS, ⟨by decide, by decide⟩, h_e_ov, by have z0 : (0 : Int32).toInt = 0 := (by decide); omega, ld_0⟩ ?_
    rintro ⟨k_b, k_i, k_se, k_lh, k_br, k_we, k_me, k_ce, k_wy, k_ho, k_ov, k_pt, k_as, k_sk, k_ln, k_ba, k_ad⟩ ls H locs ⟨hl, hP, hD, hS, i_45, i_46, i_47, i_48⟩ ih_68_49
    have hl : lv_has ls 5 [(2, .int k_b), (4, .int k_i), (3, .ref a_s), (0, .ref a_th), (1, .int p_s)] := hl
    have i_45 : 0 ≤ k_i.toInt ∧ k_i.toInt ≤ 10 := i_45
    have i_46 : 0 ≤ k_ov.toInt ∧ k_ov.toInt ≤ 1 := i_46
    have i_47 : k_i.toInt ≤ e_s.toInt := i_47
    have i_48 : LDI f_s e_s.toInt k_i.toInt k_b k_ad := i_48
    refine g5_rs [(a_k, (oc5 a_h a_j a_pt k_ln k_se k_lh k_br k_we k_me k_ce k_wy k_ho k_ov)), (a_h, (oc1 e_wa e_le e_st e_fo e_lc a_l a_g a_b a_s a_p a_w e_gb a_bb)), (a_g, (oc6 6 5 a_gn e_g)), (a_gn, (arI G 30 f_g)), (a_b, (oc6 5 24 a_bn e_b)), (a_bn, (arI G 120 f_b)), (a_p, (oc6 8 5 a_pn e_p)), (a_pn, (arI G 40 f_p)), (a_s, (oc6 10 4 a_sn e_s)), (a_sn, (arI G 40 f_s)), (a_bb, (arJ G 24 f_bb)), (a_j, (oc2 a_as a_sk)), (a_as, (arI G 8 k_as)), (a_sk, (arJ G 50 k_sk)), (a_l, (arW G 6 f_l)), (a_pt, (arI G 200 k_pt)), (a_th, (oc7 a_h a_k a_ba a_ad e_fu a_cn a_nx a_hp a_hl a_lv)), (a_ba, (arJ G 24 k_ba)), (a_ad, (arI G 1536 k_ad))] hP hD (fun hP hD => ?_)
    refine lv_iload hx hb dX7_load_68 (lv_at hl 1 rfl) ?_
    refine lv_aload_n hx hb dX7_load_70 rfl (lv_at hl 2 rfl) ?_
    refine va_get (D := G.1) (ci := 6) (v := .int e_s) (C := RX6) (T := TX6) (N := 4) hx hb hts inG_X6 hown hK hP 8 rfl rfl 3 (by decide) (hts _ fl_X7_48) (fun _ h9 => h9) rfl dX7_load_71 ?_
    refine lv_icmp_ge (tgt := 148) hx hb dX7_load_74 (by decide) (fun c_50 => ?_) (fun c_50 => ?_)
    ·
      have i_50 : k_i.toInt ≥ e_s.toInt := by have z := g5_ge (a := k_i.toInt) (b := e_s.toInt) (by rfl) (by rfl) c_50; omega
      refine lv_aload_n hx hb dX7_load_148 rfl (lv_at hl 3 rfl) ?_
      refine lv_iload_n hx hb dX7_load_149 rfl (lv_at hl 0 rfl) ?_
      refine lv_iconst (v := 1) hx hb dX7_load_150 (by decide) ?_
      refine lv_isub hx hb dX7_load_151 ?_
      refine va_put (D := G.1) (ci := 7) (v := .int (k_b - 1)) (ty := .int) (C := RX7) (T := TX7) (N := 10) hx hb hts inG_X7 tyX7 tyX7_ok nmX7 hown hK hP hD hS 16 rfl rfl 4 (by decide) (hts _ fl_X7_89) (fun _ h9 => h9) rfl (by decide +kernel) rfl rfl (Nat.le_of_ble_eq_true rfl) dX7_load_152 (fun H locs hP hD hS => ?_)
      refine g5_rs [(a_k, (oc5 a_h a_j a_pt k_ln k_se k_lh k_br k_we k_me k_ce k_wy k_ho k_ov)), (a_h, (oc1 e_wa e_le e_st e_fo e_lc a_l a_g a_b a_s a_p a_w e_gb a_bb)), (a_g, (oc6 6 5 a_gn e_g)), (a_gn, (arI G 30 f_g)), (a_b, (oc6 5 24 a_bn e_b)), (a_bn, (arI G 120 f_b)), (a_p, (oc6 8 5 a_pn e_p)), (a_pn, (arI G 40 f_p)), (a_s, (oc6 10 4 a_sn e_s)), (a_sn, (arI G 40 f_s)), (a_bb, (arJ G 24 f_bb)), (a_j, (oc2 a_as a_sk)), (a_as, (arI G 8 k_as)), (a_sk, (arJ G 50 k_sk)), (a_l, (arW G 6 f_l)), (a_pt, (arI G 200 k_pt)), (a_th, (oc7 a_h a_k a_ba a_ad (k_b - 1) a_cn a_nx a_hp a_hl a_lv)), (a_ba, (arJ G 24 k_ba)), (a_ad, (arI G 1536 k_ad))] hP hD (fun hP hD => ?_)
      exact W.vret hx hb hr (fun t ht hW => ⟨⟨[(a_k, (oc5 a_h a_j a_pt k_ln k_se k_lh k_br k_we k_me k_ce k_wy k_ho k_ov)), (a_h, (oc1 e_wa e_le e_st e_fo e_lc a_l a_g a_b a_s a_p a_w e_gb a_bb)), (a_g, (oc6 6 5 a_gn e_g)), (a_gn, (arI G 30 f_g)), (a_b, (oc6 5 24 a_bn e_b)), (a_bn, (arI G 120 f_b)), (a_p, (oc6 8 5 a_pn e_p)), (a_pn, (arI G 40 f_p)), (a_s, (oc6 10 4 a_sn e_s)), (a_sn, (arI G 40 f_s)), (a_bb, (arJ G 24 f_bb)), (a_j, (oc2 a_as a_sk)), (a_as, (arI G 8 k_as)), (a_sk, (arJ G 50 k_sk)), (a_l, (arW G 6 f_l)), (a_pt, (arI G 200 k_pt)), (a_th, (oc7 a_h a_k a_ba a_ad (k_b - 1) a_cn a_nx a_hp a_hl a_lv)), (a_ba, (arJ G 24 k_ba)), (a_ad, (arI G 1536 k_ad))], rfl, ⟨k_ln, k_se, k_lh, k_br, k_we, k_me, k_ce, k_wy, k_ho, k_ov, k_pt, k_as, k_sk, (k_b - 1), k_ba, k_ad, i_46, ld_end i_48 e_sh e_s5 (by omega) (by omega), rfl⟩, by rw [ht]; exact hP.sub [0, 1, 2, 3, 4, 5, 6, 7, 8, 9, 10, 11, 12, 13, 14, 15, 16, 17, 18] rfl, hD.sub [0, 1, 2, 3, 4, 5, 6, 7, 8, 9, 10, 11, 12, 13, 14, 15, 16, 17, 18] (by decide) rfl⟩, hS.F ht⟩) hS.2.2 dX7_load_155
    ·
      have i_50 : k_i.toInt < e_s.toInt := by have z := g5_geN (a := k_i.toInt) (b := e_s.toInt) (by rfl) (by rfl) c_50; omega
      refine lv_iload_n hx hb dX7_load_77 rfl (lv_at hl 4 rfl) ?_
      refine lv_iload hx hb dX7_load_78 (lv_at hl 1 rfl) ?_
      refine lv_ishr hx hb dX7_load_80 ?_
      refine lv_iconst (v := 1) hx hb dX7_load_81 (by decide) ?_
      refine lv_iand hx hb dX7_load_82 ?_
      refine lv_if_eq (tgt := 142) hx hb dX7_load_83 (by decide) (fun c_51 => ?_) (fun c_51 => ?_)
      ·
        have i_51 : ((p_s >>> (k_i &&& 31)) &&& 1).toInt = 0 := by have z := g5_eq (a := ((p_s >>> (k_i &&& 31)) &&& 1).toInt) (b := 0) (by rfl) (by decide) c_51; omega
        refine lv_iinc (v := (k_i + 1)) (lv' := [(4, .int (k_i + 1)), (2, .int k_b), (3, .ref a_s), (0, .ref a_th), (1, .int p_s)]) hx hb dX7_load_142 hl (k := 1) rfl rfl (by decide) rfl (fun ls hl => ?_)
        have t_52 : (k_i + 1).toInt = k_i.toInt + 1 := g5_iadd (a := k_i.toInt) (b := 1) rfl (by decide) (by omega) (by omega)
        refine lv_goto (tgt := 68) hx hb dX7_load_145 (by decide) ?_
        exact ih_68_49 (k_b, (k_i + 1), k_se, k_lh, k_br, k_we, k_me, k_ce, k_wy, k_ho, k_ov, k_pt, k_as, k_sk, k_ln, k_ba, k_ad) ls H locs (show Int.toNat (10 - (k_i + 1).toInt) < Int.toNat (10 - k_i.toInt) from g_up (show k_i.toInt < (k_i + 1).toInt by omega) (show k_i.toInt < 10 by omega)) ⟨lv_sub hl [1, 0, 2, 3, 4] rfl, hP, hD, hS, ⟨by omega, by omega⟩, i_46, by omega, ld_stay i_48 e_sh (by omega) (by omega) (by omega)⟩
      ·
        have n_51 : gNe (((p_s >>> (k_i &&& 31)) &&& 1).toInt) (0) := by have z := g5_eqN (a := ((p_s >>> (k_i &&& 31)) &&& 1).toInt) (b := 0) (by rfl) (by decide) c_51; unfold gNe; omega
        refine lv_aload_n hx hb dX7_load_86 rfl (lv_at hl 3 rfl) ?_
        refine va_get (D := G.1) (ci := 7) (v := .ref a_k) (C := RX7) (T := TX7) (N := 10) hx hb hts inG_X7 hown hK hP 16 rfl rfl 1 (by decide) (hts _ fl_X7_38) (fun _ h9 => h9) rfl dX7_load_87 ?_
        refine lv_aload_n hx hb dX7_load_90 rfl (lv_at hl 2 rfl) ?_
        refine lv_iload hx hb dX7_load_91 (lv_at hl 1 rfl) ?_
        refine lv_iconst (v := 0) hx hb dX7_load_93 (by decide) ?_
        obtain ⟨hPc, hDc, hFc⟩ := g5_sub3 (wc := [(a_s, (oc6 10 4 a_sn e_s)), (a_sn, (arI G 40 f_s))]) hP hD hS hA [8, 9] (by decide) rfl
        refine va_calli (va_runV (As := [.int k_i, .int 0]) (rest := [.ref a_k]) ⟨hx, hb, hml, hown, hts⟩ (t_get_S l G a_s a_sn H.size e_s k_i 0 f_s h_e_s) (cwV 2 hts gV_X7_72 rfl rfl rfl hv_X6_get ⟨Nat.le_of_ble_eq_true rfl, Nat.le_of_ble_eq_true rfl⟩) (g5_preV hPc hK hDc hN hT hS hFc (ci := 6) (q0 := 0) rfl rfl) rfl rfl hl.1 rfl (lv_room (Nat.le_of_ble_eq_true rfl)) dX7_load_94 ⟨Nat.le_of_ble_eq_true rfl, Nat.le_of_ble_eq_true rfl⟩) hS (fun q _ h => hFc q h) hFc (fun r u t H1 locs ht hvm hw hB hz1 hk1 hS => ?_)
        obtain ⟨hP1, hD1⟩ := hB
        rw [ht] at hP1
        obtain ⟨z54, i_53, y55, rfl⟩ := hw
        have i_53 : z54 = tget f_s e_s.toInt 4 k_i.toInt (0 : Int32).toInt := i_53
        obtain ⟨hP, hD⟩ := va_join (wr := [(a_k, (oc5 a_h a_j a_pt k_ln k_se k_lh k_br k_we k_me k_ce k_wy k_ho k_ov)), (a_h, (oc1 e_wa e_le e_st e_fo e_lc a_l a_g a_b a_s a_p a_w e_gb a_bb)), (a_g, (oc6 6 5 a_gn e_g)), (a_gn, (arI G 30 f_g)), (a_b, (oc6 5 24 a_bn e_b)), (a_bn, (arI G 120 f_b)), (a_p, (oc6 8 5 a_pn e_p)), (a_pn, (arI G 40 f_p)), (a_bb, (arJ G 24 f_bb)), (a_j, (oc2 a_as a_sk)), (a_as, (arI G 8 k_as)), (a_sk, (arJ G 50 k_sk)), (a_l, (arW G 6 f_l)), (a_pt, (arI G 200 k_pt)), (a_th, (oc7 a_h a_k a_ba a_ad e_fu a_cn a_nx a_hp a_hl a_lv)), (a_ba, (arJ G 24 k_ba)), (a_ad, (arI G 1536 k_ad))]) hP hD [8, 9] [0, 1, 2, 3, 4, 5, 6, 7, 10, 11, 12, 13, 14, 15, 16, 17, 18] rfl rfl (by decide) (by decide) hk1 hFc hP1 hD1
        generalize H1 = H at hP hS ⊢
        refine g5_rs [(a_k, (oc5 a_h a_j a_pt k_ln k_se k_lh k_br k_we k_me k_ce k_wy k_ho k_ov)), (a_h, (oc1 e_wa e_le e_st e_fo e_lc a_l a_g a_b a_s a_p a_w e_gb a_bb)), (a_g, (oc6 6 5 a_gn e_g)), (a_gn, (arI G 30 f_g)), (a_b, (oc6 5 24 a_bn e_b)), (a_bn, (arI G 120 f_b)), (a_p, (oc6 8 5 a_pn e_p)), (a_pn, (arI G 40 f_p)), (a_bb, (arJ G 24 f_bb)), (a_j, (oc2 a_as a_sk)), (a_as, (arI G 8 k_as)), (a_sk, (arJ G 50 k_sk)), (a_l, (arW G 6 f_l)), (a_pt, (arI G 200 k_pt)), (a_th, (oc7 a_h a_k a_ba a_ad e_fu a_cn a_nx a_hp a_hl a_lv)), (a_ba, (arJ G 24 k_ba)), (a_ad, (arI G 1536 k_ad)), (a_s, (oc6 10 4 a_sn e_s)), (a_sn, (arI G 40 f_s))] hP hD (fun hP hD => ?_)
        refine g5_ti (v := z54) y55 ?_
        refine lv_aload_n hx hb dX7_load_97 rfl (lv_at hl 2 rfl) ?_
        refine lv_iload hx hb dX7_load_98 (lv_at hl 1 rfl) ?_
        refine lv_iconst (v := 1) hx hb dX7_load_100 (by decide) ?_
        obtain ⟨hPc, hDc, hFc⟩ := g5_sub3 (wc := [(a_s, (oc6 10 4 a_sn e_s)), (a_sn, (arI G 40 f_s))]) hP hD hS hA [17, 18] (by decide) rfl
        refine va_calli (va_runV (As := [.int k_i, .int 1]) (rest := [.int z54, .ref a_k]) ⟨hx, hb, hml, hown, hts⟩ (t_get_S l G a_s a_sn H.size e_s k_i 1 f_s h_e_s) (cwV 2 hts gV_X7_72 rfl rfl rfl hv_X6_get ⟨Nat.le_of_ble_eq_true rfl, Nat.le_of_ble_eq_true rfl⟩) (g5_preV hPc hK hDc hN hT hS hFc (ci := 6) (q0 := 0) rfl rfl) rfl rfl hl.1 rfl (lv_room (Nat.le_of_ble_eq_true rfl)) dX7_load_101 ⟨Nat.le_of_ble_eq_true rfl, Nat.le_of_ble_eq_true rfl⟩) hS (fun q _ h => hFc q h) hFc (fun r u t H1 locs ht hvm hw hB hz1 hk1 hS => ?_)
        obtain ⟨hP1, hD1⟩ := hB
        rw [ht] at hP1
        obtain ⟨z57, i_56, y58, rfl⟩ := hw
        have i_56 : z57 = tget f_s e_s.toInt 4 k_i.toInt (1 : Int32).toInt := i_56
        obtain ⟨hP, hD⟩ := va_join (wr := [(a_k, (oc5 a_h a_j a_pt k_ln k_se k_lh k_br k_we k_me k_ce k_wy k_ho k_ov)), (a_h, (oc1 e_wa e_le e_st e_fo e_lc a_l a_g a_b a_s a_p a_w e_gb a_bb)), (a_g, (oc6 6 5 a_gn e_g)), (a_gn, (arI G 30 f_g)), (a_b, (oc6 5 24 a_bn e_b)), (a_bn, (arI G 120 f_b)), (a_p, (oc6 8 5 a_pn e_p)), (a_pn, (arI G 40 f_p)), (a_bb, (arJ G 24 f_bb)), (a_j, (oc2 a_as a_sk)), (a_as, (arI G 8 k_as)), (a_sk, (arJ G 50 k_sk)), (a_l, (arW G 6 f_l)), (a_pt, (arI G 200 k_pt)), (a_th, (oc7 a_h a_k a_ba a_ad e_fu a_cn a_nx a_hp a_hl a_lv)), (a_ba, (arJ G 24 k_ba)), (a_ad, (arI G 1536 k_ad))]) hP hD [17, 18] [0, 1, 2, 3, 4, 5, 6, 7, 8, 9, 10, 11, 12, 13, 14, 15, 16] rfl rfl (by decide) (by decide) hk1 hFc hP1 hD1
        generalize H1 = H at hP hS ⊢
        refine g5_rs [(a_k, (oc5 a_h a_j a_pt k_ln k_se k_lh k_br k_we k_me k_ce k_wy k_ho k_ov)), (a_h, (oc1 e_wa e_le e_st e_fo e_lc a_l a_g a_b a_s a_p a_w e_gb a_bb)), (a_g, (oc6 6 5 a_gn e_g)), (a_gn, (arI G 30 f_g)), (a_b, (oc6 5 24 a_bn e_b)), (a_bn, (arI G 120 f_b)), (a_p, (oc6 8 5 a_pn e_p)), (a_pn, (arI G 40 f_p)), (a_bb, (arJ G 24 f_bb)), (a_j, (oc2 a_as a_sk)), (a_as, (arI G 8 k_as)), (a_sk, (arJ G 50 k_sk)), (a_l, (arW G 6 f_l)), (a_pt, (arI G 200 k_pt)), (a_th, (oc7 a_h a_k a_ba a_ad e_fu a_cn a_nx a_hp a_hl a_lv)), (a_ba, (arJ G 24 k_ba)), (a_ad, (arI G 1536 k_ad)), (a_s, (oc6 10 4 a_sn e_s)), (a_sn, (arI G 40 f_s))] hP hD (fun hP hD => ?_)
        refine g5_ti (v := z57) y58 ?_
        refine lv_aload_n hx hb dX7_load_104 rfl (lv_at hl 2 rfl) ?_
        refine lv_iload hx hb dX7_load_105 (lv_at hl 1 rfl) ?_
        refine lv_iconst (v := 2) hx hb dX7_load_107 (by decide) ?_
        obtain ⟨hPc, hDc, hFc⟩ := g5_sub3 (wc := [(a_s, (oc6 10 4 a_sn e_s)), (a_sn, (arI G 40 f_s))]) hP hD hS hA [17, 18] (by decide) rfl
        refine va_calli (va_runV (As := [.int k_i, .int 2]) (rest := [.int z57, .int z54, .ref a_k]) ⟨hx, hb, hml, hown, hts⟩ (t_get_S l G a_s a_sn H.size e_s k_i 2 f_s h_e_s) (cwV 2 hts gV_X7_72 rfl rfl rfl hv_X6_get ⟨Nat.le_of_ble_eq_true rfl, Nat.le_of_ble_eq_true rfl⟩) (g5_preV hPc hK hDc hN hT hS hFc (ci := 6) (q0 := 0) rfl rfl) rfl rfl hl.1 rfl (lv_room (Nat.le_of_ble_eq_true rfl)) dX7_load_108 ⟨Nat.le_of_ble_eq_true rfl, Nat.le_of_ble_eq_true rfl⟩) hS (fun q _ h => hFc q h) hFc (fun r u t H1 locs ht hvm hw hB hz1 hk1 hS => ?_)
        obtain ⟨hP1, hD1⟩ := hB
        rw [ht] at hP1
        obtain ⟨z60, i_59, y61, rfl⟩ := hw
        have i_59 : z60 = tget f_s e_s.toInt 4 k_i.toInt (2 : Int32).toInt := i_59
        obtain ⟨hP, hD⟩ := va_join (wr := [(a_k, (oc5 a_h a_j a_pt k_ln k_se k_lh k_br k_we k_me k_ce k_wy k_ho k_ov)), (a_h, (oc1 e_wa e_le e_st e_fo e_lc a_l a_g a_b a_s a_p a_w e_gb a_bb)), (a_g, (oc6 6 5 a_gn e_g)), (a_gn, (arI G 30 f_g)), (a_b, (oc6 5 24 a_bn e_b)), (a_bn, (arI G 120 f_b)), (a_p, (oc6 8 5 a_pn e_p)), (a_pn, (arI G 40 f_p)), (a_bb, (arJ G 24 f_bb)), (a_j, (oc2 a_as a_sk)), (a_as, (arI G 8 k_as)), (a_sk, (arJ G 50 k_sk)), (a_l, (arW G 6 f_l)), (a_pt, (arI G 200 k_pt)), (a_th, (oc7 a_h a_k a_ba a_ad e_fu a_cn a_nx a_hp a_hl a_lv)), (a_ba, (arJ G 24 k_ba)), (a_ad, (arI G 1536 k_ad))]) hP hD [17, 18] [0, 1, 2, 3, 4, 5, 6, 7, 8, 9, 10, 11, 12, 13, 14, 15, 16] rfl rfl (by decide) (by decide) hk1 hFc hP1 hD1
        generalize H1 = H at hP hS ⊢
        refine g5_rs [(a_k, (oc5 a_h a_j a_pt k_ln k_se k_lh k_br k_we k_me k_ce k_wy k_ho k_ov)), (a_h, (oc1 e_wa e_le e_st e_fo e_lc a_l a_g a_b a_s a_p a_w e_gb a_bb)), (a_g, (oc6 6 5 a_gn e_g)), (a_gn, (arI G 30 f_g)), (a_b, (oc6 5 24 a_bn e_b)), (a_bn, (arI G 120 f_b)), (a_p, (oc6 8 5 a_pn e_p)), (a_pn, (arI G 40 f_p)), (a_bb, (arJ G 24 f_bb)), (a_j, (oc2 a_as a_sk)), (a_as, (arI G 8 k_as)), (a_sk, (arJ G 50 k_sk)), (a_l, (arW G 6 f_l)), (a_pt, (arI G 200 k_pt)), (a_th, (oc7 a_h a_k a_ba a_ad e_fu a_cn a_nx a_hp a_hl a_lv)), (a_ba, (arJ G 24 k_ba)), (a_ad, (arI G 1536 k_ad)), (a_s, (oc6 10 4 a_sn e_s)), (a_sn, (arI G 40 f_s))] hP hD (fun hP hD => ?_)
        refine g5_ti (v := z60) y61 ?_
        refine lv_iconst (v := 0) hx hb dX7_load_111 (by decide) ?_
        obtain ⟨hPc, hDc, hFc⟩ := g5_sub3 (wc := [(a_k, (oc5 a_h a_j a_pt k_ln k_se k_lh k_br k_we k_me k_ce k_wy k_ho k_ov)), (a_h, (oc1 e_wa e_le e_st e_fo e_lc a_l a_g a_b a_s a_p a_w e_gb a_bb)), (a_g, (oc6 6 5 a_gn e_g)), (a_gn, (arI G 30 f_g)), (a_b, (oc6 5 24 a_bn e_b)), (a_bn, (arI G 120 f_b)), (a_p, (oc6 8 5 a_pn e_p)), (a_pn, (arI G 40 f_p)), (a_bb, (arJ G 24 f_bb)), (a_j, (oc2 a_as a_sk)), (a_as, (arI G 8 k_as)), (a_sk, (arJ G 50 k_sk)), (a_l, (arW G 6 f_l)), (a_pt, (arI G 200 k_pt))]) hP hD hS hA [0, 1, 2, 3, 4, 5, 6, 7, 8, 9, 10, 11, 12, 13] (by decide) rfl
        refine va_callv (va_runV (As := [.int z54, .int z57, .int z60, .int 0]) (rest := []) ⟨hx, hb, hml, hown, hts⟩ (k_runN l G a_k a_h a_g a_gn a_b a_bn a_p a_pn a_bb a_j a_as a_sk a_l a_pt a_s a_w H.size e_le e_st e_fo e_lc e_g e_b e_p k_ln k_se k_lh k_br k_we k_me k_ce k_wy k_ho k_ov z54 z57 z60 0 e_wa e_gb f_g f_b f_p f_bb k_as k_sk f_l k_pt h_e_g h_e_b h_e_p i_46 (e_gk) (e_pk) (e_gi) (e_f)) (cwV 4 hts gV_X7_76 rfl rfl rfl hv_X5_run ⟨Nat.le_of_ble_eq_true rfl, Nat.le_of_ble_eq_true rfl⟩) (g5_preV hPc hK hDc hN hT hS hFc (ci := 5) (q0 := 0) rfl rfl) rfl rfl hl.1 rfl (lv_room (Nat.le_of_ble_eq_true rfl)) dX7_load_112 ⟨Nat.le_of_ble_eq_true rfl, Nat.le_of_ble_eq_true rfl⟩) hS (fun q _ h => hFc q h) hFc (fun u t H1 locs ht hvm hw hB hz1 hk1 hS => ?_)
        obtain ⟨hP1, hD1⟩ := hB
        rw [ht] at hP1
        obtain ⟨z65, z66, z67, z68, z69, z70, z71, z72, z73, z74, z75, z76, z77, i_62, i_63, i_64, rfl⟩ := hw
        have i_62 : 0 ≤ z65.toInt ∧ z65.toInt ≤ 200 := i_62
        have i_63 : 0 ≤ z74.toInt ∧ z74.toInt ≤ 1 := i_63
        have i_64 : ∀ j : Nat, (j : Int) < z65.toInt → 0 ≤ (z75 j).toInt ∧ (z75 j).toInt ≤ 1535 := i_64
        obtain ⟨hP, hD⟩ := va_join (wr := [(a_th, (oc7 a_h a_k a_ba a_ad e_fu a_cn a_nx a_hp a_hl a_lv)), (a_ba, (arJ G 24 k_ba)), (a_ad, (arI G 1536 k_ad)), (a_s, (oc6 10 4 a_sn e_s)), (a_sn, (arI G 40 f_s))]) hP hD [0, 1, 2, 3, 4, 5, 6, 7, 8, 9, 10, 11, 12, 13] [14, 15, 16, 17, 18] rfl rfl (by decide) (by decide) hk1 hFc hP1 hD1
        generalize H1 = H at hP hS ⊢
        refine g5_rs [(a_th, (oc7 a_h a_k a_ba a_ad e_fu a_cn a_nx a_hp a_hl a_lv)), (a_ba, (arJ G 24 k_ba)), (a_ad, (arI G 1536 k_ad)), (a_s, (oc6 10 4 a_sn e_s)), (a_sn, (arI G 40 f_s)), (a_k, (oc5 a_h a_j a_pt z65 z66 z67 z68 z69 z70 z71 z72 z73 z74)), (a_h, (oc1 e_wa e_le e_st e_fo e_lc a_l a_g a_b a_s a_p a_w e_gb a_bb)), (a_g, (oc6 6 5 a_gn e_g)), (a_gn, (arI G 30 f_g)), (a_b, (oc6 5 24 a_bn e_b)), (a_bn, (arI G 120 f_b)), (a_p, (oc6 8 5 a_pn e_p)), (a_pn, (arI G 40 f_p)), (a_bb, (arJ G 24 f_bb)), (a_j, (oc2 a_as a_sk)), (a_as, (arI G 8 z76)), (a_sk, (arJ G 50 z77)), (a_l, (arW G 6 f_l)), (a_pt, (arI G 200 z75))] hP hD (fun hP hD => ?_)
        refine lv_aload_n hx hb dX7_load_115 rfl (lv_at hl 2 rfl) ?_
        refine lv_iload hx hb dX7_load_116 (lv_at hl 1 rfl) ?_
        refine lv_iconst (v := 3) hx hb dX7_load_118 (by decide) ?_
        obtain ⟨hPc, hDc, hFc⟩ := g5_sub3 (wc := [(a_s, (oc6 10 4 a_sn e_s)), (a_sn, (arI G 40 f_s))]) hP hD hS hA [3, 4] (by decide) rfl
        refine va_calli (va_runV (As := [.int k_i, .int 3]) (rest := []) ⟨hx, hb, hml, hown, hts⟩ (t_get_S l G a_s a_sn H.size e_s k_i 3 f_s h_e_s) (cwV 2 hts gV_X7_72 rfl rfl rfl hv_X6_get ⟨Nat.le_of_ble_eq_true rfl, Nat.le_of_ble_eq_true rfl⟩) (g5_preV hPc hK hDc hN hT hS hFc (ci := 6) (q0 := 0) rfl rfl) rfl rfl hl.1 rfl (lv_room (Nat.le_of_ble_eq_true rfl)) dX7_load_119 ⟨Nat.le_of_ble_eq_true rfl, Nat.le_of_ble_eq_true rfl⟩) hS (fun q _ h => hFc q h) hFc (fun r u t H1 locs ht hvm hw hB hz1 hk1 hS => ?_)
        obtain ⟨hP1, hD1⟩ := hB
        rw [ht] at hP1
        obtain ⟨z79, i_78, y80, rfl⟩ := hw
        have i_78 : z79 = tget f_s e_s.toInt 4 k_i.toInt (3 : Int32).toInt := i_78
        obtain ⟨hP, hD⟩ := va_join (wr := [(a_th, (oc7 a_h a_k a_ba a_ad e_fu a_cn a_nx a_hp a_hl a_lv)), (a_ba, (arJ G 24 k_ba)), (a_ad, (arI G 1536 k_ad)), (a_k, (oc5 a_h a_j a_pt z65 z66 z67 z68 z69 z70 z71 z72 z73 z74)), (a_h, (oc1 e_wa e_le e_st e_fo e_lc a_l a_g a_b a_s a_p a_w e_gb a_bb)), (a_g, (oc6 6 5 a_gn e_g)), (a_gn, (arI G 30 f_g)), (a_b, (oc6 5 24 a_bn e_b)), (a_bn, (arI G 120 f_b)), (a_p, (oc6 8 5 a_pn e_p)), (a_pn, (arI G 40 f_p)), (a_bb, (arJ G 24 f_bb)), (a_j, (oc2 a_as a_sk)), (a_as, (arI G 8 z76)), (a_sk, (arJ G 50 z77)), (a_l, (arW G 6 f_l)), (a_pt, (arI G 200 z75))]) hP hD [3, 4] [0, 1, 2, 5, 6, 7, 8, 9, 10, 11, 12, 13, 14, 15, 16, 17, 18] rfl rfl (by decide) (by decide) hk1 hFc hP1 hD1
        generalize H1 = H at hP hS ⊢
        refine g5_rs [(a_th, (oc7 a_h a_k a_ba a_ad e_fu a_cn a_nx a_hp a_hl a_lv)), (a_ba, (arJ G 24 k_ba)), (a_ad, (arI G 1536 k_ad)), (a_k, (oc5 a_h a_j a_pt z65 z66 z67 z68 z69 z70 z71 z72 z73 z74)), (a_h, (oc1 e_wa e_le e_st e_fo e_lc a_l a_g a_b a_s a_p a_w e_gb a_bb)), (a_g, (oc6 6 5 a_gn e_g)), (a_gn, (arI G 30 f_g)), (a_b, (oc6 5 24 a_bn e_b)), (a_bn, (arI G 120 f_b)), (a_p, (oc6 8 5 a_pn e_p)), (a_pn, (arI G 40 f_p)), (a_bb, (arJ G 24 f_bb)), (a_j, (oc2 a_as a_sk)), (a_as, (arI G 8 z76)), (a_sk, (arJ G 50 z77)), (a_l, (arW G 6 f_l)), (a_pt, (arI G 200 z75)), (a_s, (oc6 10 4 a_sn e_s)), (a_sn, (arI G 40 f_s))] hP hD (fun hP hD => ?_)
        refine g5_ti (v := z79) y80 ?_
        refine lv_iconst (v := 1) hx hb dX7_load_122 (by decide) ?_
        refine lv_icmp_ne (tgt := 138) hx hb dX7_load_123 (by decide) (fun c_81 => ?_) (fun c_81 => ?_)
        ·
          have n_81 : gNe (z79.toInt) (1) := by have z := g5_ne (a := z79.toInt) (b := 1) (by rfl) (by decide) c_81; unfold gNe; omega
          refine lv_aload_n hx hb dX7_load_138 rfl (lv_at hl 3 rfl) ?_
          obtain ⟨hPc, hDc, hFc⟩ := g5_sub3 (wc := [(a_th, (oc7 a_h a_k a_ba a_ad e_fu a_cn a_nx a_hp a_hl a_lv)), (a_k, (oc5 a_h a_j a_pt z65 z66 z67 z68 z69 z70 z71 z72 z73 z74)), (a_pt, (arI G 200 z75)), (a_ba, (arJ G 24 k_ba))]) hP hD hS hA [0, 3, 16, 1] (by decide) rfl
          refine va_callv (va_runV (As := []) (rest := []) ⟨hx, hb, hml, hown, hts⟩ (th_bar l G a_th a_k a_pt a_ba a_h a_ad a_cn a_nx a_hp a_hl a_lv a_j H.size e_fu z65 z66 z67 z68 z69 z70 z71 z72 z73 z74 z75 k_ba i_62 i_63 (i_64)) (cwV 0 hts gV_X7_86 rfl rfl rfl hv_X7_barPoints ⟨Nat.le_of_ble_eq_true rfl, Nat.le_of_ble_eq_true rfl⟩) (g5_preV hPc hK hDc hN hT hS hFc (ci := 7) (q0 := 0) rfl rfl) rfl rfl hl.1 rfl (lv_room (Nat.le_of_ble_eq_true rfl)) dX7_load_139 ⟨Nat.le_of_ble_eq_true rfl, Nat.le_of_ble_eq_true rfl⟩) hS (fun q _ h => hFc q h) hFc (fun u t H1 locs ht hvm hw hB hz1 hk1 hS => ?_)
          obtain ⟨hP1, hD1⟩ := hB
          rw [ht] at hP1
          obtain ⟨z82, rfl⟩ := hw
          obtain ⟨hP, hD⟩ := va_join (wr := [(a_ad, (arI G 1536 k_ad)), (a_h, (oc1 e_wa e_le e_st e_fo e_lc a_l a_g a_b a_s a_p a_w e_gb a_bb)), (a_g, (oc6 6 5 a_gn e_g)), (a_gn, (arI G 30 f_g)), (a_b, (oc6 5 24 a_bn e_b)), (a_bn, (arI G 120 f_b)), (a_p, (oc6 8 5 a_pn e_p)), (a_pn, (arI G 40 f_p)), (a_bb, (arJ G 24 f_bb)), (a_j, (oc2 a_as a_sk)), (a_as, (arI G 8 z76)), (a_sk, (arJ G 50 z77)), (a_l, (arW G 6 f_l)), (a_s, (oc6 10 4 a_sn e_s)), (a_sn, (arI G 40 f_s))]) hP hD [0, 3, 16, 1] [2, 4, 5, 6, 7, 8, 9, 10, 11, 12, 13, 14, 15, 17, 18] rfl rfl (by decide) (by decide) hk1 hFc hP1 hD1
          generalize H1 = H at hP hS ⊢
          refine g5_rs [(a_ad, (arI G 1536 k_ad)), (a_h, (oc1 e_wa e_le e_st e_fo e_lc a_l a_g a_b a_s a_p a_w e_gb a_bb)), (a_g, (oc6 6 5 a_gn e_g)), (a_gn, (arI G 30 f_g)), (a_b, (oc6 5 24 a_bn e_b)), (a_bn, (arI G 120 f_b)), (a_p, (oc6 8 5 a_pn e_p)), (a_pn, (arI G 40 f_p)), (a_bb, (arJ G 24 f_bb)), (a_j, (oc2 a_as a_sk)), (a_as, (arI G 8 z76)), (a_sk, (arJ G 50 z77)), (a_l, (arW G 6 f_l)), (a_s, (oc6 10 4 a_sn e_s)), (a_sn, (arI G 40 f_s)), (a_th, (oc7 a_h a_k a_ba a_ad e_fu a_cn a_nx a_hp a_hl a_lv)), (a_k, (oc5 a_h a_j a_pt z65 z66 z67 z68 z69 z70 z71 z72 z73 z74)), (a_pt, (arI G 200 z75)), (a_ba, (arJ G 24 z82))] hP hD (fun hP hD => ?_)
          refine lv_iinc (v := (k_i + 1)) (lv' := [(4, .int (k_i + 1)), (2, .int k_b), (3, .ref a_s), (0, .ref a_th), (1, .int p_s)]) hx hb dX7_load_142 hl (k := 1) rfl rfl (by decide) rfl (fun ls hl => ?_)
          have t_83 : (k_i + 1).toInt = k_i.toInt + 1 := g5_iadd (a := k_i.toInt) (b := 1) rfl (by decide) (by omega) (by omega)
          refine lv_goto (tgt := 68) hx hb dX7_load_145 (by decide) ?_
          exact ih_68_49 (k_b, (k_i + 1), z66, z67, z68, z69, z70, z71, z72, z73, z74, z75, z76, z77, z65, z82, k_ad) ls H locs (show Int.toNat (10 - (k_i + 1).toInt) < Int.toNat (10 - k_i.toInt) from g_up (show k_i.toInt < (k_i + 1).toInt by omega) (show k_i.toInt < 10 by omega)) ⟨lv_sub hl [1, 0, 2, 3, 4] rfl, hP.sub [16, 1, 2, 3, 4, 5, 6, 7, 13, 14, 8, 9, 10, 11, 12, 17, 15, 18, 0] rfl, hD.sub [16, 1, 2, 3, 4, 5, 6, 7, 13, 14, 8, 9, 10, 11, 12, 17, 15, 18, 0] (by decide) rfl, hS, ⟨by omega, by omega⟩, i_63, by omega, ld_stay i_48 e_sh (by omega) (by omega) (by omega)⟩
        ·
          have i_81 : z79.toInt = 1 := by have z := g5_neN (a := z79.toInt) (b := 1) (by rfl) (by decide) c_81; omega
          obtain ⟨gs_84, hg1_84, hg2_84, hg3_84⟩ := id i_48
          have hg4_84 : gs_84 < 5 := ld_lt hg1_84 e_sh e_s5 i_78 (by omega) (by omega) (by omega)
          have hg5_84 : mOK k_ad (gs_84 + 1) := mOK_up hg3_84
          refine lv_aload_n hx hb dX7_load_126 rfl (lv_at hl 3 rfl) ?_
          refine lv_iload_n hx hb dX7_load_127 rfl (lv_at hl 0 rfl) ?_
          obtain ⟨hPc, hDc, hFc⟩ := g5_sub3 (wc := [(a_th, (oc7 a_h a_k a_ba a_ad e_fu a_cn a_nx a_hp a_hl a_lv)), (a_k, (oc5 a_h a_j a_pt z65 z66 z67 z68 z69 z70 z71 z72 z73 z74)), (a_pt, (arI G 200 z75)), (a_ad, (arI G 1536 k_ad))]) hP hD hS hA [0, 3, 16, 2] (by decide) rfl
          refine va_callv (va_runV (As := [.int k_b]) (rest := []) ⟨hx, hb, hml, hown, hts⟩ (th_add l G a_th a_k a_pt a_ad a_h a_ba a_cn a_nx a_hp a_hl a_lv a_j H.size e_fu z65 z66 z67 z68 z69 z70 z71 z72 z73 z74 k_b z75 k_ad gs_84 i_62 i_63 (i_64) (hg4_84) (hg2_84) (hg5_84)) (cwV 1 hts gV_X7_82 rfl rfl rfl hv_X7_addPoints ⟨Nat.le_of_ble_eq_true rfl, Nat.le_of_ble_eq_true rfl⟩) (g5_preV hPc hK hDc hN hT hS hFc (ci := 7) (q0 := 0) rfl rfl) rfl rfl hl.1 rfl (lv_room (Nat.le_of_ble_eq_true rfl)) dX7_load_128 ⟨Nat.le_of_ble_eq_true rfl, Nat.le_of_ble_eq_true rfl⟩) hS (fun q _ h => hFc q h) hFc (fun u t H1 locs ht hvm hw hB hz1 hk1 hS => ?_)
          obtain ⟨hP1, hD1⟩ := hB
          rw [ht] at hP1
          obtain ⟨z86, i_85, rfl⟩ := hw
          have i_85 : mOK z86 (gs_84 + 1) := i_85
          obtain ⟨hP, hD⟩ := va_join (wr := [(a_ba, (arJ G 24 k_ba)), (a_h, (oc1 e_wa e_le e_st e_fo e_lc a_l a_g a_b a_s a_p a_w e_gb a_bb)), (a_g, (oc6 6 5 a_gn e_g)), (a_gn, (arI G 30 f_g)), (a_b, (oc6 5 24 a_bn e_b)), (a_bn, (arI G 120 f_b)), (a_p, (oc6 8 5 a_pn e_p)), (a_pn, (arI G 40 f_p)), (a_bb, (arJ G 24 f_bb)), (a_j, (oc2 a_as a_sk)), (a_as, (arI G 8 z76)), (a_sk, (arJ G 50 z77)), (a_l, (arW G 6 f_l)), (a_s, (oc6 10 4 a_sn e_s)), (a_sn, (arI G 40 f_s))]) hP hD [0, 3, 16, 2] [1, 4, 5, 6, 7, 8, 9, 10, 11, 12, 13, 14, 15, 17, 18] rfl rfl (by decide) (by decide) hk1 hFc hP1 hD1
          generalize H1 = H at hP hS ⊢
          refine g5_rs [(a_ba, (arJ G 24 k_ba)), (a_h, (oc1 e_wa e_le e_st e_fo e_lc a_l a_g a_b a_s a_p a_w e_gb a_bb)), (a_g, (oc6 6 5 a_gn e_g)), (a_gn, (arI G 30 f_g)), (a_b, (oc6 5 24 a_bn e_b)), (a_bn, (arI G 120 f_b)), (a_p, (oc6 8 5 a_pn e_p)), (a_pn, (arI G 40 f_p)), (a_bb, (arJ G 24 f_bb)), (a_j, (oc2 a_as a_sk)), (a_as, (arI G 8 z76)), (a_sk, (arJ G 50 z77)), (a_l, (arW G 6 f_l)), (a_s, (oc6 10 4 a_sn e_s)), (a_sn, (arI G 40 f_s)), (a_th, (oc7 a_h a_k a_ba a_ad e_fu a_cn a_nx a_hp a_hl a_lv)), (a_k, (oc5 a_h a_j a_pt z65 z66 z67 z68 z69 z70 z71 z72 z73 z74)), (a_pt, (arI G 200 z75)), (a_ad, (arI G 1536 z86))] hP hD (fun hP hD => ?_)
          refine lv_iload_n hx hb dX7_load_131 rfl (lv_at hl 0 rfl) ?_
          refine lv_iconst (v := 1) hx hb dX7_load_132 (by decide) ?_
          refine lv_ishl hx hb dX7_load_133 ?_
          refine lv_istore_n (lv' := [(2, .int (k_b <<< (1 &&& 31))), (4, .int k_i), (3, .ref a_s), (0, .ref a_th), (1, .int p_s)]) hx hb dX7_load_134 rfl hl (by decide) rfl (fun ls hl => ?_)
          refine lv_goto (tgt := 142) hx hb dX7_load_135 (by decide) ?_
          refine lv_iinc (v := (k_i + 1)) (lv' := [(4, .int (k_i + 1)), (2, .int (k_b <<< (1 &&& 31))), (3, .ref a_s), (0, .ref a_th), (1, .int p_s)]) hx hb dX7_load_142 hl (k := 1) rfl rfl (by decide) rfl (fun ls hl => ?_)
          have t_87 : (k_i + 1).toInt = k_i.toInt + 1 := g5_iadd (a := k_i.toInt) (b := 1) rfl (by decide) (by omega) (by omega)
          refine lv_goto (tgt := 68) hx hb dX7_load_145 (by decide) ?_
          exact ih_68_49 ((k_b <<< (1 &&& 31)), (k_i + 1), z66, z67, z68, z69, z70, z71, z72, z73, z74, z75, z76, z77, z65, k_ba, z86) ls H locs (show Int.toNat (10 - (k_i + 1).toInt) < Int.toNat (10 - k_i.toInt) from g_up (show k_i.toInt < (k_i + 1).toInt by omega) (show k_i.toInt < 10 by omega)) ⟨lv_sub hl [1, 0, 2, 3, 4] rfl, hP.sub [16, 1, 2, 3, 4, 5, 6, 7, 13, 14, 8, 9, 10, 11, 12, 17, 15, 0, 18] rfl, hD.sub [16, 1, 2, 3, 4, 5, 6, 7, 13, 14, 8, 9, 10, 11, 12, 17, 15, 0, 18] (by decide) rfl, hS, ⟨by omega, by omega⟩, i_63, by omega, ld_go hg1_84 hg2_84 hg4_84 i_85 i_78 (by omega) (by omega) (by omega)⟩
set_option maxHeartbeats 4000000 in
set_option maxRecDepth 100000 in
theorem th_loadL (l : Launch) (G : g5_G) (a_k a_h a_g a_gn a_b a_bn a_p a_pn a_s a_sn a_bb a_j a_as a_sk a_l a_lo a_sr a_cd a_hd a_pt a_th a_ba a_ad a_w a_cn a_nx a_hp a_hl a_lv : Nat) (sz : Nat) (e_le : Int32) (e_st : Int32) (e_fo : Int32) (e_lc : Int32) (e_g : Int32) (e_b : Int32) (e_p : Int32) (e_s : Int32) (e_cl : Int32) (e_ln : Int32) (e_se : Int32) (e_lh : Int32) (e_br : Int32) (e_we : Int32) (e_me : Int32) (e_ce : Int32) (e_wy : Int32) (e_ho : Int32) (e_ov : Int32) (e_fu : Int32) (p_s : Int32) (e_wa : Int64) (e_gb : Int64) (f_g : Nat → Int32) (f_b : Nat → Int32) (f_p : Nat → Int32) (f_s : Nat → Int32) (f_bb : Nat → Int64) (f_as : Nat → Int32) (f_sk : Nat → Int64) (f_l : Nat → Option Nat) (f_sr : Nat → Int32) (f_cd : Nat → Int32) (f_hd : Nat → Int32) (f_pt : Nat → Int32) (f_ba : Nat → Int64) (f_ad : Nat → Int32) (n_sr : Nat) (n_cd : Nat) (n_hd : Nat) (h_e_g : 0 ≤ e_g.toInt ∧ e_g.toInt ≤ 6) (h_e_b : 0 ≤ e_b.toInt ∧ e_b.toInt ≤ 5) (h_e_p : 0 ≤ e_p.toInt ∧ e_p.toInt ≤ 8) (h_e_s : 0 ≤ e_s.toInt ∧ e_s.toInt ≤ 10) (h_e_cl : 0 ≤ e_cl.toInt ∧ e_cl.toInt ≤ 12) (h_e_ov : 0 ≤ e_ov.toInt ∧ e_ov.toInt ≤ 1) (e_gk : gOK f_g e_g.toInt) (e_pk : gOK f_p e_p.toInt) (e_gi : inT e_gb f_g e_g.toInt) (e_sh : ∀ r : Int, 0 ≤ r → r < e_s.toInt → 0 ≤ (tget f_s e_s.toInt 4 r (3 : Int32).toInt).toInt ∧ (tget f_s e_s.toInt 4 r (3 : Int32).toInt).toInt ≤ 1) (e_s5 : snS f_s e_s.toInt e_s.toInt.toNat ≤ 5) (e_f : 0 ≤ e_fo.toInt ∧ e_fo.toInt < e_lc.toInt ∧ e_lc.toInt ≤ 6) (e_a : f_l e_fo.toNatClampNeg = some a_lo) (e_hn : n_cd ≤ 400) (e_hs : ∀ j : Nat, j < n_sr → 0 ≤ (f_sr j).toInt ∧ (f_sr j).toInt ≤ (n_cd : Int)) (e_hk : ∀ j : Nat, j < n_cd → (f_cd j >>> (12 &&& 31)).toInt = 1 → (f_cd j &&& 4095).toInt < 8) (e_c : (e_cl.toInt : Int) ≤ (n_hd : Int) ∧ (e_cl.toInt + 1 : Int) ≤ (n_sr : Int)) : Met l yX7_load (wsG yX7_load cX7_load 5 none) ({ frames := 14, cells := 0, slots := 0, locals := 556 }) (va_Pc [.ref a_th, .int p_s] (g5_P G [(a_k, (oc5 a_h a_j a_pt e_ln e_se e_lh e_br e_we e_me e_ce e_wy e_ho e_ov)), (a_h, (oc1 e_wa e_le e_st e_fo e_lc a_l a_g a_b a_s a_p a_w e_gb a_bb)), (a_g, (oc6 6 5 a_gn e_g)), (a_gn, (arI G 30 f_g)), (a_b, (oc6 5 24 a_bn e_b)), (a_bn, (arI G 120 f_b)), (a_p, (oc6 8 5 a_pn e_p)), (a_pn, (arI G 40 f_p)), (a_s, (oc6 10 4 a_sn e_s)), (a_sn, (arI G 40 f_s)), (a_bb, (arJ G 24 f_bb)), (a_j, (oc2 a_as a_sk)), (a_as, (arI G 8 f_as)), (a_sk, (arJ G 50 f_sk)), (a_l, (arW G 6 f_l)), (a_lo, (oc3 e_cl a_hd a_sr a_cd)), (a_sr, (arI G n_sr f_sr)), (a_cd, (arI G n_cd f_cd)), (a_hd, (arI G n_hd f_hd)), (a_pt, (arI G 200 f_pt)), (a_th, (oc7 a_h a_k a_ba a_ad e_fu a_cn a_nx a_hp a_hl a_lv)), (a_ba, (arJ G 24 f_ba)), (a_ad, (arI G 1536 f_ad))] sz)) (va_Qv (fun (u : va_W) => (∃ (o_ln : Int32) (o_se : Int32) (o_lh : Int32) (o_br : Int32) (o_we : Int32) (o_me : Int32) (o_ce : Int32) (o_wy : Int32) (o_ho : Int32) (o_ov : Int32) (o_pt : Nat → Int32) (o_as : Nat → Int32) (o_sk : Nat → Int64) (o_fu : Int32) (o_ba : Nat → Int64) (o_ad : Nat → Int32), (0 ≤ o_ov.toInt ∧ o_ov.toInt ≤ 1) ∧ (TOK o_fu o_ad) ∧ (u = [(a_k, (oc5 a_h a_j a_pt o_ln o_se o_lh o_br o_we o_me o_ce o_wy o_ho o_ov)), (a_h, (oc1 e_wa e_le e_st e_fo e_lc a_l a_g a_b a_s a_p a_w e_gb a_bb)), (a_g, (oc6 6 5 a_gn e_g)), (a_gn, (arI G 30 f_g)), (a_b, (oc6 5 24 a_bn e_b)), (a_bn, (arI G 120 f_b)), (a_p, (oc6 8 5 a_pn e_p)), (a_pn, (arI G 40 f_p)), (a_s, (oc6 10 4 a_sn e_s)), (a_sn, (arI G 40 f_s)), (a_bb, (arJ G 24 f_bb)), (a_j, (oc2 a_as a_sk)), (a_as, (arI G 8 o_as)), (a_sk, (arJ G 50 o_sk)), (a_l, (arW G 6 f_l)), (a_lo, (oc3 e_cl a_hd a_sr a_cd)), (a_sr, (arI G n_sr f_sr)), (a_cd, (arI G n_cd f_cd)), (a_hd, (arI G n_hd f_hd)), (a_pt, (arI G 200 o_pt)), (a_th, (oc7 a_h a_k a_ba a_ad o_fu a_cn a_nx a_hp a_hl a_lv)), (a_ba, (arJ G 24 o_ba)), (a_ad, (arI G 1536 o_ad))]))) (g5_B G (va_A [(a_k, (oc5 a_h a_j a_pt e_ln e_se e_lh e_br e_we e_me e_ce e_wy e_ho e_ov)), (a_h, (oc1 e_wa e_le e_st e_fo e_lc a_l a_g a_b a_s a_p a_w e_gb a_bb)), (a_g, (oc6 6 5 a_gn e_g)), (a_gn, (arI G 30 f_g)), (a_b, (oc6 5 24 a_bn e_b)), (a_bn, (arI G 120 f_b)), (a_p, (oc6 8 5 a_pn e_p)), (a_pn, (arI G 40 f_p)), (a_s, (oc6 10 4 a_sn e_s)), (a_sn, (arI G 40 f_s)), (a_bb, (arJ G 24 f_bb)), (a_j, (oc2 a_as a_sk)), (a_as, (arI G 8 f_as)), (a_sk, (arJ G 50 f_sk)), (a_l, (arW G 6 f_l)), (a_lo, (oc3 e_cl a_hd a_sr a_cd)), (a_sr, (arI G n_sr f_sr)), (a_cd, (arI G n_cd f_cd)), (a_hd, (arI G n_hd f_hd)), (a_pt, (arI G 200 f_pt)), (a_th, (oc7 a_h a_k a_ba a_ad e_fu a_cn a_nx a_hp a_hl a_lv)), (a_ba, (arJ G 24 f_ba)), (a_ad, (arI G 1536 f_ad))] sz)) (va_A [(a_k, (oc5 a_h a_j a_pt e_ln e_se e_lh e_br e_we e_me e_ce e_wy e_ho e_ov)), (a_h, (oc1 e_wa e_le e_st e_fo e_lc a_l a_g a_b a_s a_p a_w e_gb a_bb)), (a_g, (oc6 6 5 a_gn e_g)), (a_gn, (arI G 30 f_g)), (a_b, (oc6 5 24 a_bn e_b)), (a_bn, (arI G 120 f_b)), (a_p, (oc6 8 5 a_pn e_p)), (a_pn, (arI G 40 f_p)), (a_s, (oc6 10 4 a_sn e_s)), (a_sn, (arI G 40 f_s)), (a_bb, (arJ G 24 f_bb)), (a_j, (oc2 a_as a_sk)), (a_as, (arI G 8 f_as)), (a_sk, (arJ G 50 f_sk)), (a_l, (arW G 6 f_l)), (a_lo, (oc3 e_cl a_hd a_sr a_cd)), (a_sr, (arI G n_sr f_sr)), (a_cd, (arI G n_cd f_cd)), (a_hd, (arI G n_hd f_hd)), (a_pt, (arI G 200 f_pt)), (a_th, (oc7 a_h a_k a_ba a_ad e_fu a_cn a_nx a_hp a_hl a_lv)), (a_ba, (arJ G 24 f_ba)), (a_ad, (arI G 1536 f_ad))] sz)) 0 0 (va_A [(a_k, (oc5 a_h a_j a_pt e_ln e_se e_lh e_br e_we e_me e_ce e_wy e_ho e_ov)), (a_h, (oc1 e_wa e_le e_st e_fo e_lc a_l a_g a_b a_s a_p a_w e_gb a_bb)), (a_g, (oc6 6 5 a_gn e_g)), (a_gn, (arI G 30 f_g)), (a_b, (oc6 5 24 a_bn e_b)), (a_bn, (arI G 120 f_b)), (a_p, (oc6 8 5 a_pn e_p)), (a_pn, (arI G 40 f_p)), (a_s, (oc6 10 4 a_sn e_s)), (a_sn, (arI G 40 f_s)), (a_bb, (arJ G 24 f_bb)), (a_j, (oc2 a_as a_sk)), (a_as, (arI G 8 f_as)), (a_sk, (arJ G 50 f_sk)), (a_l, (arW G 6 f_l)), (a_lo, (oc3 e_cl a_hd a_sr a_cd)), (a_sr, (arI G n_sr f_sr)), (a_cd, (arI G n_cd f_cd)), (a_hd, (arI G n_hd f_hd)), (a_pt, (arI G 200 f_pt)), (a_th, (oc7 a_h a_k a_ba a_ad e_fu a_cn a_nx a_hp a_hl a_lv)), (a_ba, (arJ G 24 f_ba)), (a_ad, (arI G 1536 f_ad))] sz) := by
  refine Met.ofW (cc := cX7_load) (maxL := 5) (ret := none) (by decide) rfl ?_
  intro p e s m args below meth c s₁ B hml hv
  obtain ⟨rfl, hsz, hP, hK, hD0, hN, hT⟩ := hv
  have hx := B.exec
  have hb := B.bytes
  have hr := B.returns
  have hts : ∀ w ∈ tblG, w.before _ s = true := fun w h => atoms_spec (ws := (wsG yX7_load cX7_load 5 none)) B.pre w (List.mem_cons_of_mem _ h)
  have hown : s.vm.findClass RX7 = some m.cls := findClass_of_methodNamed B.named
  have hlocks := B.notSynchronized
  subst hsz
  have hD := hD0.self (sz := s.heap.size)
  generalize hAe : va_A [(a_k, (oc5 a_h a_j a_pt e_ln e_se e_lh e_br e_we e_me e_ce e_wy e_ho e_ov)), (a_h, (oc1 e_wa e_le e_st e_fo e_lc a_l a_g a_b a_s a_p a_w e_gb a_bb)), (a_g, (oc6 6 5 a_gn e_g)), (a_gn, (arI G 30 f_g)), (a_b, (oc6 5 24 a_bn e_b)), (a_bn, (arI G 120 f_b)), (a_p, (oc6 8 5 a_pn e_p)), (a_pn, (arI G 40 f_p)), (a_s, (oc6 10 4 a_sn e_s)), (a_sn, (arI G 40 f_s)), (a_bb, (arJ G 24 f_bb)), (a_j, (oc2 a_as a_sk)), (a_as, (arI G 8 f_as)), (a_sk, (arJ G 50 f_sk)), (a_l, (arW G 6 f_l)), (a_lo, (oc3 e_cl a_hd a_sr a_cd)), (a_sr, (arI G n_sr f_sr)), (a_cd, (arI G n_cd f_cd)), (a_hd, (arI G n_hd f_hd)), (a_pt, (arI G 200 f_pt)), (a_th, (oc7 a_h a_k a_ba a_ad e_fu a_cn a_nx a_hp a_hl a_lv)), (a_ba, (arJ G 24 f_ba)), (a_ad, (arI G 1536 f_ad))] s.heap.size = A at hD hT ⊢
  have hA : ∀ q : Nat, s.heap.size ≤ q → A q := fun q h => by rw [← hAe]; exact Or.inr h
  have hS : va_S A s.heap s.heap [] := va_S.rf
  have hP : va_P G.1 vwCl [(a_k, (oc5 a_h a_j a_pt e_ln e_se e_lh e_br e_we e_me e_ce e_wy e_ho e_ov)), (a_h, (oc1 e_wa e_le e_st e_fo e_lc a_l a_g a_b a_s a_p a_w e_gb a_bb)), (a_g, (oc6 6 5 a_gn e_g)), (a_gn, (arI G 30 f_g)), (a_b, (oc6 5 24 a_bn e_b)), (a_bn, (arI G 120 f_b)), (a_p, (oc6 8 5 a_pn e_p)), (a_pn, (arI G 40 f_p)), (a_s, (oc6 10 4 a_sn e_s)), (a_sn, (arI G 40 f_s)), (a_bb, (arJ G 24 f_bb)), (a_j, (oc2 a_as a_sk)), (a_as, (arI G 8 f_as)), (a_sk, (arJ G 50 f_sk)), (a_l, (arW G 6 f_l)), (a_lo, (oc3 e_cl a_hd a_sr a_cd)), (a_sr, (arI G n_sr f_sr)), (a_cd, (arI G n_cd f_cd)), (a_hd, (arI G n_hd f_hd)), (a_pt, (arI G 200 f_pt)), (a_th, (oc7 a_h a_k a_ba a_ad e_fu a_cn a_nx a_hp a_hl a_lv)), (a_ba, (arJ G 24 f_ba)), (a_ad, (arI G 1536 f_ad))] s.heap := hP
  have hl := lv_entry ([.ref a_th, .int p_s]) (n := 5) (Nat.le_of_ble_eq_true rfl)
  rw [lg_entry_eq]
  generalize (lg_sl ([.ref a_th, .int p_s]) ++ List.replicate (5 - (lg_sl ([.ref a_th, .int p_s])).length) Slot.unset).toArray = ls at hl ⊢
  have hl : lv_has ls 5 [(0, .ref a_th), (1, .int p_s)] := hl
  refine lv_aload_n hx hb dX7_load_0 rfl (lv_at hl 0 rfl) ?_
  refine va_get (D := G.1) (ci := 7) (v := .ref a_ba) (C := RX7) (T := TX7) (N := 10) hx hb hts inG_X7 hown hK hP 20 rfl rfl 2 (by decide) (hts _ fl_X7_9) (fun _ h9 => h9) rfl dX7_load_1 ?_
  refine lv_aload_n hx hb dX7_load_4 rfl (lv_at hl 0 rfl) ?_
  refine va_get (D := G.1) (ci := 7) (v := .ref a_h) (C := RX7) (T := TX7) (N := 10) hx hb hts inG_X7 hown hK hP 20 rfl rfl 0 (by decide) (hts _ fl_X7_34) (fun _ h9 => h9) rfl dX7_load_5 ?_
  refine va_get (D := G.1) (ci := 1) (v := .long e_wa) (C := RX1) (T := TX1) (N := 13) hx hb hts inG_X1 hown hK hP 1 rfl rfl 0 (by decide) (hts _ fl_X7_54) (fun _ h9 => h9) rfl dX7_load_8 ?_
  obtain ⟨hPc, hDc, hFc⟩ := g5_sub3 (wc := [(a_ba, (arJ G 24 f_ba))]) hP hD hS hA [21] (by decide) rfl
  refine va_callv (va_runS (As := [.ref a_ba, .long e_wa]) (rest := []) ⟨hx, hb, hml, hown, hts⟩ (k_fillJ24 l G a_ba s.heap.size e_wa f_ba) (va_cwS 2 hts gS_X7_58 rfl rfl rfl hs_J7_fill_d0a16 ⟨Nat.le_of_ble_eq_true rfl, Nat.le_of_ble_eq_true rfl⟩) (g5_preS hPc hK hDc hN hT hS hFc) rfl rfl hl.1 rfl (lv_room (Nat.le_of_ble_eq_true rfl)) dX7_load_11 ⟨Nat.le_of_ble_eq_true rfl, Nat.le_of_ble_eq_true rfl⟩) hS (fun q _ h => hFc q h) hFc (fun u t H1 locs ht hvm hw hB hz1 hk1 hS => ?_)
  obtain ⟨hP1, hD1⟩ := hB
  rw [ht] at hP1
  obtain rfl := hw
  obtain ⟨hP, hD⟩ := va_join (wr := [(a_k, (oc5 a_h a_j a_pt e_ln e_se e_lh e_br e_we e_me e_ce e_wy e_ho e_ov)), (a_h, (oc1 e_wa e_le e_st e_fo e_lc a_l a_g a_b a_s a_p a_w e_gb a_bb)), (a_g, (oc6 6 5 a_gn e_g)), (a_gn, (arI G 30 f_g)), (a_b, (oc6 5 24 a_bn e_b)), (a_bn, (arI G 120 f_b)), (a_p, (oc6 8 5 a_pn e_p)), (a_pn, (arI G 40 f_p)), (a_s, (oc6 10 4 a_sn e_s)), (a_sn, (arI G 40 f_s)), (a_bb, (arJ G 24 f_bb)), (a_j, (oc2 a_as a_sk)), (a_as, (arI G 8 f_as)), (a_sk, (arJ G 50 f_sk)), (a_l, (arW G 6 f_l)), (a_lo, (oc3 e_cl a_hd a_sr a_cd)), (a_sr, (arI G n_sr f_sr)), (a_cd, (arI G n_cd f_cd)), (a_hd, (arI G n_hd f_hd)), (a_pt, (arI G 200 f_pt)), (a_th, (oc7 a_h a_k a_ba a_ad e_fu a_cn a_nx a_hp a_hl a_lv)), (a_ad, (arI G 1536 f_ad))]) hP hD [21] [0, 1, 2, 3, 4, 5, 6, 7, 8, 9, 10, 11, 12, 13, 14, 15, 16, 17, 18, 19, 20, 22] rfl rfl (by decide) (by decide) hk1 hFc hP1 hD1
  generalize H1 = H at hP hS ⊢
  refine g5_rs [(a_k, (oc5 a_h a_j a_pt e_ln e_se e_lh e_br e_we e_me e_ce e_wy e_ho e_ov)), (a_h, (oc1 e_wa e_le e_st e_fo e_lc a_l a_g a_b a_s a_p a_w e_gb a_bb)), (a_g, (oc6 6 5 a_gn e_g)), (a_gn, (arI G 30 f_g)), (a_b, (oc6 5 24 a_bn e_b)), (a_bn, (arI G 120 f_b)), (a_p, (oc6 8 5 a_pn e_p)), (a_pn, (arI G 40 f_p)), (a_s, (oc6 10 4 a_sn e_s)), (a_sn, (arI G 40 f_s)), (a_bb, (arJ G 24 f_bb)), (a_j, (oc2 a_as a_sk)), (a_as, (arI G 8 f_as)), (a_sk, (arJ G 50 f_sk)), (a_l, (arW G 6 f_l)), (a_lo, (oc3 e_cl a_hd a_sr a_cd)), (a_sr, (arI G n_sr f_sr)), (a_cd, (arI G n_cd f_cd)), (a_hd, (arI G n_hd f_hd)), (a_pt, (arI G 200 f_pt)), (a_th, (oc7 a_h a_k a_ba a_ad e_fu a_cn a_nx a_hp a_hl a_lv)), (a_ad, (arI G 1536 f_ad)), (a_ba, (arJ G 24 (fun _ => e_wa)))] hP hD (fun hP hD => ?_)
  refine lv_aload_n hx hb dX7_load_14 rfl (lv_at hl 0 rfl) ?_
  refine va_get (D := G.1) (ci := 7) (v := .ref a_ad) (C := RX7) (T := TX7) (N := 10) hx hb hts inG_X7 hown hK hP 20 rfl rfl 3 (by decide) (hts _ fl_X7_15) (fun _ h9 => h9) rfl dX7_load_15 ?_
  refine lv_iconst (v := 0) hx hb dX7_load_18 (by decide) ?_
  obtain ⟨hPc, hDc, hFc⟩ := g5_sub3 (wc := [(a_ad, (arI G 1536 f_ad))]) hP hD hS hA [21] (by decide) rfl
  refine va_callv (va_runS (As := [.ref a_ad, .int 0]) (rest := []) ⟨hx, hb, hml, hown, hts⟩ (k_fillI1536 l G a_ad H.size 0 f_ad) (va_cwS 2 hts gS_X7_64 rfl rfl rfl hs_J7_fill_53178 ⟨Nat.le_of_ble_eq_true rfl, Nat.le_of_ble_eq_true rfl⟩) (g5_preS hPc hK hDc hN hT hS hFc) rfl rfl hl.1 rfl (lv_room (Nat.le_of_ble_eq_true rfl)) dX7_load_19 ⟨Nat.le_of_ble_eq_true rfl, Nat.le_of_ble_eq_true rfl⟩) hS (fun q _ h => hFc q h) hFc (fun u t H1 locs ht hvm hw hB hz1 hk1 hS => ?_)
  obtain ⟨hP1, hD1⟩ := hB
  rw [ht] at hP1
  obtain rfl := hw
  obtain ⟨hP, hD⟩ := va_join (wr := [(a_k, (oc5 a_h a_j a_pt e_ln e_se e_lh e_br e_we e_me e_ce e_wy e_ho e_ov)), (a_h, (oc1 e_wa e_le e_st e_fo e_lc a_l a_g a_b a_s a_p a_w e_gb a_bb)), (a_g, (oc6 6 5 a_gn e_g)), (a_gn, (arI G 30 f_g)), (a_b, (oc6 5 24 a_bn e_b)), (a_bn, (arI G 120 f_b)), (a_p, (oc6 8 5 a_pn e_p)), (a_pn, (arI G 40 f_p)), (a_s, (oc6 10 4 a_sn e_s)), (a_sn, (arI G 40 f_s)), (a_bb, (arJ G 24 f_bb)), (a_j, (oc2 a_as a_sk)), (a_as, (arI G 8 f_as)), (a_sk, (arJ G 50 f_sk)), (a_l, (arW G 6 f_l)), (a_lo, (oc3 e_cl a_hd a_sr a_cd)), (a_sr, (arI G n_sr f_sr)), (a_cd, (arI G n_cd f_cd)), (a_hd, (arI G n_hd f_hd)), (a_pt, (arI G 200 f_pt)), (a_th, (oc7 a_h a_k a_ba a_ad e_fu a_cn a_nx a_hp a_hl a_lv)), (a_ba, (arJ G 24 (fun _ => e_wa)))]) hP hD [21] [0, 1, 2, 3, 4, 5, 6, 7, 8, 9, 10, 11, 12, 13, 14, 15, 16, 17, 18, 19, 20, 22] rfl rfl (by decide) (by decide) hk1 hFc hP1 hD1
  generalize H1 = H at hP hS ⊢
  refine g5_rs [(a_k, (oc5 a_h a_j a_pt e_ln e_se e_lh e_br e_we e_me e_ce e_wy e_ho e_ov)), (a_h, (oc1 e_wa e_le e_st e_fo e_lc a_l a_g a_b a_s a_p a_w e_gb a_bb)), (a_g, (oc6 6 5 a_gn e_g)), (a_gn, (arI G 30 f_g)), (a_b, (oc6 5 24 a_bn e_b)), (a_bn, (arI G 120 f_b)), (a_p, (oc6 8 5 a_pn e_p)), (a_pn, (arI G 40 f_p)), (a_s, (oc6 10 4 a_sn e_s)), (a_sn, (arI G 40 f_s)), (a_bb, (arJ G 24 f_bb)), (a_j, (oc2 a_as a_sk)), (a_as, (arI G 8 f_as)), (a_sk, (arJ G 50 f_sk)), (a_l, (arW G 6 f_l)), (a_lo, (oc3 e_cl a_hd a_sr a_cd)), (a_sr, (arI G n_sr f_sr)), (a_cd, (arI G n_cd f_cd)), (a_hd, (arI G n_hd f_hd)), (a_pt, (arI G 200 f_pt)), (a_th, (oc7 a_h a_k a_ba a_ad e_fu a_cn a_nx a_hp a_hl a_lv)), (a_ba, (arJ G 24 (fun _ => e_wa))), (a_ad, (arI G 1536 (fun _ => (0 : Int32))))] hP hD (fun hP hD => ?_)
  refine lv_aload_n hx hb dX7_load_22 rfl (lv_at hl 0 rfl) ?_
  refine va_get (D := G.1) (ci := 7) (v := .ref a_h) (C := RX7) (T := TX7) (N := 10) hx hb hts inG_X7 hown hK hP 20 rfl rfl 0 (by decide) (hts _ fl_X7_34) (fun _ h9 => h9) rfl dX7_load_23 ?_
  refine va_get (D := G.1) (ci := 1) (v := .int e_st) (C := RX1) (T := TX1) (N := 13) hx hb hts inG_X1 hown hK hP 1 rfl rfl 2 (by decide) (hts _ fl_X7_67) (fun _ h9 => h9) rfl dX7_load_26 ?_
  refine lv_iconst (v := (-1)) hx hb dX7_load_29 (by decide) ?_
  refine lv_icmp_eq (tgt := 55) hx hb dX7_load_30 (by decide) (fun c_1 => ?_) (fun c_1 => ?_)
  ·
    have i_1 : e_st.toInt = (-1) := by have z := g5_eq (a := e_st.toInt) (b := (-1)) (by rfl) (by decide) c_1; omega
    refine lv_iconst (v := 1) hx hb dX7_load_55 (by decide) ?_
    refine lv_istore_n (lv' := [(2, .int 1), (0, .ref a_th), (1, .int p_s)]) hx hb dX7_load_56 rfl hl (by decide) rfl (fun ls hl => ?_)
    refine lv_aload_n hx hb dX7_load_57 rfl (lv_at hl 1 rfl) ?_
    refine va_get (D := G.1) (ci := 7) (v := .ref a_h) (C := RX7) (T := TX7) (N := 10) hx hb hts inG_X7 hown hK hP 20 rfl rfl 0 (by decide) (hts _ fl_X7_34) (fun _ h9 => h9) rfl dX7_load_58 ?_
    refine va_get (D := G.1) (ci := 1) (v := .ref a_s) (C := RX1) (T := TX1) (N := 13) hx hb hts inG_X1 hown hK hP 1 rfl rfl 8 (by decide) (hts _ fl_X7_42) (fun _ h9 => h9) rfl dX7_load_61 ?_
    refine lv_astore_n (lv' := [(3, .ref a_s), (2, .int 1), (0, .ref a_th), (1, .int p_s)]) hx hb dX7_load_64 rfl hl (by decide) rfl (fun ls hl => ?_)
    refine lv_iconst (v := 0) hx hb dX7_load_65 (by decide) ?_
    refine lv_istore (lv' := [(4, .int 0), (3, .ref a_s), (2, .int 1), (0, .ref a_th), (1, .int p_s)]) hx hb dX7_load_66 hl (by decide) rfl (fun ls hl => ?_)
    refine g5_loop (α := (Int32) × (Int32) × (Int32) × (Int32) × (Int32) × (Int32) × (Int32) × (Int32) × (Int32) × (Int32) × (Int32) × (Nat → Int32) × (Nat → Int32) × (Nat → Int64) × (Int32) × (Nat → Int64) × (Nat → Int32)) (fun (q : (Int32) × (Int32) × (Int32) × (Int32) × (Int32) × (Int32) × (Int32) × (Int32) × (Int32) × (Int32) × (Int32) × (Nat → Int32) × (Nat → Int32) × (Nat → Int64) × (Int32) × (Nat → Int64) × (Nat → Int32)) (ls : Array Slot) (H : Heap) (locs : List Loc) => match q with | (k_b, k_i, k_se, k_lh, k_br, k_we, k_me, k_ce, k_wy, k_ho, k_ov, k_pt, k_as, k_sk, k_ln, k_ba, k_ad) => lv_has ls 5 [(2, .int k_b), (4, .int k_i), (3, .ref a_s), (0, .ref a_th), (1, .int p_s)] ∧ va_P G.1 vwCl [(a_k, (oc5 a_h a_j a_pt k_ln k_se k_lh k_br k_we k_me k_ce k_wy k_ho k_ov)), (a_h, (oc1 e_wa e_le e_st e_fo e_lc a_l a_g a_b a_s a_p a_w e_gb a_bb)), (a_g, (oc6 6 5 a_gn e_g)), (a_gn, (arI G 30 f_g)), (a_b, (oc6 5 24 a_bn e_b)), (a_bn, (arI G 120 f_b)), (a_p, (oc6 8 5 a_pn e_p)), (a_pn, (arI G 40 f_p)), (a_s, (oc6 10 4 a_sn e_s)), (a_sn, (arI G 40 f_s)), (a_bb, (arJ G 24 f_bb)), (a_j, (oc2 a_as a_sk)), (a_as, (arI G 8 k_as)), (a_sk, (arJ G 50 k_sk)), (a_l, (arW G 6 f_l)), (a_lo, (oc3 e_cl a_hd a_sr a_cd)), (a_sr, (arI G n_sr f_sr)), (a_cd, (arI G n_cd f_cd)), (a_hd, (arI G n_hd f_hd)), (a_pt, (arI G 200 k_pt)), (a_th, (oc7 a_h a_k a_ba a_ad e_fu a_cn a_nx a_hp a_hl a_lv)), (a_ba, (arJ G 24 k_ba)), (a_ad, (arI G 1536 k_ad))] H ∧ va_D A [(a_k, (oc5 a_h a_j a_pt k_ln k_se k_lh k_br k_we k_me k_ce k_wy k_ho k_ov)), (a_h, (oc1 e_wa e_le e_st e_fo e_lc a_l a_g a_b a_s a_p a_w e_gb a_bb)), (a_g, (oc6 6 5 a_gn e_g)), (a_gn, (arI G 30 f_g)), (a_b, (oc6 5 24 a_bn e_b)), (a_bn, (arI G 120 f_b)), (a_p, (oc6 8 5 a_pn e_p)), (a_pn, (arI G 40 f_p)), (a_s, (oc6 10 4 a_sn e_s)), (a_sn, (arI G 40 f_s)), (a_bb, (arJ G 24 f_bb)), (a_j, (oc2 a_as a_sk)), (a_as, (arI G 8 k_as)), (a_sk, (arJ G 50 k_sk)), (a_l, (arW G 6 f_l)), (a_lo, (oc3 e_cl a_hd a_sr a_cd)), (a_sr, (arI G n_sr f_sr)), (a_cd, (arI G n_cd f_cd)), (a_hd, (arI G n_hd f_hd)), (a_pt, (arI G 200 k_pt)), (a_th, (oc7 a_h a_k a_ba a_ad e_fu a_cn a_nx a_hp a_hl a_lv)), (a_ba, (arJ G 24 k_ba)), (a_ad, (arI G 1536 k_ad))] ∧ va_S A s.heap H locs ∧ (0 ≤ k_i.toInt ∧ k_i.toInt ≤ 10) ∧ (0 ≤ k_ov.toInt ∧ k_ov.toInt ≤ 1) ∧ (k_i.toInt ≤ e_s.toInt) ∧ (LDI f_s e_s.toInt k_i.toInt k_b k_ad)) (fun (q : (Int32) × (Int32) × (Int32) × (Int32) × (Int32) × (Int32) × (Int32) × (Int32) × (Int32) × (Int32) × (Int32) × (Nat → Int32) × (Nat → Int32) × (Nat → Int64) × (Int32) × (Nat → Int64) × (Nat → Int32)) => match q with | (k_b, k_i, k_se, k_lh, k_br, k_we, k_me, k_ce, k_wy, k_ho, k_ov, k_pt, k_as, k_sk, k_ln, k_ba, k_ad) => Int.toNat (10 - k_i.toInt)) (1, 0, e_se, e_lh, e_br, e_we, e_me, e_ce, e_wy, e_ho, e_ov, f_pt, f_as, f_sk, e_ln, (fun _ => e_wa), (fun _ => (0 : Int32))) ⟨lv_sub hl [2, 0, 1, 3, 4] rfl, hP, hD, hS, ⟨by decide, by decide⟩, h_e_ov, by have z0 : (0 : Int32).toInt = 0 := (by decide); omega, ld_0⟩ ?_
    rintro ⟨k_b, k_i, k_se, k_lh, k_br, k_we, k_me, k_ce, k_wy, k_ho, k_ov, k_pt, k_as, k_sk, k_ln, k_ba, k_ad⟩ ls H locs ⟨hl, hP, hD, hS, i_2, i_3, i_4, i_5⟩ ih_68_6
    have hl : lv_has ls 5 [(2, .int k_b), (4, .int k_i), (3, .ref a_s), (0, .ref a_th), (1, .int p_s)] := hl
    have i_2 : 0 ≤ k_i.toInt ∧ k_i.toInt ≤ 10 := i_2
    have i_3 : 0 ≤ k_ov.toInt ∧ k_ov.toInt ≤ 1 := i_3
    have i_4 : k_i.toInt ≤ e_s.toInt := i_4
    have i_5 : LDI f_s e_s.toInt k_i.toInt k_b k_ad := i_5
    refine g5_rs [(a_k, (oc5 a_h a_j a_pt k_ln k_se k_lh k_br k_we k_me k_ce k_wy k_ho k_ov)), (a_h, (oc1 e_wa e_le e_st e_fo e_lc a_l a_g a_b a_s a_p a_w e_gb a_bb)), (a_g, (oc6 6 5 a_gn e_g)), (a_gn, (arI G 30 f_g)), (a_b, (oc6 5 24 a_bn e_b)), (a_bn, (arI G 120 f_b)), (a_p, (oc6 8 5 a_pn e_p)), (a_pn, (arI G 40 f_p)), (a_s, (oc6 10 4 a_sn e_s)), (a_sn, (arI G 40 f_s)), (a_bb, (arJ G 24 f_bb)), (a_j, (oc2 a_as a_sk)), (a_as, (arI G 8 k_as)), (a_sk, (arJ G 50 k_sk)), (a_l, (arW G 6 f_l)), (a_lo, (oc3 e_cl a_hd a_sr a_cd)), (a_sr, (arI G n_sr f_sr)), (a_cd, (arI G n_cd f_cd)), (a_hd, (arI G n_hd f_hd)), (a_pt, (arI G 200 k_pt)), (a_th, (oc7 a_h a_k a_ba a_ad e_fu a_cn a_nx a_hp a_hl a_lv)), (a_ba, (arJ G 24 k_ba)), (a_ad, (arI G 1536 k_ad))] hP hD (fun hP hD => ?_)
    refine lv_iload hx hb dX7_load_68 (lv_at hl 1 rfl) ?_
    refine lv_aload_n hx hb dX7_load_70 rfl (lv_at hl 2 rfl) ?_
    refine va_get (D := G.1) (ci := 6) (v := .int e_s) (C := RX6) (T := TX6) (N := 4) hx hb hts inG_X6 hown hK hP 8 rfl rfl 3 (by decide) (hts _ fl_X7_48) (fun _ h9 => h9) rfl dX7_load_71 ?_
    refine lv_icmp_ge (tgt := 148) hx hb dX7_load_74 (by decide) (fun c_7 => ?_) (fun c_7 => ?_)
    ·
      have i_7 : k_i.toInt ≥ e_s.toInt := by have z := g5_ge (a := k_i.toInt) (b := e_s.toInt) (by rfl) (by rfl) c_7; omega
      refine lv_aload_n hx hb dX7_load_148 rfl (lv_at hl 3 rfl) ?_
      refine lv_iload_n hx hb dX7_load_149 rfl (lv_at hl 0 rfl) ?_
      refine lv_iconst (v := 1) hx hb dX7_load_150 (by decide) ?_
      refine lv_isub hx hb dX7_load_151 ?_
      refine va_put (D := G.1) (ci := 7) (v := .int (k_b - 1)) (ty := .int) (C := RX7) (T := TX7) (N := 10) hx hb hts inG_X7 tyX7 tyX7_ok nmX7 hown hK hP hD hS 20 rfl rfl 4 (by decide) (hts _ fl_X7_89) (fun _ h9 => h9) rfl (by decide +kernel) rfl rfl (Nat.le_of_ble_eq_true rfl) dX7_load_152 (fun H locs hP hD hS => ?_)
      refine g5_rs [(a_k, (oc5 a_h a_j a_pt k_ln k_se k_lh k_br k_we k_me k_ce k_wy k_ho k_ov)), (a_h, (oc1 e_wa e_le e_st e_fo e_lc a_l a_g a_b a_s a_p a_w e_gb a_bb)), (a_g, (oc6 6 5 a_gn e_g)), (a_gn, (arI G 30 f_g)), (a_b, (oc6 5 24 a_bn e_b)), (a_bn, (arI G 120 f_b)), (a_p, (oc6 8 5 a_pn e_p)), (a_pn, (arI G 40 f_p)), (a_s, (oc6 10 4 a_sn e_s)), (a_sn, (arI G 40 f_s)), (a_bb, (arJ G 24 f_bb)), (a_j, (oc2 a_as a_sk)), (a_as, (arI G 8 k_as)), (a_sk, (arJ G 50 k_sk)), (a_l, (arW G 6 f_l)), (a_lo, (oc3 e_cl a_hd a_sr a_cd)), (a_sr, (arI G n_sr f_sr)), (a_cd, (arI G n_cd f_cd)), (a_hd, (arI G n_hd f_hd)), (a_pt, (arI G 200 k_pt)), (a_th, (oc7 a_h a_k a_ba a_ad (k_b - 1) a_cn a_nx a_hp a_hl a_lv)), (a_ba, (arJ G 24 k_ba)), (a_ad, (arI G 1536 k_ad))] hP hD (fun hP hD => ?_)
      exact W.vret hx hb hr (fun t ht hW => ⟨⟨[(a_k, (oc5 a_h a_j a_pt k_ln k_se k_lh k_br k_we k_me k_ce k_wy k_ho k_ov)), (a_h, (oc1 e_wa e_le e_st e_fo e_lc a_l a_g a_b a_s a_p a_w e_gb a_bb)), (a_g, (oc6 6 5 a_gn e_g)), (a_gn, (arI G 30 f_g)), (a_b, (oc6 5 24 a_bn e_b)), (a_bn, (arI G 120 f_b)), (a_p, (oc6 8 5 a_pn e_p)), (a_pn, (arI G 40 f_p)), (a_s, (oc6 10 4 a_sn e_s)), (a_sn, (arI G 40 f_s)), (a_bb, (arJ G 24 f_bb)), (a_j, (oc2 a_as a_sk)), (a_as, (arI G 8 k_as)), (a_sk, (arJ G 50 k_sk)), (a_l, (arW G 6 f_l)), (a_lo, (oc3 e_cl a_hd a_sr a_cd)), (a_sr, (arI G n_sr f_sr)), (a_cd, (arI G n_cd f_cd)), (a_hd, (arI G n_hd f_hd)), (a_pt, (arI G 200 k_pt)), (a_th, (oc7 a_h a_k a_ba a_ad (k_b - 1) a_cn a_nx a_hp a_hl a_lv)), (a_ba, (arJ G 24 k_ba)), (a_ad, (arI G 1536 k_ad))], rfl, ⟨k_ln, k_se, k_lh, k_br, k_we, k_me, k_ce, k_wy, k_ho, k_ov, k_pt, k_as, k_sk, (k_b - 1), k_ba, k_ad, i_3, ld_end i_5 e_sh e_s5 (by omega) (by omega), rfl⟩, by rw [ht]; exact hP.sub [0, 1, 2, 3, 4, 5, 6, 7, 8, 9, 10, 11, 12, 13, 14, 15, 16, 17, 18, 19, 20, 21, 22] rfl, hD.sub [0, 1, 2, 3, 4, 5, 6, 7, 8, 9, 10, 11, 12, 13, 14, 15, 16, 17, 18, 19, 20, 21, 22] (by decide) rfl⟩, hS.F ht⟩) hS.2.2 dX7_load_155
    ·
      have i_7 : k_i.toInt < e_s.toInt := by have z := g5_geN (a := k_i.toInt) (b := e_s.toInt) (by rfl) (by rfl) c_7; omega
      refine lv_iload_n hx hb dX7_load_77 rfl (lv_at hl 4 rfl) ?_
      refine lv_iload hx hb dX7_load_78 (lv_at hl 1 rfl) ?_
      refine lv_ishr hx hb dX7_load_80 ?_
      refine lv_iconst (v := 1) hx hb dX7_load_81 (by decide) ?_
      refine lv_iand hx hb dX7_load_82 ?_
      refine lv_if_eq (tgt := 142) hx hb dX7_load_83 (by decide) (fun c_8 => ?_) (fun c_8 => ?_)
      ·
        have i_8 : ((p_s >>> (k_i &&& 31)) &&& 1).toInt = 0 := by have z := g5_eq (a := ((p_s >>> (k_i &&& 31)) &&& 1).toInt) (b := 0) (by rfl) (by decide) c_8; omega
        refine lv_iinc (v := (k_i + 1)) (lv' := [(4, .int (k_i + 1)), (2, .int k_b), (3, .ref a_s), (0, .ref a_th), (1, .int p_s)]) hx hb dX7_load_142 hl (k := 1) rfl rfl (by decide) rfl (fun ls hl => ?_)
        have t_9 : (k_i + 1).toInt = k_i.toInt + 1 := g5_iadd (a := k_i.toInt) (b := 1) rfl (by decide) (by omega) (by omega)
        refine lv_goto (tgt := 68) hx hb dX7_load_145 (by decide) ?_
        exact ih_68_6 (k_b, (k_i + 1), k_se, k_lh, k_br, k_we, k_me, k_ce, k_wy, k_ho, k_ov, k_pt, k_as, k_sk, k_ln, k_ba, k_ad) ls H locs (show Int.toNat (10 - (k_i + 1).toInt) < Int.toNat (10 - k_i.toInt) from g_up (show k_i.toInt < (k_i + 1).toInt by omega) (show k_i.toInt < 10 by omega)) ⟨lv_sub hl [1, 0, 2, 3, 4] rfl, hP, hD, hS, ⟨by omega, by omega⟩, i_3, by omega, ld_stay i_5 e_sh (by omega) (by omega) (by omega)⟩
      ·
        have n_8 : gNe (((p_s >>> (k_i &&& 31)) &&& 1).toInt) (0) := by have z := g5_eqN (a := ((p_s >>> (k_i &&& 31)) &&& 1).toInt) (b := 0) (by rfl) (by decide) c_8; unfold gNe; omega
        refine lv_aload_n hx hb dX7_load_86 rfl (lv_at hl 3 rfl) ?_
        refine va_get (D := G.1) (ci := 7) (v := .ref a_k) (C := RX7) (T := TX7) (N := 10) hx hb hts inG_X7 hown hK hP 20 rfl rfl 1 (by decide) (hts _ fl_X7_38) (fun _ h9 => h9) rfl dX7_load_87 ?_
        refine lv_aload_n hx hb dX7_load_90 rfl (lv_at hl 2 rfl) ?_
        refine lv_iload hx hb dX7_load_91 (lv_at hl 1 rfl) ?_
        refine lv_iconst (v := 0) hx hb dX7_load_93 (by decide) ?_
        obtain ⟨hPc, hDc, hFc⟩ := g5_sub3 (wc := [(a_s, (oc6 10 4 a_sn e_s)), (a_sn, (arI G 40 f_s))]) hP hD hS hA [8, 9] (by decide) rfl
        refine va_calli (va_runV (As := [.int k_i, .int 0]) (rest := [.ref a_k]) ⟨hx, hb, hml, hown, hts⟩ (t_get_S l G a_s a_sn H.size e_s k_i 0 f_s h_e_s) (cwV 2 hts gV_X7_72 rfl rfl rfl hv_X6_get ⟨Nat.le_of_ble_eq_true rfl, Nat.le_of_ble_eq_true rfl⟩) (g5_preV hPc hK hDc hN hT hS hFc (ci := 6) (q0 := 0) rfl rfl) rfl rfl hl.1 rfl (lv_room (Nat.le_of_ble_eq_true rfl)) dX7_load_94 ⟨Nat.le_of_ble_eq_true rfl, Nat.le_of_ble_eq_true rfl⟩) hS (fun q _ h => hFc q h) hFc (fun r u t H1 locs ht hvm hw hB hz1 hk1 hS => ?_)
        obtain ⟨hP1, hD1⟩ := hB
        rw [ht] at hP1
        obtain ⟨z11, i_10, y12, rfl⟩ := hw
        have i_10 : z11 = tget f_s e_s.toInt 4 k_i.toInt (0 : Int32).toInt := i_10
        obtain ⟨hP, hD⟩ := va_join (wr := [(a_k, (oc5 a_h a_j a_pt k_ln k_se k_lh k_br k_we k_me k_ce k_wy k_ho k_ov)), (a_h, (oc1 e_wa e_le e_st e_fo e_lc a_l a_g a_b a_s a_p a_w e_gb a_bb)), (a_g, (oc6 6 5 a_gn e_g)), (a_gn, (arI G 30 f_g)), (a_b, (oc6 5 24 a_bn e_b)), (a_bn, (arI G 120 f_b)), (a_p, (oc6 8 5 a_pn e_p)), (a_pn, (arI G 40 f_p)), (a_bb, (arJ G 24 f_bb)), (a_j, (oc2 a_as a_sk)), (a_as, (arI G 8 k_as)), (a_sk, (arJ G 50 k_sk)), (a_l, (arW G 6 f_l)), (a_lo, (oc3 e_cl a_hd a_sr a_cd)), (a_sr, (arI G n_sr f_sr)), (a_cd, (arI G n_cd f_cd)), (a_hd, (arI G n_hd f_hd)), (a_pt, (arI G 200 k_pt)), (a_th, (oc7 a_h a_k a_ba a_ad e_fu a_cn a_nx a_hp a_hl a_lv)), (a_ba, (arJ G 24 k_ba)), (a_ad, (arI G 1536 k_ad))]) hP hD [8, 9] [0, 1, 2, 3, 4, 5, 6, 7, 10, 11, 12, 13, 14, 15, 16, 17, 18, 19, 20, 21, 22] rfl rfl (by decide) (by decide) hk1 hFc hP1 hD1
        generalize H1 = H at hP hS ⊢
        refine g5_rs [(a_k, (oc5 a_h a_j a_pt k_ln k_se k_lh k_br k_we k_me k_ce k_wy k_ho k_ov)), (a_h, (oc1 e_wa e_le e_st e_fo e_lc a_l a_g a_b a_s a_p a_w e_gb a_bb)), (a_g, (oc6 6 5 a_gn e_g)), (a_gn, (arI G 30 f_g)), (a_b, (oc6 5 24 a_bn e_b)), (a_bn, (arI G 120 f_b)), (a_p, (oc6 8 5 a_pn e_p)), (a_pn, (arI G 40 f_p)), (a_bb, (arJ G 24 f_bb)), (a_j, (oc2 a_as a_sk)), (a_as, (arI G 8 k_as)), (a_sk, (arJ G 50 k_sk)), (a_l, (arW G 6 f_l)), (a_lo, (oc3 e_cl a_hd a_sr a_cd)), (a_sr, (arI G n_sr f_sr)), (a_cd, (arI G n_cd f_cd)), (a_hd, (arI G n_hd f_hd)), (a_pt, (arI G 200 k_pt)), (a_th, (oc7 a_h a_k a_ba a_ad e_fu a_cn a_nx a_hp a_hl a_lv)), (a_ba, (arJ G 24 k_ba)), (a_ad, (arI G 1536 k_ad)), (a_s, (oc6 10 4 a_sn e_s)), (a_sn, (arI G 40 f_s))] hP hD (fun hP hD => ?_)
        refine g5_ti (v := z11) y12 ?_
        refine lv_aload_n hx hb dX7_load_97 rfl (lv_at hl 2 rfl) ?_
        refine lv_iload hx hb dX7_load_98 (lv_at hl 1 rfl) ?_
        refine lv_iconst (v := 1) hx hb dX7_load_100 (by decide) ?_
        obtain ⟨hPc, hDc, hFc⟩ := g5_sub3 (wc := [(a_s, (oc6 10 4 a_sn e_s)), (a_sn, (arI G 40 f_s))]) hP hD hS hA [21, 22] (by decide) rfl
        refine va_calli (va_runV (As := [.int k_i, .int 1]) (rest := [.int z11, .ref a_k]) ⟨hx, hb, hml, hown, hts⟩ (t_get_S l G a_s a_sn H.size e_s k_i 1 f_s h_e_s) (cwV 2 hts gV_X7_72 rfl rfl rfl hv_X6_get ⟨Nat.le_of_ble_eq_true rfl, Nat.le_of_ble_eq_true rfl⟩) (g5_preV hPc hK hDc hN hT hS hFc (ci := 6) (q0 := 0) rfl rfl) rfl rfl hl.1 rfl (lv_room (Nat.le_of_ble_eq_true rfl)) dX7_load_101 ⟨Nat.le_of_ble_eq_true rfl, Nat.le_of_ble_eq_true rfl⟩) hS (fun q _ h => hFc q h) hFc (fun r u t H1 locs ht hvm hw hB hz1 hk1 hS => ?_)
        obtain ⟨hP1, hD1⟩ := hB
        rw [ht] at hP1
        obtain ⟨z14, i_13, y15, rfl⟩ := hw
        have i_13 : z14 = tget f_s e_s.toInt 4 k_i.toInt (1 : Int32).toInt := i_13
        obtain ⟨hP, hD⟩ := va_join (wr := [(a_k, (oc5 a_h a_j a_pt k_ln k_se k_lh k_br k_we k_me k_ce k_wy k_ho k_ov)), (a_h, (oc1 e_wa e_le e_st e_fo e_lc a_l a_g a_b a_s a_p a_w e_gb a_bb)), (a_g, (oc6 6 5 a_gn e_g)), (a_gn, (arI G 30 f_g)), (a_b, (oc6 5 24 a_bn e_b)), (a_bn, (arI G 120 f_b)), (a_p, (oc6 8 5 a_pn e_p)), (a_pn, (arI G 40 f_p)), (a_bb, (arJ G 24 f_bb)), (a_j, (oc2 a_as a_sk)), (a_as, (arI G 8 k_as)), (a_sk, (arJ G 50 k_sk)), (a_l, (arW G 6 f_l)), (a_lo, (oc3 e_cl a_hd a_sr a_cd)), (a_sr, (arI G n_sr f_sr)), (a_cd, (arI G n_cd f_cd)), (a_hd, (arI G n_hd f_hd)), (a_pt, (arI G 200 k_pt)), (a_th, (oc7 a_h a_k a_ba a_ad e_fu a_cn a_nx a_hp a_hl a_lv)), (a_ba, (arJ G 24 k_ba)), (a_ad, (arI G 1536 k_ad))]) hP hD [21, 22] [0, 1, 2, 3, 4, 5, 6, 7, 8, 9, 10, 11, 12, 13, 14, 15, 16, 17, 18, 19, 20] rfl rfl (by decide) (by decide) hk1 hFc hP1 hD1
        generalize H1 = H at hP hS ⊢
        refine g5_rs [(a_k, (oc5 a_h a_j a_pt k_ln k_se k_lh k_br k_we k_me k_ce k_wy k_ho k_ov)), (a_h, (oc1 e_wa e_le e_st e_fo e_lc a_l a_g a_b a_s a_p a_w e_gb a_bb)), (a_g, (oc6 6 5 a_gn e_g)), (a_gn, (arI G 30 f_g)), (a_b, (oc6 5 24 a_bn e_b)), (a_bn, (arI G 120 f_b)), (a_p, (oc6 8 5 a_pn e_p)), (a_pn, (arI G 40 f_p)), (a_bb, (arJ G 24 f_bb)), (a_j, (oc2 a_as a_sk)), (a_as, (arI G 8 k_as)), (a_sk, (arJ G 50 k_sk)), (a_l, (arW G 6 f_l)), (a_lo, (oc3 e_cl a_hd a_sr a_cd)), (a_sr, (arI G n_sr f_sr)), (a_cd, (arI G n_cd f_cd)), (a_hd, (arI G n_hd f_hd)), (a_pt, (arI G 200 k_pt)), (a_th, (oc7 a_h a_k a_ba a_ad e_fu a_cn a_nx a_hp a_hl a_lv)), (a_ba, (arJ G 24 k_ba)), (a_ad, (arI G 1536 k_ad)), (a_s, (oc6 10 4 a_sn e_s)), (a_sn, (arI G 40 f_s))] hP hD (fun hP hD => ?_)
        refine g5_ti (v := z14) y15 ?_
        refine lv_aload_n hx hb dX7_load_104 rfl (lv_at hl 2 rfl) ?_
        refine lv_iload hx hb dX7_load_105 (lv_at hl 1 rfl) ?_
        refine lv_iconst (v := 2) hx hb dX7_load_107 (by decide) ?_
        obtain ⟨hPc, hDc, hFc⟩ := g5_sub3 (wc := [(a_s, (oc6 10 4 a_sn e_s)), (a_sn, (arI G 40 f_s))]) hP hD hS hA [21, 22] (by decide) rfl
        refine va_calli (va_runV (As := [.int k_i, .int 2]) (rest := [.int z14, .int z11, .ref a_k]) ⟨hx, hb, hml, hown, hts⟩ (t_get_S l G a_s a_sn H.size e_s k_i 2 f_s h_e_s) (cwV 2 hts gV_X7_72 rfl rfl rfl hv_X6_get ⟨Nat.le_of_ble_eq_true rfl, Nat.le_of_ble_eq_true rfl⟩) (g5_preV hPc hK hDc hN hT hS hFc (ci := 6) (q0 := 0) rfl rfl) rfl rfl hl.1 rfl (lv_room (Nat.le_of_ble_eq_true rfl)) dX7_load_108 ⟨Nat.le_of_ble_eq_true rfl, Nat.le_of_ble_eq_true rfl⟩) hS (fun q _ h => hFc q h) hFc (fun r u t H1 locs ht hvm hw hB hz1 hk1 hS => ?_)
        obtain ⟨hP1, hD1⟩ := hB
        rw [ht] at hP1
        obtain ⟨z17, i_16, y18, rfl⟩ := hw
        have i_16 : z17 = tget f_s e_s.toInt 4 k_i.toInt (2 : Int32).toInt := i_16
        obtain ⟨hP, hD⟩ := va_join (wr := [(a_k, (oc5 a_h a_j a_pt k_ln k_se k_lh k_br k_we k_me k_ce k_wy k_ho k_ov)), (a_h, (oc1 e_wa e_le e_st e_fo e_lc a_l a_g a_b a_s a_p a_w e_gb a_bb)), (a_g, (oc6 6 5 a_gn e_g)), (a_gn, (arI G 30 f_g)), (a_b, (oc6 5 24 a_bn e_b)), (a_bn, (arI G 120 f_b)), (a_p, (oc6 8 5 a_pn e_p)), (a_pn, (arI G 40 f_p)), (a_bb, (arJ G 24 f_bb)), (a_j, (oc2 a_as a_sk)), (a_as, (arI G 8 k_as)), (a_sk, (arJ G 50 k_sk)), (a_l, (arW G 6 f_l)), (a_lo, (oc3 e_cl a_hd a_sr a_cd)), (a_sr, (arI G n_sr f_sr)), (a_cd, (arI G n_cd f_cd)), (a_hd, (arI G n_hd f_hd)), (a_pt, (arI G 200 k_pt)), (a_th, (oc7 a_h a_k a_ba a_ad e_fu a_cn a_nx a_hp a_hl a_lv)), (a_ba, (arJ G 24 k_ba)), (a_ad, (arI G 1536 k_ad))]) hP hD [21, 22] [0, 1, 2, 3, 4, 5, 6, 7, 8, 9, 10, 11, 12, 13, 14, 15, 16, 17, 18, 19, 20] rfl rfl (by decide) (by decide) hk1 hFc hP1 hD1
        generalize H1 = H at hP hS ⊢
        refine g5_rs [(a_k, (oc5 a_h a_j a_pt k_ln k_se k_lh k_br k_we k_me k_ce k_wy k_ho k_ov)), (a_h, (oc1 e_wa e_le e_st e_fo e_lc a_l a_g a_b a_s a_p a_w e_gb a_bb)), (a_g, (oc6 6 5 a_gn e_g)), (a_gn, (arI G 30 f_g)), (a_b, (oc6 5 24 a_bn e_b)), (a_bn, (arI G 120 f_b)), (a_p, (oc6 8 5 a_pn e_p)), (a_pn, (arI G 40 f_p)), (a_bb, (arJ G 24 f_bb)), (a_j, (oc2 a_as a_sk)), (a_as, (arI G 8 k_as)), (a_sk, (arJ G 50 k_sk)), (a_l, (arW G 6 f_l)), (a_lo, (oc3 e_cl a_hd a_sr a_cd)), (a_sr, (arI G n_sr f_sr)), (a_cd, (arI G n_cd f_cd)), (a_hd, (arI G n_hd f_hd)), (a_pt, (arI G 200 k_pt)), (a_th, (oc7 a_h a_k a_ba a_ad e_fu a_cn a_nx a_hp a_hl a_lv)), (a_ba, (arJ G 24 k_ba)), (a_ad, (arI G 1536 k_ad)), (a_s, (oc6 10 4 a_sn e_s)), (a_sn, (arI G 40 f_s))] hP hD (fun hP hD => ?_)
        refine g5_ti (v := z17) y18 ?_
        refine lv_iconst (v := 0) hx hb dX7_load_111 (by decide) ?_
        obtain ⟨hPc, hDc, hFc⟩ := g5_sub3 (wc := [(a_k, (oc5 a_h a_j a_pt k_ln k_se k_lh k_br k_we k_me k_ce k_wy k_ho k_ov)), (a_h, (oc1 e_wa e_le e_st e_fo e_lc a_l a_g a_b a_s a_p a_w e_gb a_bb)), (a_g, (oc6 6 5 a_gn e_g)), (a_gn, (arI G 30 f_g)), (a_b, (oc6 5 24 a_bn e_b)), (a_bn, (arI G 120 f_b)), (a_p, (oc6 8 5 a_pn e_p)), (a_pn, (arI G 40 f_p)), (a_bb, (arJ G 24 f_bb)), (a_j, (oc2 a_as a_sk)), (a_as, (arI G 8 k_as)), (a_sk, (arJ G 50 k_sk)), (a_l, (arW G 6 f_l)), (a_lo, (oc3 e_cl a_hd a_sr a_cd)), (a_sr, (arI G n_sr f_sr)), (a_cd, (arI G n_cd f_cd)), (a_hd, (arI G n_hd f_hd)), (a_pt, (arI G 200 k_pt))]) hP hD hS hA [0, 1, 2, 3, 4, 5, 6, 7, 8, 9, 10, 11, 12, 13, 14, 15, 16, 17] (by decide) rfl
        refine va_callv (va_runV (As := [.int z11, .int z14, .int z17, .int 0]) (rest := []) ⟨hx, hb, hml, hown, hts⟩ (k_runL l G a_k a_h a_g a_gn a_b a_bn a_p a_pn a_bb a_j a_as a_sk a_l a_lo a_sr a_cd a_hd a_pt a_s a_w H.size e_le e_st e_fo e_lc e_g e_b e_p e_cl k_ln k_se k_lh k_br k_we k_me k_ce k_wy k_ho k_ov z11 z14 z17 0 e_wa e_gb f_g f_b f_p f_bb k_as k_sk f_l f_sr f_cd f_hd k_pt n_sr n_cd n_hd h_e_g h_e_b h_e_p h_e_cl i_3 (e_gk) (e_pk) (e_gi) (e_f) (e_a) (e_hn) (e_hs) (e_hk) (e_c)) (cwV 4 hts gV_X7_76 rfl rfl rfl hv_X5_run ⟨Nat.le_of_ble_eq_true rfl, Nat.le_of_ble_eq_true rfl⟩) (g5_preV hPc hK hDc hN hT hS hFc (ci := 5) (q0 := 0) rfl rfl) rfl rfl hl.1 rfl (lv_room (Nat.le_of_ble_eq_true rfl)) dX7_load_112 ⟨Nat.le_of_ble_eq_true rfl, Nat.le_of_ble_eq_true rfl⟩) hS (fun q _ h => hFc q h) hFc (fun u t H1 locs ht hvm hw hB hz1 hk1 hS => ?_)
        obtain ⟨hP1, hD1⟩ := hB
        rw [ht] at hP1
        obtain ⟨z22, z23, z24, z25, z26, z27, z28, z29, z30, z31, z32, z33, z34, i_19, i_20, i_21, rfl⟩ := hw
        have i_19 : 0 ≤ z22.toInt ∧ z22.toInt ≤ 200 := i_19
        have i_20 : 0 ≤ z31.toInt ∧ z31.toInt ≤ 1 := i_20
        have i_21 : ∀ j : Nat, (j : Int) < z22.toInt → 0 ≤ (z32 j).toInt ∧ (z32 j).toInt ≤ 1535 := i_21
        obtain ⟨hP, hD⟩ := va_join (wr := [(a_th, (oc7 a_h a_k a_ba a_ad e_fu a_cn a_nx a_hp a_hl a_lv)), (a_ba, (arJ G 24 k_ba)), (a_ad, (arI G 1536 k_ad)), (a_s, (oc6 10 4 a_sn e_s)), (a_sn, (arI G 40 f_s))]) hP hD [0, 1, 2, 3, 4, 5, 6, 7, 8, 9, 10, 11, 12, 13, 14, 15, 16, 17] [18, 19, 20, 21, 22] rfl rfl (by decide) (by decide) hk1 hFc hP1 hD1
        generalize H1 = H at hP hS ⊢
        refine g5_rs [(a_th, (oc7 a_h a_k a_ba a_ad e_fu a_cn a_nx a_hp a_hl a_lv)), (a_ba, (arJ G 24 k_ba)), (a_ad, (arI G 1536 k_ad)), (a_s, (oc6 10 4 a_sn e_s)), (a_sn, (arI G 40 f_s)), (a_k, (oc5 a_h a_j a_pt z22 z23 z24 z25 z26 z27 z28 z29 z30 z31)), (a_h, (oc1 e_wa e_le e_st e_fo e_lc a_l a_g a_b a_s a_p a_w e_gb a_bb)), (a_g, (oc6 6 5 a_gn e_g)), (a_gn, (arI G 30 f_g)), (a_b, (oc6 5 24 a_bn e_b)), (a_bn, (arI G 120 f_b)), (a_p, (oc6 8 5 a_pn e_p)), (a_pn, (arI G 40 f_p)), (a_bb, (arJ G 24 f_bb)), (a_j, (oc2 a_as a_sk)), (a_as, (arI G 8 z33)), (a_sk, (arJ G 50 z34)), (a_l, (arW G 6 f_l)), (a_lo, (oc3 e_cl a_hd a_sr a_cd)), (a_sr, (arI G n_sr f_sr)), (a_cd, (arI G n_cd f_cd)), (a_hd, (arI G n_hd f_hd)), (a_pt, (arI G 200 z32))] hP hD (fun hP hD => ?_)
        refine lv_aload_n hx hb dX7_load_115 rfl (lv_at hl 2 rfl) ?_
        refine lv_iload hx hb dX7_load_116 (lv_at hl 1 rfl) ?_
        refine lv_iconst (v := 3) hx hb dX7_load_118 (by decide) ?_
        obtain ⟨hPc, hDc, hFc⟩ := g5_sub3 (wc := [(a_s, (oc6 10 4 a_sn e_s)), (a_sn, (arI G 40 f_s))]) hP hD hS hA [3, 4] (by decide) rfl
        refine va_calli (va_runV (As := [.int k_i, .int 3]) (rest := []) ⟨hx, hb, hml, hown, hts⟩ (t_get_S l G a_s a_sn H.size e_s k_i 3 f_s h_e_s) (cwV 2 hts gV_X7_72 rfl rfl rfl hv_X6_get ⟨Nat.le_of_ble_eq_true rfl, Nat.le_of_ble_eq_true rfl⟩) (g5_preV hPc hK hDc hN hT hS hFc (ci := 6) (q0 := 0) rfl rfl) rfl rfl hl.1 rfl (lv_room (Nat.le_of_ble_eq_true rfl)) dX7_load_119 ⟨Nat.le_of_ble_eq_true rfl, Nat.le_of_ble_eq_true rfl⟩) hS (fun q _ h => hFc q h) hFc (fun r u t H1 locs ht hvm hw hB hz1 hk1 hS => ?_)
        obtain ⟨hP1, hD1⟩ := hB
        rw [ht] at hP1
        obtain ⟨z36, i_35, y37, rfl⟩ := hw
        have i_35 : z36 = tget f_s e_s.toInt 4 k_i.toInt (3 : Int32).toInt := i_35
        obtain ⟨hP, hD⟩ := va_join (wr := [(a_th, (oc7 a_h a_k a_ba a_ad e_fu a_cn a_nx a_hp a_hl a_lv)), (a_ba, (arJ G 24 k_ba)), (a_ad, (arI G 1536 k_ad)), (a_k, (oc5 a_h a_j a_pt z22 z23 z24 z25 z26 z27 z28 z29 z30 z31)), (a_h, (oc1 e_wa e_le e_st e_fo e_lc a_l a_g a_b a_s a_p a_w e_gb a_bb)), (a_g, (oc6 6 5 a_gn e_g)), (a_gn, (arI G 30 f_g)), (a_b, (oc6 5 24 a_bn e_b)), (a_bn, (arI G 120 f_b)), (a_p, (oc6 8 5 a_pn e_p)), (a_pn, (arI G 40 f_p)), (a_bb, (arJ G 24 f_bb)), (a_j, (oc2 a_as a_sk)), (a_as, (arI G 8 z33)), (a_sk, (arJ G 50 z34)), (a_l, (arW G 6 f_l)), (a_lo, (oc3 e_cl a_hd a_sr a_cd)), (a_sr, (arI G n_sr f_sr)), (a_cd, (arI G n_cd f_cd)), (a_hd, (arI G n_hd f_hd)), (a_pt, (arI G 200 z32))]) hP hD [3, 4] [0, 1, 2, 5, 6, 7, 8, 9, 10, 11, 12, 13, 14, 15, 16, 17, 18, 19, 20, 21, 22] rfl rfl (by decide) (by decide) hk1 hFc hP1 hD1
        generalize H1 = H at hP hS ⊢
        refine g5_rs [(a_th, (oc7 a_h a_k a_ba a_ad e_fu a_cn a_nx a_hp a_hl a_lv)), (a_ba, (arJ G 24 k_ba)), (a_ad, (arI G 1536 k_ad)), (a_k, (oc5 a_h a_j a_pt z22 z23 z24 z25 z26 z27 z28 z29 z30 z31)), (a_h, (oc1 e_wa e_le e_st e_fo e_lc a_l a_g a_b a_s a_p a_w e_gb a_bb)), (a_g, (oc6 6 5 a_gn e_g)), (a_gn, (arI G 30 f_g)), (a_b, (oc6 5 24 a_bn e_b)), (a_bn, (arI G 120 f_b)), (a_p, (oc6 8 5 a_pn e_p)), (a_pn, (arI G 40 f_p)), (a_bb, (arJ G 24 f_bb)), (a_j, (oc2 a_as a_sk)), (a_as, (arI G 8 z33)), (a_sk, (arJ G 50 z34)), (a_l, (arW G 6 f_l)), (a_lo, (oc3 e_cl a_hd a_sr a_cd)), (a_sr, (arI G n_sr f_sr)), (a_cd, (arI G n_cd f_cd)), (a_hd, (arI G n_hd f_hd)), (a_pt, (arI G 200 z32)), (a_s, (oc6 10 4 a_sn e_s)), (a_sn, (arI G 40 f_s))] hP hD (fun hP hD => ?_)
        refine g5_ti (v := z36) y37 ?_
        refine lv_iconst (v := 1) hx hb dX7_load_122 (by decide) ?_
        refine lv_icmp_ne (tgt := 138) hx hb dX7_load_123 (by decide) (fun c_38 => ?_) (fun c_38 => ?_)
        ·
          have n_38 : gNe (z36.toInt) (1) := by have z := g5_ne (a := z36.toInt) (b := 1) (by rfl) (by decide) c_38; unfold gNe; omega
          refine lv_aload_n hx hb dX7_load_138 rfl (lv_at hl 3 rfl) ?_
          obtain ⟨hPc, hDc, hFc⟩ := g5_sub3 (wc := [(a_th, (oc7 a_h a_k a_ba a_ad e_fu a_cn a_nx a_hp a_hl a_lv)), (a_k, (oc5 a_h a_j a_pt z22 z23 z24 z25 z26 z27 z28 z29 z30 z31)), (a_pt, (arI G 200 z32)), (a_ba, (arJ G 24 k_ba))]) hP hD hS hA [0, 3, 20, 1] (by decide) rfl
          refine va_callv (va_runV (As := []) (rest := []) ⟨hx, hb, hml, hown, hts⟩ (th_bar l G a_th a_k a_pt a_ba a_h a_ad a_cn a_nx a_hp a_hl a_lv a_j H.size e_fu z22 z23 z24 z25 z26 z27 z28 z29 z30 z31 z32 k_ba i_19 i_20 (i_21)) (cwV 0 hts gV_X7_86 rfl rfl rfl hv_X7_barPoints ⟨Nat.le_of_ble_eq_true rfl, Nat.le_of_ble_eq_true rfl⟩) (g5_preV hPc hK hDc hN hT hS hFc (ci := 7) (q0 := 0) rfl rfl) rfl rfl hl.1 rfl (lv_room (Nat.le_of_ble_eq_true rfl)) dX7_load_139 ⟨Nat.le_of_ble_eq_true rfl, Nat.le_of_ble_eq_true rfl⟩) hS (fun q _ h => hFc q h) hFc (fun u t H1 locs ht hvm hw hB hz1 hk1 hS => ?_)
          obtain ⟨hP1, hD1⟩ := hB
          rw [ht] at hP1
          obtain ⟨z39, rfl⟩ := hw
          obtain ⟨hP, hD⟩ := va_join (wr := [(a_ad, (arI G 1536 k_ad)), (a_h, (oc1 e_wa e_le e_st e_fo e_lc a_l a_g a_b a_s a_p a_w e_gb a_bb)), (a_g, (oc6 6 5 a_gn e_g)), (a_gn, (arI G 30 f_g)), (a_b, (oc6 5 24 a_bn e_b)), (a_bn, (arI G 120 f_b)), (a_p, (oc6 8 5 a_pn e_p)), (a_pn, (arI G 40 f_p)), (a_bb, (arJ G 24 f_bb)), (a_j, (oc2 a_as a_sk)), (a_as, (arI G 8 z33)), (a_sk, (arJ G 50 z34)), (a_l, (arW G 6 f_l)), (a_lo, (oc3 e_cl a_hd a_sr a_cd)), (a_sr, (arI G n_sr f_sr)), (a_cd, (arI G n_cd f_cd)), (a_hd, (arI G n_hd f_hd)), (a_s, (oc6 10 4 a_sn e_s)), (a_sn, (arI G 40 f_s))]) hP hD [0, 3, 20, 1] [2, 4, 5, 6, 7, 8, 9, 10, 11, 12, 13, 14, 15, 16, 17, 18, 19, 21, 22] rfl rfl (by decide) (by decide) hk1 hFc hP1 hD1
          generalize H1 = H at hP hS ⊢
          refine g5_rs [(a_ad, (arI G 1536 k_ad)), (a_h, (oc1 e_wa e_le e_st e_fo e_lc a_l a_g a_b a_s a_p a_w e_gb a_bb)), (a_g, (oc6 6 5 a_gn e_g)), (a_gn, (arI G 30 f_g)), (a_b, (oc6 5 24 a_bn e_b)), (a_bn, (arI G 120 f_b)), (a_p, (oc6 8 5 a_pn e_p)), (a_pn, (arI G 40 f_p)), (a_bb, (arJ G 24 f_bb)), (a_j, (oc2 a_as a_sk)), (a_as, (arI G 8 z33)), (a_sk, (arJ G 50 z34)), (a_l, (arW G 6 f_l)), (a_lo, (oc3 e_cl a_hd a_sr a_cd)), (a_sr, (arI G n_sr f_sr)), (a_cd, (arI G n_cd f_cd)), (a_hd, (arI G n_hd f_hd)), (a_s, (oc6 10 4 a_sn e_s)), (a_sn, (arI G 40 f_s)), (a_th, (oc7 a_h a_k a_ba a_ad e_fu a_cn a_nx a_hp a_hl a_lv)), (a_k, (oc5 a_h a_j a_pt z22 z23 z24 z25 z26 z27 z28 z29 z30 z31)), (a_pt, (arI G 200 z32)), (a_ba, (arJ G 24 z39))] hP hD (fun hP hD => ?_)
          refine lv_iinc (v := (k_i + 1)) (lv' := [(4, .int (k_i + 1)), (2, .int k_b), (3, .ref a_s), (0, .ref a_th), (1, .int p_s)]) hx hb dX7_load_142 hl (k := 1) rfl rfl (by decide) rfl (fun ls hl => ?_)
          have t_40 : (k_i + 1).toInt = k_i.toInt + 1 := g5_iadd (a := k_i.toInt) (b := 1) rfl (by decide) (by omega) (by omega)
          refine lv_goto (tgt := 68) hx hb dX7_load_145 (by decide) ?_
          exact ih_68_6 (k_b, (k_i + 1), z23, z24, z25, z26, z27, z28, z29, z30, z31, z32, z33, z34, z22, z39, k_ad) ls H locs (show Int.toNat (10 - (k_i + 1).toInt) < Int.toNat (10 - k_i.toInt) from g_up (show k_i.toInt < (k_i + 1).toInt by omega) (show k_i.toInt < 10 by omega)) ⟨lv_sub hl [1, 0, 2, 3, 4] rfl, hP.sub [20, 1, 2, 3, 4, 5, 6, 7, 17, 18, 8, 9, 10, 11, 12, 13, 14, 15, 16, 21, 19, 22, 0] rfl, hD.sub [20, 1, 2, 3, 4, 5, 6, 7, 17, 18, 8, 9, 10, 11, 12, 13, 14, 15, 16, 21, 19, 22, 0] (by decide) rfl, hS, ⟨by omega, by omega⟩, i_20, by omega, ld_stay i_5 e_sh (by omega) (by omega) (by omega)⟩
        ·
          have i_38 : z36.toInt = 1 := by have z := g5_neN (a := z36.toInt) (b := 1) (by rfl) (by decide) c_38; omega
          obtain ⟨gs_41, hg1_41, hg2_41, hg3_41⟩ := id i_5
          have hg4_41 : gs_41 < 5 := ld_lt hg1_41 e_sh e_s5 i_35 (by omega) (by omega) (by omega)
          have hg5_41 : mOK k_ad (gs_41 + 1) := mOK_up hg3_41
          refine lv_aload_n hx hb dX7_load_126 rfl (lv_at hl 3 rfl) ?_
          refine lv_iload_n hx hb dX7_load_127 rfl (lv_at hl 0 rfl) ?_
          obtain ⟨hPc, hDc, hFc⟩ := g5_sub3 (wc := [(a_th, (oc7 a_h a_k a_ba a_ad e_fu a_cn a_nx a_hp a_hl a_lv)), (a_k, (oc5 a_h a_j a_pt z22 z23 z24 z25 z26 z27 z28 z29 z30 z31)), (a_pt, (arI G 200 z32)), (a_ad, (arI G 1536 k_ad))]) hP hD hS hA [0, 3, 20, 2] (by decide) rfl
          refine va_callv (va_runV (As := [.int k_b]) (rest := []) ⟨hx, hb, hml, hown, hts⟩ (th_add l G a_th a_k a_pt a_ad a_h a_ba a_cn a_nx a_hp a_hl a_lv a_j H.size e_fu z22 z23 z24 z25 z26 z27 z28 z29 z30 z31 k_b z32 k_ad gs_41 i_19 i_20 (i_21) (hg4_41) (hg2_41) (hg5_41)) (cwV 1 hts gV_X7_82 rfl rfl rfl hv_X7_addPoints ⟨Nat.le_of_ble_eq_true rfl, Nat.le_of_ble_eq_true rfl⟩) (g5_preV hPc hK hDc hN hT hS hFc (ci := 7) (q0 := 0) rfl rfl) rfl rfl hl.1 rfl (lv_room (Nat.le_of_ble_eq_true rfl)) dX7_load_128 ⟨Nat.le_of_ble_eq_true rfl, Nat.le_of_ble_eq_true rfl⟩) hS (fun q _ h => hFc q h) hFc (fun u t H1 locs ht hvm hw hB hz1 hk1 hS => ?_)
          obtain ⟨hP1, hD1⟩ := hB
          rw [ht] at hP1
          obtain ⟨z43, i_42, rfl⟩ := hw
          have i_42 : mOK z43 (gs_41 + 1) := i_42
          obtain ⟨hP, hD⟩ := va_join (wr := [(a_ba, (arJ G 24 k_ba)), (a_h, (oc1 e_wa e_le e_st e_fo e_lc a_l a_g a_b a_s a_p a_w e_gb a_bb)), (a_g, (oc6 6 5 a_gn e_g)), (a_gn, (arI G 30 f_g)), (a_b, (oc6 5 24 a_bn e_b)), (a_bn, (arI G 120 f_b)), (a_p, (oc6 8 5 a_pn e_p)), (a_pn, (arI G 40 f_p)), (a_bb, (arJ G 24 f_bb)), (a_j, (oc2 a_as a_sk)), (a_as, (arI G 8 z33)), (a_sk, (arJ G 50 z34)), (a_l, (arW G 6 f_l)), (a_lo, (oc3 e_cl a_hd a_sr a_cd)), (a_sr, (arI G n_sr f_sr)), (a_cd, (arI G n_cd f_cd)), (a_hd, (arI G n_hd f_hd)), (a_s, (oc6 10 4 a_sn e_s)), (a_sn, (arI G 40 f_s))]) hP hD [0, 3, 20, 2] [1, 4, 5, 6, 7, 8, 9, 10, 11, 12, 13, 14, 15, 16, 17, 18, 19, 21, 22] rfl rfl (by decide) (by decide) hk1 hFc hP1 hD1
          generalize H1 = H at hP hS ⊢
          refine g5_rs [(a_ba, (arJ G 24 k_ba)), (a_h, (oc1 e_wa e_le e_st e_fo e_lc a_l a_g a_b a_s a_p a_w e_gb a_bb)), (a_g, (oc6 6 5 a_gn e_g)), (a_gn, (arI G 30 f_g)), (a_b, (oc6 5 24 a_bn e_b)), (a_bn, (arI G 120 f_b)), (a_p, (oc6 8 5 a_pn e_p)), (a_pn, (arI G 40 f_p)), (a_bb, (arJ G 24 f_bb)), (a_j, (oc2 a_as a_sk)), (a_as, (arI G 8 z33)), (a_sk, (arJ G 50 z34)), (a_l, (arW G 6 f_l)), (a_lo, (oc3 e_cl a_hd a_sr a_cd)), (a_sr, (arI G n_sr f_sr)), (a_cd, (arI G n_cd f_cd)), (a_hd, (arI G n_hd f_hd)), (a_s, (oc6 10 4 a_sn e_s)), (a_sn, (arI G 40 f_s)), (a_th, (oc7 a_h a_k a_ba a_ad e_fu a_cn a_nx a_hp a_hl a_lv)), (a_k, (oc5 a_h a_j a_pt z22 z23 z24 z25 z26 z27 z28 z29 z30 z31)), (a_pt, (arI G 200 z32)), (a_ad, (arI G 1536 z43))] hP hD (fun hP hD => ?_)
          refine lv_iload_n hx hb dX7_load_131 rfl (lv_at hl 0 rfl) ?_
          refine lv_iconst (v := 1) hx hb dX7_load_132 (by decide) ?_
          refine lv_ishl hx hb dX7_load_133 ?_
          refine lv_istore_n (lv' := [(2, .int (k_b <<< (1 &&& 31))), (4, .int k_i), (3, .ref a_s), (0, .ref a_th), (1, .int p_s)]) hx hb dX7_load_134 rfl hl (by decide) rfl (fun ls hl => ?_)
          refine lv_goto (tgt := 142) hx hb dX7_load_135 (by decide) ?_
          refine lv_iinc (v := (k_i + 1)) (lv' := [(4, .int (k_i + 1)), (2, .int (k_b <<< (1 &&& 31))), (3, .ref a_s), (0, .ref a_th), (1, .int p_s)]) hx hb dX7_load_142 hl (k := 1) rfl rfl (by decide) rfl (fun ls hl => ?_)
          have t_44 : (k_i + 1).toInt = k_i.toInt + 1 := g5_iadd (a := k_i.toInt) (b := 1) rfl (by decide) (by omega) (by omega)
          refine lv_goto (tgt := 68) hx hb dX7_load_145 (by decide) ?_
          exact ih_68_6 ((k_b <<< (1 &&& 31)), (k_i + 1), z23, z24, z25, z26, z27, z28, z29, z30, z31, z32, z33, z34, z22, k_ba, z43) ls H locs (show Int.toNat (10 - (k_i + 1).toInt) < Int.toNat (10 - k_i.toInt) from g_up (show k_i.toInt < (k_i + 1).toInt by omega) (show k_i.toInt < 10 by omega)) ⟨lv_sub hl [1, 0, 2, 3, 4] rfl, hP.sub [20, 1, 2, 3, 4, 5, 6, 7, 17, 18, 8, 9, 10, 11, 12, 13, 14, 15, 16, 21, 19, 0, 22] rfl, hD.sub [20, 1, 2, 3, 4, 5, 6, 7, 17, 18, 8, 9, 10, 11, 12, 13, 14, 15, 16, 21, 19, 0, 22] (by decide) rfl, hS, ⟨by omega, by omega⟩, i_20, by omega, ld_go hg1_41 hg2_41 hg4_41 i_42 i_35 (by omega) (by omega) (by omega)⟩
  ·
    have n_1 : gNe (e_st.toInt) ((-1)) := by have z := g5_eqN (a := e_st.toInt) (b := (-1)) (by rfl) (by decide) c_1; unfold gNe; omega
    refine lv_aload_n hx hb dX7_load_33 rfl (lv_at hl 0 rfl) ?_
    refine va_get (D := G.1) (ci := 7) (v := .ref a_ba) (C := RX7) (T := TX7) (N := 10) hx hb hts inG_X7 hown hK hP 20 rfl rfl 2 (by decide) (hts _ fl_X7_9) (fun _ h9 => h9) rfl dX7_load_34 ?_
    refine lv_iconst (v := 0) hx hb dX7_load_37 (by decide) ?_
    refine lv_dup2_11 hx hb dX7_load_38 rfl rfl ?_
    refine va_lald hx hb hK hP 21 1 rfl rfl (i := 0) (by unfold vp_in; decide) dX7_load_39 ?_
    refine g5_tl (v := ((fun _ => e_wa) 0)) rfl ?_
    refine lv_lconst (v := 1) hx hb dX7_load_40 (by decide) ?_
    refine lv_aload_n hx hb dX7_load_41 rfl (lv_at hl 0 rfl) ?_
    refine va_get (D := G.1) (ci := 7) (v := .ref a_h) (C := RX7) (T := TX7) (N := 10) hx hb hts inG_X7 hown hK hP 20 rfl rfl 0 (by decide) (hts _ fl_X7_34) (fun _ h9 => h9) rfl dX7_load_42 ?_
    refine va_get (D := G.1) (ci := 1) (v := .int e_st) (C := RX1) (T := TX1) (N := 13) hx hb hts inG_X1 hown hK hP 1 rfl rfl 2 (by decide) (hts _ fl_X7_67) (fun _ h9 => h9) rfl dX7_load_45 ?_
    refine lv_lshl (v := ((1 : Int64) <<< (e_st.toInt64 &&& 63))) hx hb dX7_load_48 rfl ?_
    refine lv_ldc2 (v := (-1)) hx hb hown (hts _ kl_X7_70) dX7_load_49 ?_
    refine lv_lxor hx hb dX7_load_52 ?_
    refine lv_lor hx hb dX7_load_53 ?_
    refine va_last hx hb hK hP hD hS 21 1 rfl rfl (i := 0) (x := (((fun _ => e_wa) 0) ||| (((1 : Int64) <<< (e_st.toInt64 &&& 63)) ^^^ (-1)))) (by unfold vp_in; decide) dX7_load_54 (fun H locs hP hD hS => ?_)
    refine g5_rs [(a_k, (oc5 a_h a_j a_pt e_ln e_se e_lh e_br e_we e_me e_ce e_wy e_ho e_ov)), (a_h, (oc1 e_wa e_le e_st e_fo e_lc a_l a_g a_b a_s a_p a_w e_gb a_bb)), (a_g, (oc6 6 5 a_gn e_g)), (a_gn, (arI G 30 f_g)), (a_b, (oc6 5 24 a_bn e_b)), (a_bn, (arI G 120 f_b)), (a_p, (oc6 8 5 a_pn e_p)), (a_pn, (arI G 40 f_p)), (a_s, (oc6 10 4 a_sn e_s)), (a_sn, (arI G 40 f_s)), (a_bb, (arJ G 24 f_bb)), (a_j, (oc2 a_as a_sk)), (a_as, (arI G 8 f_as)), (a_sk, (arJ G 50 f_sk)), (a_l, (arW G 6 f_l)), (a_lo, (oc3 e_cl a_hd a_sr a_cd)), (a_sr, (arI G n_sr f_sr)), (a_cd, (arI G n_cd f_cd)), (a_hd, (arI G n_hd f_hd)), (a_pt, (arI G 200 f_pt)), (a_th, (oc7 a_h a_k a_ba a_ad e_fu a_cn a_nx a_hp a_hl a_lv)), (a_ba, (arJ G 24 (vp_updL (fun _ => e_wa) 0 (((fun _ => e_wa) 0) ||| (((1 : Int64) <<< (e_st.toInt64 &&& 63)) ^^^ (-1)))))), (a_ad, (arI G 1536 (fun _ => (0 : Int32))))] hP hD (fun hP hD => ?_)
    refine lv_iconst (v := 1) hx hb dX7_load_55 (by decide) ?_
    refine lv_istore_n (lv' := [(2, .int 1), (0, .ref a_th), (1, .int p_s)]) hx hb dX7_load_56 rfl hl (by decide) rfl (fun ls hl => ?_)
    refine lv_aload_n hx hb dX7_load_57 rfl (lv_at hl 1 rfl) ?_
    refine va_get (D := G.1) (ci := 7) (v := .ref a_h) (C := RX7) (T := TX7) (N := 10) hx hb hts inG_X7 hown hK hP 20 rfl rfl 0 (by decide) (hts _ fl_X7_34) (fun _ h9 => h9) rfl dX7_load_58 ?_
    refine va_get (D := G.1) (ci := 1) (v := .ref a_s) (C := RX1) (T := TX1) (N := 13) hx hb hts inG_X1 hown hK hP 1 rfl rfl 8 (by decide) (hts _ fl_X7_42) (fun _ h9 => h9) rfl dX7_load_61 ?_
    refine lv_astore_n (lv' := [(3, .ref a_s), (2, .int 1), (0, .ref a_th), (1, .int p_s)]) hx hb dX7_load_64 rfl hl (by decide) rfl (fun ls hl => ?_)
    refine lv_iconst (v := 0) hx hb dX7_load_65 (by decide) ?_
    refine lv_istore (lv' := [(4, .int 0), (3, .ref a_s), (2, .int 1), (0, .ref a_th), (1, .int p_s)]) hx hb dX7_load_66 hl (by decide) rfl (fun ls hl => ?_)
    refine g5_loop (α := (Int32) × (Int32) × (Int32) × (Int32) × (Int32) × (Int32) × (Int32) × (Int32) × (Int32) × (Int32) × (Int32) × (Nat → Int32) × (Nat → Int32) × (Nat → Int64) × (Int32) × (Nat → Int64) × (Nat → Int32)) (fun (q : (Int32) × (Int32) × (Int32) × (Int32) × (Int32) × (Int32) × (Int32) × (Int32) × (Int32) × (Int32) × (Int32) × (Nat → Int32) × (Nat → Int32) × (Nat → Int64) × (Int32) × (Nat → Int64) × (Nat → Int32)) (ls : Array Slot) (H : Heap) (locs : List Loc) => match q with | (k_b, k_i, k_se, k_lh, k_br, k_we, k_me, k_ce, k_wy, k_ho, k_ov, k_pt, k_as, k_sk, k_ln, k_ba, k_ad) => lv_has ls 5 [(2, .int k_b), (4, .int k_i), (3, .ref a_s), (0, .ref a_th), (1, .int p_s)] ∧ va_P G.1 vwCl [(a_k, (oc5 a_h a_j a_pt k_ln k_se k_lh k_br k_we k_me k_ce k_wy k_ho k_ov)), (a_h, (oc1 e_wa e_le e_st e_fo e_lc a_l a_g a_b a_s a_p a_w e_gb a_bb)), (a_g, (oc6 6 5 a_gn e_g)), (a_gn, (arI G 30 f_g)), (a_b, (oc6 5 24 a_bn e_b)), (a_bn, (arI G 120 f_b)), (a_p, (oc6 8 5 a_pn e_p)), (a_pn, (arI G 40 f_p)), (a_s, (oc6 10 4 a_sn e_s)), (a_sn, (arI G 40 f_s)), (a_bb, (arJ G 24 f_bb)), (a_j, (oc2 a_as a_sk)), (a_as, (arI G 8 k_as)), (a_sk, (arJ G 50 k_sk)), (a_l, (arW G 6 f_l)), (a_lo, (oc3 e_cl a_hd a_sr a_cd)), (a_sr, (arI G n_sr f_sr)), (a_cd, (arI G n_cd f_cd)), (a_hd, (arI G n_hd f_hd)), (a_pt, (arI G 200 k_pt)), (a_th, (oc7 a_h a_k a_ba a_ad e_fu a_cn a_nx a_hp a_hl a_lv)), (a_ba, (arJ G 24 k_ba)), (a_ad, (arI G 1536 k_ad))] H ∧ va_D A [(a_k, (oc5 a_h a_j a_pt k_ln k_se k_lh k_br k_we k_me k_ce k_wy k_ho k_ov)), (a_h, (oc1 e_wa e_le e_st e_fo e_lc a_l a_g a_b a_s a_p a_w e_gb a_bb)), (a_g, (oc6 6 5 a_gn e_g)), (a_gn, (arI G 30 f_g)), (a_b, (oc6 5 24 a_bn e_b)), (a_bn, (arI G 120 f_b)), (a_p, (oc6 8 5 a_pn e_p)), (a_pn, (arI G 40 f_p)), (a_s, (oc6 10 4 a_sn e_s)), (a_sn, (arI G 40 f_s)), (a_bb, (arJ G 24 f_bb)), (a_j, (oc2 a_as a_sk)), (a_as, (arI G 8 k_as)), (a_sk, (arJ G 50 k_sk)), (a_l, (arW G 6 f_l)), (a_lo, (oc3 e_cl a_hd a_sr a_cd)), (a_sr, (arI G n_sr f_sr)), (a_cd, (arI G n_cd f_cd)), (a_hd, (arI G n_hd f_hd)), (a_pt, (arI G 200 k_pt)), (a_th, (oc7 a_h a_k a_ba a_ad e_fu a_cn a_nx a_hp a_hl a_lv)), (a_ba, (arJ G 24 k_ba)), (a_ad, (arI G 1536 k_ad))] ∧ va_S A s.heap H locs ∧ (0 ≤ k_i.toInt ∧ k_i.toInt ≤ 10) ∧ (0 ≤ k_ov.toInt ∧ k_ov.toInt ≤ 1) ∧ (k_i.toInt ≤ e_s.toInt) ∧ (LDI f_s e_s.toInt k_i.toInt k_b k_ad)) (fun (q : (Int32) × (Int32) × (Int32) × (Int32) × (Int32) × (Int32) × (Int32) × (Int32) × (Int32) × (Int32) × (Int32) × (Nat → Int32) × (Nat → Int32) × (Nat → Int64) × (Int32) × (Nat → Int64) × (Nat → Int32)) => match q with | (k_b, k_i, k_se, k_lh, k_br, k_we, k_me, k_ce, k_wy, k_ho, k_ov, k_pt, k_as, k_sk, k_ln, k_ba, k_ad) => Int.toNat (10 - k_i.toInt)) (1, 0, e_se, e_lh, e_br, e_we, e_me, e_ce, e_wy, e_ho, e_ov, f_pt, f_as, f_sk, e_ln, (vp_updL (fun _ => e_wa) 0 (((fun _ => e_wa) 0) ||| (((1 : Int64) <<< (e_st.toInt64 &&& 63)) ^^^ (-1)))), (fun _ => (0 : Int32))) ⟨lv_sub hl [2, 0, 1, 3, 4] rfl, hP, hD, hS, ⟨by decide, by decide⟩, h_e_ov, by have z0 : (0 : Int32).toInt = 0 := (by decide); omega, ld_0⟩ ?_
    rintro ⟨k_b, k_i, k_se, k_lh, k_br, k_we, k_me, k_ce, k_wy, k_ho, k_ov, k_pt, k_as, k_sk, k_ln, k_ba, k_ad⟩ ls H locs ⟨hl, hP, hD, hS, i_45, i_46, i_47, i_48⟩ ih_68_49
    have hl : lv_has ls 5 [(2, .int k_b), (4, .int k_i), (3, .ref a_s), (0, .ref a_th), (1, .int p_s)] := hl
    have i_45 : 0 ≤ k_i.toInt ∧ k_i.toInt ≤ 10 := i_45
    have i_46 : 0 ≤ k_ov.toInt ∧ k_ov.toInt ≤ 1 := i_46
    have i_47 : k_i.toInt ≤ e_s.toInt := i_47
    have i_48 : LDI f_s e_s.toInt k_i.toInt k_b k_ad := i_48
    refine g5_rs [(a_k, (oc5 a_h a_j a_pt k_ln k_se k_lh k_br k_we k_me k_ce k_wy k_ho k_ov)), (a_h, (oc1 e_wa e_le e_st e_fo e_lc a_l a_g a_b a_s a_p a_w e_gb a_bb)), (a_g, (oc6 6 5 a_gn e_g)), (a_gn, (arI G 30 f_g)), (a_b, (oc6 5 24 a_bn e_b)), (a_bn, (arI G 120 f_b)), (a_p, (oc6 8 5 a_pn e_p)), (a_pn, (arI G 40 f_p)), (a_s, (oc6 10 4 a_sn e_s)), (a_sn, (arI G 40 f_s)), (a_bb, (arJ G 24 f_bb)), (a_j, (oc2 a_as a_sk)), (a_as, (arI G 8 k_as)), (a_sk, (arJ G 50 k_sk)), (a_l, (arW G 6 f_l)), (a_lo, (oc3 e_cl a_hd a_sr a_cd)), (a_sr, (arI G n_sr f_sr)), (a_cd, (arI G n_cd f_cd)), (a_hd, (arI G n_hd f_hd)), (a_pt, (arI G 200 k_pt)), (a_th, (oc7 a_h a_k a_ba a_ad e_fu a_cn a_nx a_hp a_hl a_lv)), (a_ba, (arJ G 24 k_ba)), (a_ad, (arI G 1536 k_ad))] hP hD (fun hP hD => ?_)
    refine lv_iload hx hb dX7_load_68 (lv_at hl 1 rfl) ?_
    refine lv_aload_n hx hb dX7_load_70 rfl (lv_at hl 2 rfl) ?_
    refine va_get (D := G.1) (ci := 6) (v := .int e_s) (C := RX6) (T := TX6) (N := 4) hx hb hts inG_X6 hown hK hP 8 rfl rfl 3 (by decide) (hts _ fl_X7_48) (fun _ h9 => h9) rfl dX7_load_71 ?_
    refine lv_icmp_ge (tgt := 148) hx hb dX7_load_74 (by decide) (fun c_50 => ?_) (fun c_50 => ?_)
    ·
      have i_50 : k_i.toInt ≥ e_s.toInt := by have z := g5_ge (a := k_i.toInt) (b := e_s.toInt) (by rfl) (by rfl) c_50; omega
      refine lv_aload_n hx hb dX7_load_148 rfl (lv_at hl 3 rfl) ?_
      refine lv_iload_n hx hb dX7_load_149 rfl (lv_at hl 0 rfl) ?_
      refine lv_iconst (v := 1) hx hb dX7_load_150 (by decide) ?_
      refine lv_isub hx hb dX7_load_151 ?_
      refine va_put (D := G.1) (ci := 7) (v := .int (k_b - 1)) (ty := .int) (C := RX7) (T := TX7) (N := 10) hx hb hts inG_X7 tyX7 tyX7_ok nmX7 hown hK hP hD hS 20 rfl rfl 4 (by decide) (hts _ fl_X7_89) (fun _ h9 => h9) rfl (by decide +kernel) rfl rfl (Nat.le_of_ble_eq_true rfl) dX7_load_152 (fun H locs hP hD hS => ?_)
      refine g5_rs [(a_k, (oc5 a_h a_j a_pt k_ln k_se k_lh k_br k_we k_me k_ce k_wy k_ho k_ov)), (a_h, (oc1 e_wa e_le e_st e_fo e_lc a_l a_g a_b a_s a_p a_w e_gb a_bb)), (a_g, (oc6 6 5 a_gn e_g)), (a_gn, (arI G 30 f_g)), (a_b, (oc6 5 24 a_bn e_b)), (a_bn, (arI G 120 f_b)), (a_p, (oc6 8 5 a_pn e_p)), (a_pn, (arI G 40 f_p)), (a_s, (oc6 10 4 a_sn e_s)), (a_sn, (arI G 40 f_s)), (a_bb, (arJ G 24 f_bb)), (a_j, (oc2 a_as a_sk)), (a_as, (arI G 8 k_as)), (a_sk, (arJ G 50 k_sk)), (a_l, (arW G 6 f_l)), (a_lo, (oc3 e_cl a_hd a_sr a_cd)), (a_sr, (arI G n_sr f_sr)), (a_cd, (arI G n_cd f_cd)), (a_hd, (arI G n_hd f_hd)), (a_pt, (arI G 200 k_pt)), (a_th, (oc7 a_h a_k a_ba a_ad (k_b - 1) a_cn a_nx a_hp a_hl a_lv)), (a_ba, (arJ G 24 k_ba)), (a_ad, (arI G 1536 k_ad))] hP hD (fun hP hD => ?_)
      exact W.vret hx hb hr (fun t ht hW => ⟨⟨[(a_k, (oc5 a_h a_j a_pt k_ln k_se k_lh k_br k_we k_me k_ce k_wy k_ho k_ov)), (a_h, (oc1 e_wa e_le e_st e_fo e_lc a_l a_g a_b a_s a_p a_w e_gb a_bb)), (a_g, (oc6 6 5 a_gn e_g)), (a_gn, (arI G 30 f_g)), (a_b, (oc6 5 24 a_bn e_b)), (a_bn, (arI G 120 f_b)), (a_p, (oc6 8 5 a_pn e_p)), (a_pn, (arI G 40 f_p)), (a_s, (oc6 10 4 a_sn e_s)), (a_sn, (arI G 40 f_s)), (a_bb, (arJ G 24 f_bb)), (a_j, (oc2 a_as a_sk)), (a_as, (arI G 8 k_as)), (a_sk, (arJ G 50 k_sk)), (a_l, (arW G 6 f_l)), (a_lo, (oc3 e_cl a_hd a_sr a_cd)), (a_sr, (arI G n_sr f_sr)), (a_cd, (arI G n_cd f_cd)), (a_hd, (arI G n_hd f_hd)), (a_pt, (arI G 200 k_pt)), (a_th, (oc7 a_h a_k a_ba a_ad (k_b - 1) a_cn a_nx a_hp a_hl a_lv)), (a_ba, (arJ G 24 k_ba)), (a_ad, (arI G 1536 k_ad))], rfl, ⟨k_ln, k_se, k_lh, k_br, k_we, k_me, k_ce, k_wy, k_ho, k_ov, k_pt, k_as, k_sk, (k_b - 1), k_ba, k_ad, i_46, ld_end i_48 e_sh e_s5 (by omega) (by omega), rfl⟩, by rw [ht]; exact hP.sub [0, 1, 2, 3, 4, 5, 6, 7, 8, 9, 10, 11, 12, 13, 14, 15, 16, 17, 18, 19, 20, 21, 22] rfl, hD.sub [0, 1, 2, 3, 4, 5, 6, 7, 8, 9, 10, 11, 12, 13, 14, 15, 16, 17, 18, 19, 20, 21, 22] (by decide) rfl⟩, hS.F ht⟩) hS.2.2 dX7_load_155
    ·
      have i_50 : k_i.toInt < e_s.toInt := by have z := g5_geN (a := k_i.toInt) (b := e_s.toInt) (by rfl) (by rfl) c_50; omega
      refine lv_iload_n hx hb dX7_load_77 rfl (lv_at hl 4 rfl) ?_
      refine lv_iload hx hb dX7_load_78 (lv_at hl 1 rfl) ?_
      refine lv_ishr hx hb dX7_load_80 ?_
      refine lv_iconst (v := 1) hx hb dX7_load_81 (by decide) ?_
      refine lv_iand hx hb dX7_load_82 ?_
      refine lv_if_eq (tgt := 142) hx hb dX7_load_83 (by decide) (fun c_51 => ?_) (fun c_51 => ?_)
      ·
        have i_51 : ((p_s >>> (k_i &&& 31)) &&& 1).toInt = 0 := by have z := g5_eq (a := ((p_s >>> (k_i &&& 31)) &&& 1).toInt) (b := 0) (by rfl) (by decide) c_51; omega
        refine lv_iinc (v := (k_i + 1)) (lv' := [(4, .int (k_i + 1)), (2, .int k_b), (3, .ref a_s), (0, .ref a_th), (1, .int p_s)]) hx hb dX7_load_142 hl (k := 1) rfl rfl (by decide) rfl (fun ls hl => ?_)
        have t_52 : (k_i + 1).toInt = k_i.toInt + 1 := g5_iadd (a := k_i.toInt) (b := 1) rfl (by decide) (by omega) (by omega)
        refine lv_goto (tgt := 68) hx hb dX7_load_145 (by decide) ?_
        exact ih_68_49 (k_b, (k_i + 1), k_se, k_lh, k_br, k_we, k_me, k_ce, k_wy, k_ho, k_ov, k_pt, k_as, k_sk, k_ln, k_ba, k_ad) ls H locs (show Int.toNat (10 - (k_i + 1).toInt) < Int.toNat (10 - k_i.toInt) from g_up (show k_i.toInt < (k_i + 1).toInt by omega) (show k_i.toInt < 10 by omega)) ⟨lv_sub hl [1, 0, 2, 3, 4] rfl, hP, hD, hS, ⟨by omega, by omega⟩, i_46, by omega, ld_stay i_48 e_sh (by omega) (by omega) (by omega)⟩
      ·
        have n_51 : gNe (((p_s >>> (k_i &&& 31)) &&& 1).toInt) (0) := by have z := g5_eqN (a := ((p_s >>> (k_i &&& 31)) &&& 1).toInt) (b := 0) (by rfl) (by decide) c_51; unfold gNe; omega
        refine lv_aload_n hx hb dX7_load_86 rfl (lv_at hl 3 rfl) ?_
        refine va_get (D := G.1) (ci := 7) (v := .ref a_k) (C := RX7) (T := TX7) (N := 10) hx hb hts inG_X7 hown hK hP 20 rfl rfl 1 (by decide) (hts _ fl_X7_38) (fun _ h9 => h9) rfl dX7_load_87 ?_
        refine lv_aload_n hx hb dX7_load_90 rfl (lv_at hl 2 rfl) ?_
        refine lv_iload hx hb dX7_load_91 (lv_at hl 1 rfl) ?_
        refine lv_iconst (v := 0) hx hb dX7_load_93 (by decide) ?_
        obtain ⟨hPc, hDc, hFc⟩ := g5_sub3 (wc := [(a_s, (oc6 10 4 a_sn e_s)), (a_sn, (arI G 40 f_s))]) hP hD hS hA [8, 9] (by decide) rfl
        refine va_calli (va_runV (As := [.int k_i, .int 0]) (rest := [.ref a_k]) ⟨hx, hb, hml, hown, hts⟩ (t_get_S l G a_s a_sn H.size e_s k_i 0 f_s h_e_s) (cwV 2 hts gV_X7_72 rfl rfl rfl hv_X6_get ⟨Nat.le_of_ble_eq_true rfl, Nat.le_of_ble_eq_true rfl⟩) (g5_preV hPc hK hDc hN hT hS hFc (ci := 6) (q0 := 0) rfl rfl) rfl rfl hl.1 rfl (lv_room (Nat.le_of_ble_eq_true rfl)) dX7_load_94 ⟨Nat.le_of_ble_eq_true rfl, Nat.le_of_ble_eq_true rfl⟩) hS (fun q _ h => hFc q h) hFc (fun r u t H1 locs ht hvm hw hB hz1 hk1 hS => ?_)
        obtain ⟨hP1, hD1⟩ := hB
        rw [ht] at hP1
        obtain ⟨z54, i_53, y55, rfl⟩ := hw
        have i_53 : z54 = tget f_s e_s.toInt 4 k_i.toInt (0 : Int32).toInt := i_53
        obtain ⟨hP, hD⟩ := va_join (wr := [(a_k, (oc5 a_h a_j a_pt k_ln k_se k_lh k_br k_we k_me k_ce k_wy k_ho k_ov)), (a_h, (oc1 e_wa e_le e_st e_fo e_lc a_l a_g a_b a_s a_p a_w e_gb a_bb)), (a_g, (oc6 6 5 a_gn e_g)), (a_gn, (arI G 30 f_g)), (a_b, (oc6 5 24 a_bn e_b)), (a_bn, (arI G 120 f_b)), (a_p, (oc6 8 5 a_pn e_p)), (a_pn, (arI G 40 f_p)), (a_bb, (arJ G 24 f_bb)), (a_j, (oc2 a_as a_sk)), (a_as, (arI G 8 k_as)), (a_sk, (arJ G 50 k_sk)), (a_l, (arW G 6 f_l)), (a_lo, (oc3 e_cl a_hd a_sr a_cd)), (a_sr, (arI G n_sr f_sr)), (a_cd, (arI G n_cd f_cd)), (a_hd, (arI G n_hd f_hd)), (a_pt, (arI G 200 k_pt)), (a_th, (oc7 a_h a_k a_ba a_ad e_fu a_cn a_nx a_hp a_hl a_lv)), (a_ba, (arJ G 24 k_ba)), (a_ad, (arI G 1536 k_ad))]) hP hD [8, 9] [0, 1, 2, 3, 4, 5, 6, 7, 10, 11, 12, 13, 14, 15, 16, 17, 18, 19, 20, 21, 22] rfl rfl (by decide) (by decide) hk1 hFc hP1 hD1
        generalize H1 = H at hP hS ⊢
        refine g5_rs [(a_k, (oc5 a_h a_j a_pt k_ln k_se k_lh k_br k_we k_me k_ce k_wy k_ho k_ov)), (a_h, (oc1 e_wa e_le e_st e_fo e_lc a_l a_g a_b a_s a_p a_w e_gb a_bb)), (a_g, (oc6 6 5 a_gn e_g)), (a_gn, (arI G 30 f_g)), (a_b, (oc6 5 24 a_bn e_b)), (a_bn, (arI G 120 f_b)), (a_p, (oc6 8 5 a_pn e_p)), (a_pn, (arI G 40 f_p)), (a_bb, (arJ G 24 f_bb)), (a_j, (oc2 a_as a_sk)), (a_as, (arI G 8 k_as)), (a_sk, (arJ G 50 k_sk)), (a_l, (arW G 6 f_l)), (a_lo, (oc3 e_cl a_hd a_sr a_cd)), (a_sr, (arI G n_sr f_sr)), (a_cd, (arI G n_cd f_cd)), (a_hd, (arI G n_hd f_hd)), (a_pt, (arI G 200 k_pt)), (a_th, (oc7 a_h a_k a_ba a_ad e_fu a_cn a_nx a_hp a_hl a_lv)), (a_ba, (arJ G 24 k_ba)), (a_ad, (arI G 1536 k_ad)), (a_s, (oc6 10 4 a_sn e_s)), (a_sn, (arI G 40 f_s))] hP hD (fun hP hD => ?_)
        refine g5_ti (v := z54) y55 ?_
        refine lv_aload_n hx hb dX7_load_97 rfl (lv_at hl 2 rfl) ?_
        refine lv_iload hx hb dX7_load_98 (lv_at hl 1 rfl) ?_
        refine lv_iconst (v := 1) hx hb dX7_load_100 (by decide) ?_
        obtain ⟨hPc, hDc, hFc⟩ := g5_sub3 (wc := [(a_s, (oc6 10 4 a_sn e_s)), (a_sn, (arI G 40 f_s))]) hP hD hS hA [21, 22] (by decide) rfl
        refine va_calli (va_runV (As := [.int k_i, .int 1]) (rest := [.int z54, .ref a_k]) ⟨hx, hb, hml, hown, hts⟩ (t_get_S l G a_s a_sn H.size e_s k_i 1 f_s h_e_s) (cwV 2 hts gV_X7_72 rfl rfl rfl hv_X6_get ⟨Nat.le_of_ble_eq_true rfl, Nat.le_of_ble_eq_true rfl⟩) (g5_preV hPc hK hDc hN hT hS hFc (ci := 6) (q0 := 0) rfl rfl) rfl rfl hl.1 rfl (lv_room (Nat.le_of_ble_eq_true rfl)) dX7_load_101 ⟨Nat.le_of_ble_eq_true rfl, Nat.le_of_ble_eq_true rfl⟩) hS (fun q _ h => hFc q h) hFc (fun r u t H1 locs ht hvm hw hB hz1 hk1 hS => ?_)
        obtain ⟨hP1, hD1⟩ := hB
        rw [ht] at hP1
        obtain ⟨z57, i_56, y58, rfl⟩ := hw
        have i_56 : z57 = tget f_s e_s.toInt 4 k_i.toInt (1 : Int32).toInt := i_56
        obtain ⟨hP, hD⟩ := va_join (wr := [(a_k, (oc5 a_h a_j a_pt k_ln k_se k_lh k_br k_we k_me k_ce k_wy k_ho k_ov)), (a_h, (oc1 e_wa e_le e_st e_fo e_lc a_l a_g a_b a_s a_p a_w e_gb a_bb)), (a_g, (oc6 6 5 a_gn e_g)), (a_gn, (arI G 30 f_g)), (a_b, (oc6 5 24 a_bn e_b)), (a_bn, (arI G 120 f_b)), (a_p, (oc6 8 5 a_pn e_p)), (a_pn, (arI G 40 f_p)), (a_bb, (arJ G 24 f_bb)), (a_j, (oc2 a_as a_sk)), (a_as, (arI G 8 k_as)), (a_sk, (arJ G 50 k_sk)), (a_l, (arW G 6 f_l)), (a_lo, (oc3 e_cl a_hd a_sr a_cd)), (a_sr, (arI G n_sr f_sr)), (a_cd, (arI G n_cd f_cd)), (a_hd, (arI G n_hd f_hd)), (a_pt, (arI G 200 k_pt)), (a_th, (oc7 a_h a_k a_ba a_ad e_fu a_cn a_nx a_hp a_hl a_lv)), (a_ba, (arJ G 24 k_ba)), (a_ad, (arI G 1536 k_ad))]) hP hD [21, 22] [0, 1, 2, 3, 4, 5, 6, 7, 8, 9, 10, 11, 12, 13, 14, 15, 16, 17, 18, 19, 20] rfl rfl (by decide) (by decide) hk1 hFc hP1 hD1
        generalize H1 = H at hP hS ⊢
        refine g5_rs [(a_k, (oc5 a_h a_j a_pt k_ln k_se k_lh k_br k_we k_me k_ce k_wy k_ho k_ov)), (a_h, (oc1 e_wa e_le e_st e_fo e_lc a_l a_g a_b a_s a_p a_w e_gb a_bb)), (a_g, (oc6 6 5 a_gn e_g)), (a_gn, (arI G 30 f_g)), (a_b, (oc6 5 24 a_bn e_b)), (a_bn, (arI G 120 f_b)), (a_p, (oc6 8 5 a_pn e_p)), (a_pn, (arI G 40 f_p)), (a_bb, (arJ G 24 f_bb)), (a_j, (oc2 a_as a_sk)), (a_as, (arI G 8 k_as)), (a_sk, (arJ G 50 k_sk)), (a_l, (arW G 6 f_l)), (a_lo, (oc3 e_cl a_hd a_sr a_cd)), (a_sr, (arI G n_sr f_sr)), (a_cd, (arI G n_cd f_cd)), (a_hd, (arI G n_hd f_hd)), (a_pt, (arI G 200 k_pt)), (a_th, (oc7 a_h a_k a_ba a_ad e_fu a_cn a_nx a_hp a_hl a_lv)), (a_ba, (arJ G 24 k_ba)), (a_ad, (arI G 1536 k_ad)), (a_s, (oc6 10 4 a_sn e_s)), (a_sn, (arI G 40 f_s))] hP hD (fun hP hD => ?_)
        refine g5_ti (v := z57) y58 ?_
        refine lv_aload_n hx hb dX7_load_104 rfl (lv_at hl 2 rfl) ?_
        refine lv_iload hx hb dX7_load_105 (lv_at hl 1 rfl) ?_
        refine lv_iconst (v := 2) hx hb dX7_load_107 (by decide) ?_
        obtain ⟨hPc, hDc, hFc⟩ := g5_sub3 (wc := [(a_s, (oc6 10 4 a_sn e_s)), (a_sn, (arI G 40 f_s))]) hP hD hS hA [21, 22] (by decide) rfl
        refine va_calli (va_runV (As := [.int k_i, .int 2]) (rest := [.int z57, .int z54, .ref a_k]) ⟨hx, hb, hml, hown, hts⟩ (t_get_S l G a_s a_sn H.size e_s k_i 2 f_s h_e_s) (cwV 2 hts gV_X7_72 rfl rfl rfl hv_X6_get ⟨Nat.le_of_ble_eq_true rfl, Nat.le_of_ble_eq_true rfl⟩) (g5_preV hPc hK hDc hN hT hS hFc (ci := 6) (q0 := 0) rfl rfl) rfl rfl hl.1 rfl (lv_room (Nat.le_of_ble_eq_true rfl)) dX7_load_108 ⟨Nat.le_of_ble_eq_true rfl, Nat.le_of_ble_eq_true rfl⟩) hS (fun q _ h => hFc q h) hFc (fun r u t H1 locs ht hvm hw hB hz1 hk1 hS => ?_)
        obtain ⟨hP1, hD1⟩ := hB
        rw [ht] at hP1
        obtain ⟨z60, i_59, y61, rfl⟩ := hw
        have i_59 : z60 = tget f_s e_s.toInt 4 k_i.toInt (2 : Int32).toInt := i_59
        obtain ⟨hP, hD⟩ := va_join (wr := [(a_k, (oc5 a_h a_j a_pt k_ln k_se k_lh k_br k_we k_me k_ce k_wy k_ho k_ov)), (a_h, (oc1 e_wa e_le e_st e_fo e_lc a_l a_g a_b a_s a_p a_w e_gb a_bb)), (a_g, (oc6 6 5 a_gn e_g)), (a_gn, (arI G 30 f_g)), (a_b, (oc6 5 24 a_bn e_b)), (a_bn, (arI G 120 f_b)), (a_p, (oc6 8 5 a_pn e_p)), (a_pn, (arI G 40 f_p)), (a_bb, (arJ G 24 f_bb)), (a_j, (oc2 a_as a_sk)), (a_as, (arI G 8 k_as)), (a_sk, (arJ G 50 k_sk)), (a_l, (arW G 6 f_l)), (a_lo, (oc3 e_cl a_hd a_sr a_cd)), (a_sr, (arI G n_sr f_sr)), (a_cd, (arI G n_cd f_cd)), (a_hd, (arI G n_hd f_hd)), (a_pt, (arI G 200 k_pt)), (a_th, (oc7 a_h a_k a_ba a_ad e_fu a_cn a_nx a_hp a_hl a_lv)), (a_ba, (arJ G 24 k_ba)), (a_ad, (arI G 1536 k_ad))]) hP hD [21, 22] [0, 1, 2, 3, 4, 5, 6, 7, 8, 9, 10, 11, 12, 13, 14, 15, 16, 17, 18, 19, 20] rfl rfl (by decide) (by decide) hk1 hFc hP1 hD1
        generalize H1 = H at hP hS ⊢
        refine g5_rs [(a_k, (oc5 a_h a_j a_pt k_ln k_se k_lh k_br k_we k_me k_ce k_wy k_ho k_ov)), (a_h, (oc1 e_wa e_le e_st e_fo e_lc a_l a_g a_b a_s a_p a_w e_gb a_bb)), (a_g, (oc6 6 5 a_gn e_g)), (a_gn, (arI G 30 f_g)), (a_b, (oc6 5 24 a_bn e_b)), (a_bn, (arI G 120 f_b)), (a_p, (oc6 8 5 a_pn e_p)), (a_pn, (arI G 40 f_p)), (a_bb, (arJ G 24 f_bb)), (a_j, (oc2 a_as a_sk)), (a_as, (arI G 8 k_as)), (a_sk, (arJ G 50 k_sk)), (a_l, (arW G 6 f_l)), (a_lo, (oc3 e_cl a_hd a_sr a_cd)), (a_sr, (arI G n_sr f_sr)), (a_cd, (arI G n_cd f_cd)), (a_hd, (arI G n_hd f_hd)), (a_pt, (arI G 200 k_pt)), (a_th, (oc7 a_h a_k a_ba a_ad e_fu a_cn a_nx a_hp a_hl a_lv)), (a_ba, (arJ G 24 k_ba)), (a_ad, (arI G 1536 k_ad)), (a_s, (oc6 10 4 a_sn e_s)), (a_sn, (arI G 40 f_s))] hP hD (fun hP hD => ?_)
        refine g5_ti (v := z60) y61 ?_
        refine lv_iconst (v := 0) hx hb dX7_load_111 (by decide) ?_
        obtain ⟨hPc, hDc, hFc⟩ := g5_sub3 (wc := [(a_k, (oc5 a_h a_j a_pt k_ln k_se k_lh k_br k_we k_me k_ce k_wy k_ho k_ov)), (a_h, (oc1 e_wa e_le e_st e_fo e_lc a_l a_g a_b a_s a_p a_w e_gb a_bb)), (a_g, (oc6 6 5 a_gn e_g)), (a_gn, (arI G 30 f_g)), (a_b, (oc6 5 24 a_bn e_b)), (a_bn, (arI G 120 f_b)), (a_p, (oc6 8 5 a_pn e_p)), (a_pn, (arI G 40 f_p)), (a_bb, (arJ G 24 f_bb)), (a_j, (oc2 a_as a_sk)), (a_as, (arI G 8 k_as)), (a_sk, (arJ G 50 k_sk)), (a_l, (arW G 6 f_l)), (a_lo, (oc3 e_cl a_hd a_sr a_cd)), (a_sr, (arI G n_sr f_sr)), (a_cd, (arI G n_cd f_cd)), (a_hd, (arI G n_hd f_hd)), (a_pt, (arI G 200 k_pt))]) hP hD hS hA [0, 1, 2, 3, 4, 5, 6, 7, 8, 9, 10, 11, 12, 13, 14, 15, 16, 17] (by decide) rfl
        refine va_callv (va_runV (As := [.int z54, .int z57, .int z60, .int 0]) (rest := []) ⟨hx, hb, hml, hown, hts⟩ (k_runL l G a_k a_h a_g a_gn a_b a_bn a_p a_pn a_bb a_j a_as a_sk a_l a_lo a_sr a_cd a_hd a_pt a_s a_w H.size e_le e_st e_fo e_lc e_g e_b e_p e_cl k_ln k_se k_lh k_br k_we k_me k_ce k_wy k_ho k_ov z54 z57 z60 0 e_wa e_gb f_g f_b f_p f_bb k_as k_sk f_l f_sr f_cd f_hd k_pt n_sr n_cd n_hd h_e_g h_e_b h_e_p h_e_cl i_46 (e_gk) (e_pk) (e_gi) (e_f) (e_a) (e_hn) (e_hs) (e_hk) (e_c)) (cwV 4 hts gV_X7_76 rfl rfl rfl hv_X5_run ⟨Nat.le_of_ble_eq_true rfl, Nat.le_of_ble_eq_true rfl⟩) (g5_preV hPc hK hDc hN hT hS hFc (ci := 5) (q0 := 0) rfl rfl) rfl rfl hl.1 rfl (lv_room (Nat.le_of_ble_eq_true rfl)) dX7_load_112 ⟨Nat.le_of_ble_eq_true rfl, Nat.le_of_ble_eq_true rfl⟩) hS (fun q _ h => hFc q h) hFc (fun u t H1 locs ht hvm hw hB hz1 hk1 hS => ?_)
        obtain ⟨hP1, hD1⟩ := hB
        rw [ht] at hP1
        obtain ⟨z65, z66, z67, z68, z69, z70, z71, z72, z73, z74, z75, z76, z77, i_62, i_63, i_64, rfl⟩ := hw
        have i_62 : 0 ≤ z65.toInt ∧ z65.toInt ≤ 200 := i_62
        have i_63 : 0 ≤ z74.toInt ∧ z74.toInt ≤ 1 := i_63
        have i_64 : ∀ j : Nat, (j : Int) < z65.toInt → 0 ≤ (z75 j).toInt ∧ (z75 j).toInt ≤ 1535 := i_64
        obtain ⟨hP, hD⟩ := va_join (wr := [(a_th, (oc7 a_h a_k a_ba a_ad e_fu a_cn a_nx a_hp a_hl a_lv)), (a_ba, (arJ G 24 k_ba)), (a_ad, (arI G 1536 k_ad)), (a_s, (oc6 10 4 a_sn e_s)), (a_sn, (arI G 40 f_s))]) hP hD [0, 1, 2, 3, 4, 5, 6, 7, 8, 9, 10, 11, 12, 13, 14, 15, 16, 17] [18, 19, 20, 21, 22] rfl rfl (by decide) (by decide) hk1 hFc hP1 hD1
        generalize H1 = H at hP hS ⊢
        refine g5_rs [(a_th, (oc7 a_h a_k a_ba a_ad e_fu a_cn a_nx a_hp a_hl a_lv)), (a_ba, (arJ G 24 k_ba)), (a_ad, (arI G 1536 k_ad)), (a_s, (oc6 10 4 a_sn e_s)), (a_sn, (arI G 40 f_s)), (a_k, (oc5 a_h a_j a_pt z65 z66 z67 z68 z69 z70 z71 z72 z73 z74)), (a_h, (oc1 e_wa e_le e_st e_fo e_lc a_l a_g a_b a_s a_p a_w e_gb a_bb)), (a_g, (oc6 6 5 a_gn e_g)), (a_gn, (arI G 30 f_g)), (a_b, (oc6 5 24 a_bn e_b)), (a_bn, (arI G 120 f_b)), (a_p, (oc6 8 5 a_pn e_p)), (a_pn, (arI G 40 f_p)), (a_bb, (arJ G 24 f_bb)), (a_j, (oc2 a_as a_sk)), (a_as, (arI G 8 z76)), (a_sk, (arJ G 50 z77)), (a_l, (arW G 6 f_l)), (a_lo, (oc3 e_cl a_hd a_sr a_cd)), (a_sr, (arI G n_sr f_sr)), (a_cd, (arI G n_cd f_cd)), (a_hd, (arI G n_hd f_hd)), (a_pt, (arI G 200 z75))] hP hD (fun hP hD => ?_)
        refine lv_aload_n hx hb dX7_load_115 rfl (lv_at hl 2 rfl) ?_
        refine lv_iload hx hb dX7_load_116 (lv_at hl 1 rfl) ?_
        refine lv_iconst (v := 3) hx hb dX7_load_118 (by decide) ?_
        obtain ⟨hPc, hDc, hFc⟩ := g5_sub3 (wc := [(a_s, (oc6 10 4 a_sn e_s)), (a_sn, (arI G 40 f_s))]) hP hD hS hA [3, 4] (by decide) rfl
        refine va_calli (va_runV (As := [.int k_i, .int 3]) (rest := []) ⟨hx, hb, hml, hown, hts⟩ (t_get_S l G a_s a_sn H.size e_s k_i 3 f_s h_e_s) (cwV 2 hts gV_X7_72 rfl rfl rfl hv_X6_get ⟨Nat.le_of_ble_eq_true rfl, Nat.le_of_ble_eq_true rfl⟩) (g5_preV hPc hK hDc hN hT hS hFc (ci := 6) (q0 := 0) rfl rfl) rfl rfl hl.1 rfl (lv_room (Nat.le_of_ble_eq_true rfl)) dX7_load_119 ⟨Nat.le_of_ble_eq_true rfl, Nat.le_of_ble_eq_true rfl⟩) hS (fun q _ h => hFc q h) hFc (fun r u t H1 locs ht hvm hw hB hz1 hk1 hS => ?_)
        obtain ⟨hP1, hD1⟩ := hB
        rw [ht] at hP1
        obtain ⟨z79, i_78, y80, rfl⟩ := hw
        have i_78 : z79 = tget f_s e_s.toInt 4 k_i.toInt (3 : Int32).toInt := i_78
        obtain ⟨hP, hD⟩ := va_join (wr := [(a_th, (oc7 a_h a_k a_ba a_ad e_fu a_cn a_nx a_hp a_hl a_lv)), (a_ba, (arJ G 24 k_ba)), (a_ad, (arI G 1536 k_ad)), (a_k, (oc5 a_h a_j a_pt z65 z66 z67 z68 z69 z70 z71 z72 z73 z74)), (a_h, (oc1 e_wa e_le e_st e_fo e_lc a_l a_g a_b a_s a_p a_w e_gb a_bb)), (a_g, (oc6 6 5 a_gn e_g)), (a_gn, (arI G 30 f_g)), (a_b, (oc6 5 24 a_bn e_b)), (a_bn, (arI G 120 f_b)), (a_p, (oc6 8 5 a_pn e_p)), (a_pn, (arI G 40 f_p)), (a_bb, (arJ G 24 f_bb)), (a_j, (oc2 a_as a_sk)), (a_as, (arI G 8 z76)), (a_sk, (arJ G 50 z77)), (a_l, (arW G 6 f_l)), (a_lo, (oc3 e_cl a_hd a_sr a_cd)), (a_sr, (arI G n_sr f_sr)), (a_cd, (arI G n_cd f_cd)), (a_hd, (arI G n_hd f_hd)), (a_pt, (arI G 200 z75))]) hP hD [3, 4] [0, 1, 2, 5, 6, 7, 8, 9, 10, 11, 12, 13, 14, 15, 16, 17, 18, 19, 20, 21, 22] rfl rfl (by decide) (by decide) hk1 hFc hP1 hD1
        generalize H1 = H at hP hS ⊢
        refine g5_rs [(a_th, (oc7 a_h a_k a_ba a_ad e_fu a_cn a_nx a_hp a_hl a_lv)), (a_ba, (arJ G 24 k_ba)), (a_ad, (arI G 1536 k_ad)), (a_k, (oc5 a_h a_j a_pt z65 z66 z67 z68 z69 z70 z71 z72 z73 z74)), (a_h, (oc1 e_wa e_le e_st e_fo e_lc a_l a_g a_b a_s a_p a_w e_gb a_bb)), (a_g, (oc6 6 5 a_gn e_g)), (a_gn, (arI G 30 f_g)), (a_b, (oc6 5 24 a_bn e_b)), (a_bn, (arI G 120 f_b)), (a_p, (oc6 8 5 a_pn e_p)), (a_pn, (arI G 40 f_p)), (a_bb, (arJ G 24 f_bb)), (a_j, (oc2 a_as a_sk)), (a_as, (arI G 8 z76)), (a_sk, (arJ G 50 z77)), (a_l, (arW G 6 f_l)), (a_lo, (oc3 e_cl a_hd a_sr a_cd)), (a_sr, (arI G n_sr f_sr)), (a_cd, (arI G n_cd f_cd)), (a_hd, (arI G n_hd f_hd)), (a_pt, (arI G 200 z75)), (a_s, (oc6 10 4 a_sn e_s)), (a_sn, (arI G 40 f_s))] hP hD (fun hP hD => ?_)
        refine g5_ti (v := z79) y80 ?_
        refine lv_iconst (v := 1) hx hb dX7_load_122 (by decide) ?_
        refine lv_icmp_ne (tgt := 138) hx hb dX7_load_123 (by decide) (fun c_81 => ?_) (fun c_81 => ?_)
        ·
          have n_81 : gNe (z79.toInt) (1) := by have z := g5_ne (a := z79.toInt) (b := 1) (by rfl) (by decide) c_81; unfold gNe; omega
          refine lv_aload_n hx hb dX7_load_138 rfl (lv_at hl 3 rfl) ?_
          obtain ⟨hPc, hDc, hFc⟩ := g5_sub3 (wc := [(a_th, (oc7 a_h a_k a_ba a_ad e_fu a_cn a_nx a_hp a_hl a_lv)), (a_k, (oc5 a_h a_j a_pt z65 z66 z67 z68 z69 z70 z71 z72 z73 z74)), (a_pt, (arI G 200 z75)), (a_ba, (arJ G 24 k_ba))]) hP hD hS hA [0, 3, 20, 1] (by decide) rfl
          refine va_callv (va_runV (As := []) (rest := []) ⟨hx, hb, hml, hown, hts⟩ (th_bar l G a_th a_k a_pt a_ba a_h a_ad a_cn a_nx a_hp a_hl a_lv a_j H.size e_fu z65 z66 z67 z68 z69 z70 z71 z72 z73 z74 z75 k_ba i_62 i_63 (i_64)) (cwV 0 hts gV_X7_86 rfl rfl rfl hv_X7_barPoints ⟨Nat.le_of_ble_eq_true rfl, Nat.le_of_ble_eq_true rfl⟩) (g5_preV hPc hK hDc hN hT hS hFc (ci := 7) (q0 := 0) rfl rfl) rfl rfl hl.1 rfl (lv_room (Nat.le_of_ble_eq_true rfl)) dX7_load_139 ⟨Nat.le_of_ble_eq_true rfl, Nat.le_of_ble_eq_true rfl⟩) hS (fun q _ h => hFc q h) hFc (fun u t H1 locs ht hvm hw hB hz1 hk1 hS => ?_)
          obtain ⟨hP1, hD1⟩ := hB
          rw [ht] at hP1
          obtain ⟨z82, rfl⟩ := hw
          obtain ⟨hP, hD⟩ := va_join (wr := [(a_ad, (arI G 1536 k_ad)), (a_h, (oc1 e_wa e_le e_st e_fo e_lc a_l a_g a_b a_s a_p a_w e_gb a_bb)), (a_g, (oc6 6 5 a_gn e_g)), (a_gn, (arI G 30 f_g)), (a_b, (oc6 5 24 a_bn e_b)), (a_bn, (arI G 120 f_b)), (a_p, (oc6 8 5 a_pn e_p)), (a_pn, (arI G 40 f_p)), (a_bb, (arJ G 24 f_bb)), (a_j, (oc2 a_as a_sk)), (a_as, (arI G 8 z76)), (a_sk, (arJ G 50 z77)), (a_l, (arW G 6 f_l)), (a_lo, (oc3 e_cl a_hd a_sr a_cd)), (a_sr, (arI G n_sr f_sr)), (a_cd, (arI G n_cd f_cd)), (a_hd, (arI G n_hd f_hd)), (a_s, (oc6 10 4 a_sn e_s)), (a_sn, (arI G 40 f_s))]) hP hD [0, 3, 20, 1] [2, 4, 5, 6, 7, 8, 9, 10, 11, 12, 13, 14, 15, 16, 17, 18, 19, 21, 22] rfl rfl (by decide) (by decide) hk1 hFc hP1 hD1
          generalize H1 = H at hP hS ⊢
          refine g5_rs [(a_ad, (arI G 1536 k_ad)), (a_h, (oc1 e_wa e_le e_st e_fo e_lc a_l a_g a_b a_s a_p a_w e_gb a_bb)), (a_g, (oc6 6 5 a_gn e_g)), (a_gn, (arI G 30 f_g)), (a_b, (oc6 5 24 a_bn e_b)), (a_bn, (arI G 120 f_b)), (a_p, (oc6 8 5 a_pn e_p)), (a_pn, (arI G 40 f_p)), (a_bb, (arJ G 24 f_bb)), (a_j, (oc2 a_as a_sk)), (a_as, (arI G 8 z76)), (a_sk, (arJ G 50 z77)), (a_l, (arW G 6 f_l)), (a_lo, (oc3 e_cl a_hd a_sr a_cd)), (a_sr, (arI G n_sr f_sr)), (a_cd, (arI G n_cd f_cd)), (a_hd, (arI G n_hd f_hd)), (a_s, (oc6 10 4 a_sn e_s)), (a_sn, (arI G 40 f_s)), (a_th, (oc7 a_h a_k a_ba a_ad e_fu a_cn a_nx a_hp a_hl a_lv)), (a_k, (oc5 a_h a_j a_pt z65 z66 z67 z68 z69 z70 z71 z72 z73 z74)), (a_pt, (arI G 200 z75)), (a_ba, (arJ G 24 z82))] hP hD (fun hP hD => ?_)
          refine lv_iinc (v := (k_i + 1)) (lv' := [(4, .int (k_i + 1)), (2, .int k_b), (3, .ref a_s), (0, .ref a_th), (1, .int p_s)]) hx hb dX7_load_142 hl (k := 1) rfl rfl (by decide) rfl (fun ls hl => ?_)
          have t_83 : (k_i + 1).toInt = k_i.toInt + 1 := g5_iadd (a := k_i.toInt) (b := 1) rfl (by decide) (by omega) (by omega)
          refine lv_goto (tgt := 68) hx hb dX7_load_145 (by decide) ?_
          exact ih_68_49 (k_b, (k_i + 1), z66, z67, z68, z69, z70, z71, z72, z73, z74, z75, z76, z77, z65, z82, k_ad) ls H locs (show Int.toNat (10 - (k_i + 1).toInt) < Int.toNat (10 - k_i.toInt) from g_up (show k_i.toInt < (k_i + 1).toInt by omega) (show k_i.toInt < 10 by omega)) ⟨lv_sub hl [1, 0, 2, 3, 4] rfl, hP.sub [20, 1, 2, 3, 4, 5, 6, 7, 17, 18, 8, 9, 10, 11, 12, 13, 14, 15, 16, 21, 19, 22, 0] rfl, hD.sub [20, 1, 2, 3, 4, 5, 6, 7, 17, 18, 8, 9, 10, 11, 12, 13, 14, 15, 16, 21, 19, 22, 0] (by decide) rfl, hS, ⟨by omega, by omega⟩, i_63, by omega, ld_stay i_48 e_sh (by omega) (by omega) (by omega)⟩
        ·
          have i_81 : z79.toInt = 1 := by have z := g5_neN (a := z79.toInt) (b := 1) (by rfl) (by decide) c_81; omega
          obtain ⟨gs_84, hg1_84, hg2_84, hg3_84⟩ := id i_48
          have hg4_84 : gs_84 < 5 := ld_lt hg1_84 e_sh e_s5 i_78 (by omega) (by omega) (by omega)
          have hg5_84 : mOK k_ad (gs_84 + 1) := mOK_up hg3_84
          refine lv_aload_n hx hb dX7_load_126 rfl (lv_at hl 3 rfl) ?_
          refine lv_iload_n hx hb dX7_load_127 rfl (lv_at hl 0 rfl) ?_
          obtain ⟨hPc, hDc, hFc⟩ := g5_sub3 (wc := [(a_th, (oc7 a_h a_k a_ba a_ad e_fu a_cn a_nx a_hp a_hl a_lv)), (a_k, (oc5 a_h a_j a_pt z65 z66 z67 z68 z69 z70 z71 z72 z73 z74)), (a_pt, (arI G 200 z75)), (a_ad, (arI G 1536 k_ad))]) hP hD hS hA [0, 3, 20, 2] (by decide) rfl
          refine va_callv (va_runV (As := [.int k_b]) (rest := []) ⟨hx, hb, hml, hown, hts⟩ (th_add l G a_th a_k a_pt a_ad a_h a_ba a_cn a_nx a_hp a_hl a_lv a_j H.size e_fu z65 z66 z67 z68 z69 z70 z71 z72 z73 z74 k_b z75 k_ad gs_84 i_62 i_63 (i_64) (hg4_84) (hg2_84) (hg5_84)) (cwV 1 hts gV_X7_82 rfl rfl rfl hv_X7_addPoints ⟨Nat.le_of_ble_eq_true rfl, Nat.le_of_ble_eq_true rfl⟩) (g5_preV hPc hK hDc hN hT hS hFc (ci := 7) (q0 := 0) rfl rfl) rfl rfl hl.1 rfl (lv_room (Nat.le_of_ble_eq_true rfl)) dX7_load_128 ⟨Nat.le_of_ble_eq_true rfl, Nat.le_of_ble_eq_true rfl⟩) hS (fun q _ h => hFc q h) hFc (fun u t H1 locs ht hvm hw hB hz1 hk1 hS => ?_)
          obtain ⟨hP1, hD1⟩ := hB
          rw [ht] at hP1
          obtain ⟨z86, i_85, rfl⟩ := hw
          have i_85 : mOK z86 (gs_84 + 1) := i_85
          obtain ⟨hP, hD⟩ := va_join (wr := [(a_ba, (arJ G 24 k_ba)), (a_h, (oc1 e_wa e_le e_st e_fo e_lc a_l a_g a_b a_s a_p a_w e_gb a_bb)), (a_g, (oc6 6 5 a_gn e_g)), (a_gn, (arI G 30 f_g)), (a_b, (oc6 5 24 a_bn e_b)), (a_bn, (arI G 120 f_b)), (a_p, (oc6 8 5 a_pn e_p)), (a_pn, (arI G 40 f_p)), (a_bb, (arJ G 24 f_bb)), (a_j, (oc2 a_as a_sk)), (a_as, (arI G 8 z76)), (a_sk, (arJ G 50 z77)), (a_l, (arW G 6 f_l)), (a_lo, (oc3 e_cl a_hd a_sr a_cd)), (a_sr, (arI G n_sr f_sr)), (a_cd, (arI G n_cd f_cd)), (a_hd, (arI G n_hd f_hd)), (a_s, (oc6 10 4 a_sn e_s)), (a_sn, (arI G 40 f_s))]) hP hD [0, 3, 20, 2] [1, 4, 5, 6, 7, 8, 9, 10, 11, 12, 13, 14, 15, 16, 17, 18, 19, 21, 22] rfl rfl (by decide) (by decide) hk1 hFc hP1 hD1
          generalize H1 = H at hP hS ⊢
          refine g5_rs [(a_ba, (arJ G 24 k_ba)), (a_h, (oc1 e_wa e_le e_st e_fo e_lc a_l a_g a_b a_s a_p a_w e_gb a_bb)), (a_g, (oc6 6 5 a_gn e_g)), (a_gn, (arI G 30 f_g)), (a_b, (oc6 5 24 a_bn e_b)), (a_bn, (arI G 120 f_b)), (a_p, (oc6 8 5 a_pn e_p)), (a_pn, (arI G 40 f_p)), (a_bb, (arJ G 24 f_bb)), (a_j, (oc2 a_as a_sk)), (a_as, (arI G 8 z76)), (a_sk, (arJ G 50 z77)), (a_l, (arW G 6 f_l)), (a_lo, (oc3 e_cl a_hd a_sr a_cd)), (a_sr, (arI G n_sr f_sr)), (a_cd, (arI G n_cd f_cd)), (a_hd, (arI G n_hd f_hd)), (a_s, (oc6 10 4 a_sn e_s)), (a_sn, (arI G 40 f_s)), (a_th, (oc7 a_h a_k a_ba a_ad e_fu a_cn a_nx a_hp a_hl a_lv)), (a_k, (oc5 a_h a_j a_pt z65 z66 z67 z68 z69 z70 z71 z72 z73 z74)), (a_pt, (arI G 200 z75)), (a_ad, (arI G 1536 z86))] hP hD (fun hP hD => ?_)
          refine lv_iload_n hx hb dX7_load_131 rfl (lv_at hl 0 rfl) ?_
          refine lv_iconst (v := 1) hx hb dX7_load_132 (by decide) ?_
          refine lv_ishl hx hb dX7_load_133 ?_
          refine lv_istore_n (lv' := [(2, .int (k_b <<< (1 &&& 31))), (4, .int k_i), (3, .ref a_s), (0, .ref a_th), (1, .int p_s)]) hx hb dX7_load_134 rfl hl (by decide) rfl (fun ls hl => ?_)
          refine lv_goto (tgt := 142) hx hb dX7_load_135 (by decide) ?_
          refine lv_iinc (v := (k_i + 1)) (lv' := [(4, .int (k_i + 1)), (2, .int (k_b <<< (1 &&& 31))), (3, .ref a_s), (0, .ref a_th), (1, .int p_s)]) hx hb dX7_load_142 hl (k := 1) rfl rfl (by decide) rfl (fun ls hl => ?_)
          have t_87 : (k_i + 1).toInt = k_i.toInt + 1 := g5_iadd (a := k_i.toInt) (b := 1) rfl (by decide) (by omega) (by omega)
          refine lv_goto (tgt := 68) hx hb dX7_load_145 (by decide) ?_
          exact ih_68_49 ((k_b <<< (1 &&& 31)), (k_i + 1), z66, z67, z68, z69, z70, z71, z72, z73, z74, z75, z76, z77, z65, k_ba, z86) ls H locs (show Int.toNat (10 - (k_i + 1).toInt) < Int.toNat (10 - k_i.toInt) from g_up (show k_i.toInt < (k_i + 1).toInt by omega) (show k_i.toInt < 10 by omega)) ⟨lv_sub hl [1, 0, 2, 3, 4] rfl, hP.sub [20, 1, 2, 3, 4, 5, 6, 7, 17, 18, 8, 9, 10, 11, 12, 13, 14, 15, 16, 21, 19, 0, 22] rfl, hD.sub [20, 1, 2, 3, 4, 5, 6, 7, 17, 18, 8, 9, 10, 11, 12, 13, 14, 15, 16, 21, 19, 0, 22] (by decide) rfl, hS, ⟨by omega, by omega⟩, i_63, by omega, ld_go hg1_84 hg2_84 hg4_84 i_85 i_78 (by omega) (by omega) (by omega)⟩
theorem dgX7_stepTo_0 : ∀ r ∈ ([(0, (.aload_n 0, 1)), (1, (.getfield 89, 3)), (4, (.iconst 1, 1)), (5, (.iadd, 1)), (6, (.istore_n 2, 1)), (7, (.iconst 0, 1)), (8, (.istore_n 3, 1)), (9, (.iload_n 3, 1)), (10, (.bipush 64, 2)), (12, (.if_icmp .ge 135, 3)), (15, (.iconst 0, 1)), (16, (.istore 4, 2)), (18, (.iload 4, 2)), (20, (.iload_n 2, 1)), (21, (.if_icmp .ge 21, 3)), (24, (.aload_n 0, 1)), (25, (.getfield 22, 3)), (28, (.iload_n 3, 1)), (29, (.iload_n 2, 1)), (30, (.imul, 1)), (31, (.iload 4, 2)), (33, (.iadd, 1)), (34, (.lconst 0, 1)), (35, (.lastore, 1)), (36, (.iinc 4 1, 3)), (39, (.goto (-21), 3)), (42, (.aload_n 0, 1)), (43, (.getfield 15, 3)), (46, (.iload_n 1, 1)), (47, (.bipush 64, 2)), (49, (.imul, 1)), (50, (.iload_n 3, 1)), (51, (.iadd, 1)), (52, (.iaload, 1)), (53, (.istore 4, 2)), (55, (.iconst 0, 1)), (56, (.istore 5, 2)), (58, (.iload 5, 2)), (60, (.iconst 4, 1)), (61, (.if_icmp .gt 80, 3))] : List (Nat × (Instr × Nat))), decode cX7_stepTo r.1 = .ok r.2 := by decide +kernel
theorem dX7_stepTo_0 : decode cX7_stepTo 0 = .ok (.aload_n 0, 1) := dgX7_stepTo_0 (0, (.aload_n 0, 1)) (List.mem_of_getElem? (i := 0) rfl)
theorem dX7_stepTo_1 : decode cX7_stepTo 1 = .ok (.getfield 89, 3) := dgX7_stepTo_0 (1, (.getfield 89, 3)) (List.mem_of_getElem? (i := 1) rfl)
theorem dX7_stepTo_4 : decode cX7_stepTo 4 = .ok (.iconst 1, 1) := dgX7_stepTo_0 (4, (.iconst 1, 1)) (List.mem_of_getElem? (i := 2) rfl)
theorem dX7_stepTo_5 : decode cX7_stepTo 5 = .ok (.iadd, 1) := dgX7_stepTo_0 (5, (.iadd, 1)) (List.mem_of_getElem? (i := 3) rfl)
theorem dX7_stepTo_6 : decode cX7_stepTo 6 = .ok (.istore_n 2, 1) := dgX7_stepTo_0 (6, (.istore_n 2, 1)) (List.mem_of_getElem? (i := 4) rfl)
theorem dX7_stepTo_7 : decode cX7_stepTo 7 = .ok (.iconst 0, 1) := dgX7_stepTo_0 (7, (.iconst 0, 1)) (List.mem_of_getElem? (i := 5) rfl)
theorem dX7_stepTo_8 : decode cX7_stepTo 8 = .ok (.istore_n 3, 1) := dgX7_stepTo_0 (8, (.istore_n 3, 1)) (List.mem_of_getElem? (i := 6) rfl)
theorem dX7_stepTo_9 : decode cX7_stepTo 9 = .ok (.iload_n 3, 1) := dgX7_stepTo_0 (9, (.iload_n 3, 1)) (List.mem_of_getElem? (i := 7) rfl)
theorem dX7_stepTo_10 : decode cX7_stepTo 10 = .ok (.bipush 64, 2) := dgX7_stepTo_0 (10, (.bipush 64, 2)) (List.mem_of_getElem? (i := 8) rfl)
theorem dX7_stepTo_12 : decode cX7_stepTo 12 = .ok (.if_icmp .ge 135, 3) := dgX7_stepTo_0 (12, (.if_icmp .ge 135, 3)) (List.mem_of_getElem? (i := 9) rfl)
theorem dX7_stepTo_15 : decode cX7_stepTo 15 = .ok (.iconst 0, 1) := dgX7_stepTo_0 (15, (.iconst 0, 1)) (List.mem_of_getElem? (i := 10) rfl)
theorem dX7_stepTo_16 : decode cX7_stepTo 16 = .ok (.istore 4, 2) := dgX7_stepTo_0 (16, (.istore 4, 2)) (List.mem_of_getElem? (i := 11) rfl)
theorem dX7_stepTo_18 : decode cX7_stepTo 18 = .ok (.iload 4, 2) := dgX7_stepTo_0 (18, (.iload 4, 2)) (List.mem_of_getElem? (i := 12) rfl)
theorem dX7_stepTo_20 : decode cX7_stepTo 20 = .ok (.iload_n 2, 1) := dgX7_stepTo_0 (20, (.iload_n 2, 1)) (List.mem_of_getElem? (i := 13) rfl)
theorem dX7_stepTo_21 : decode cX7_stepTo 21 = .ok (.if_icmp .ge 21, 3) := dgX7_stepTo_0 (21, (.if_icmp .ge 21, 3)) (List.mem_of_getElem? (i := 14) rfl)
theorem dX7_stepTo_24 : decode cX7_stepTo 24 = .ok (.aload_n 0, 1) := dgX7_stepTo_0 (24, (.aload_n 0, 1)) (List.mem_of_getElem? (i := 15) rfl)
theorem dX7_stepTo_25 : decode cX7_stepTo 25 = .ok (.getfield 22, 3) := dgX7_stepTo_0 (25, (.getfield 22, 3)) (List.mem_of_getElem? (i := 16) rfl)
theorem dX7_stepTo_28 : decode cX7_stepTo 28 = .ok (.iload_n 3, 1) := dgX7_stepTo_0 (28, (.iload_n 3, 1)) (List.mem_of_getElem? (i := 17) rfl)
theorem dX7_stepTo_29 : decode cX7_stepTo 29 = .ok (.iload_n 2, 1) := dgX7_stepTo_0 (29, (.iload_n 2, 1)) (List.mem_of_getElem? (i := 18) rfl)
theorem dX7_stepTo_30 : decode cX7_stepTo 30 = .ok (.imul, 1) := dgX7_stepTo_0 (30, (.imul, 1)) (List.mem_of_getElem? (i := 19) rfl)
theorem dX7_stepTo_31 : decode cX7_stepTo 31 = .ok (.iload 4, 2) := dgX7_stepTo_0 (31, (.iload 4, 2)) (List.mem_of_getElem? (i := 20) rfl)
theorem dX7_stepTo_33 : decode cX7_stepTo 33 = .ok (.iadd, 1) := dgX7_stepTo_0 (33, (.iadd, 1)) (List.mem_of_getElem? (i := 21) rfl)
theorem dX7_stepTo_34 : decode cX7_stepTo 34 = .ok (.lconst 0, 1) := dgX7_stepTo_0 (34, (.lconst 0, 1)) (List.mem_of_getElem? (i := 22) rfl)
theorem dX7_stepTo_35 : decode cX7_stepTo 35 = .ok (.lastore, 1) := dgX7_stepTo_0 (35, (.lastore, 1)) (List.mem_of_getElem? (i := 23) rfl)
theorem dX7_stepTo_36 : decode cX7_stepTo 36 = .ok (.iinc 4 1, 3) := dgX7_stepTo_0 (36, (.iinc 4 1, 3)) (List.mem_of_getElem? (i := 24) rfl)
theorem dX7_stepTo_39 : decode cX7_stepTo 39 = .ok (.goto (-21), 3) := dgX7_stepTo_0 (39, (.goto (-21), 3)) (List.mem_of_getElem? (i := 25) rfl)
theorem dX7_stepTo_42 : decode cX7_stepTo 42 = .ok (.aload_n 0, 1) := dgX7_stepTo_0 (42, (.aload_n 0, 1)) (List.mem_of_getElem? (i := 26) rfl)
theorem dX7_stepTo_43 : decode cX7_stepTo 43 = .ok (.getfield 15, 3) := dgX7_stepTo_0 (43, (.getfield 15, 3)) (List.mem_of_getElem? (i := 27) rfl)
theorem dX7_stepTo_46 : decode cX7_stepTo 46 = .ok (.iload_n 1, 1) := dgX7_stepTo_0 (46, (.iload_n 1, 1)) (List.mem_of_getElem? (i := 28) rfl)
theorem dX7_stepTo_47 : decode cX7_stepTo 47 = .ok (.bipush 64, 2) := dgX7_stepTo_0 (47, (.bipush 64, 2)) (List.mem_of_getElem? (i := 29) rfl)
theorem dX7_stepTo_49 : decode cX7_stepTo 49 = .ok (.imul, 1) := dgX7_stepTo_0 (49, (.imul, 1)) (List.mem_of_getElem? (i := 30) rfl)
theorem dX7_stepTo_50 : decode cX7_stepTo 50 = .ok (.iload_n 3, 1) := dgX7_stepTo_0 (50, (.iload_n 3, 1)) (List.mem_of_getElem? (i := 31) rfl)
theorem dX7_stepTo_51 : decode cX7_stepTo 51 = .ok (.iadd, 1) := dgX7_stepTo_0 (51, (.iadd, 1)) (List.mem_of_getElem? (i := 32) rfl)
theorem dX7_stepTo_52 : decode cX7_stepTo 52 = .ok (.iaload, 1) := dgX7_stepTo_0 (52, (.iaload, 1)) (List.mem_of_getElem? (i := 33) rfl)
theorem dX7_stepTo_53 : decode cX7_stepTo 53 = .ok (.istore 4, 2) := dgX7_stepTo_0 (53, (.istore 4, 2)) (List.mem_of_getElem? (i := 34) rfl)
theorem dX7_stepTo_55 : decode cX7_stepTo 55 = .ok (.iconst 0, 1) := dgX7_stepTo_0 (55, (.iconst 0, 1)) (List.mem_of_getElem? (i := 35) rfl)
theorem dX7_stepTo_56 : decode cX7_stepTo 56 = .ok (.istore 5, 2) := dgX7_stepTo_0 (56, (.istore 5, 2)) (List.mem_of_getElem? (i := 36) rfl)
theorem dX7_stepTo_58 : decode cX7_stepTo 58 = .ok (.iload 5, 2) := dgX7_stepTo_0 (58, (.iload 5, 2)) (List.mem_of_getElem? (i := 37) rfl)
theorem dX7_stepTo_60 : decode cX7_stepTo 60 = .ok (.iconst 4, 1) := dgX7_stepTo_0 (60, (.iconst 4, 1)) (List.mem_of_getElem? (i := 38) rfl)
theorem dX7_stepTo_61 : decode cX7_stepTo 61 = .ok (.if_icmp .gt 80, 3) := dgX7_stepTo_0 (61, (.if_icmp .gt 80, 3)) (List.mem_of_getElem? (i := 39) rfl)
theorem dgX7_stepTo_1 : ∀ r ∈ ([(64, (.aload_n 0, 1)), (65, (.getfield 9, 3)), (68, (.iload_n 1, 1)), (69, (.laload, 1)), (70, (.iload_n 3, 1)), (71, (.invokestatic 98, 3)), (74, (.ifCond .ne 67, 3)), (77, (.iload_n 3, 1)), (78, (.iload 5, 2)), (80, (.invokestatic 105, 3)), (83, (.istore 6, 2)), (85, (.iconst 0, 1)), (86, (.istore 7, 2)), (88, (.iload 7, 2)), (90, (.iload_n 2, 1)), (91, (.if_icmp .ge 44, 3)), (94, (.iload 6, 2)), (96, (.iconst (-1), 1)), (97, (.if_icmp .eq 38, 3)), (100, (.aload_n 0, 1)), (101, (.getfield 22, 3)), (104, (.iload_n 3, 1)), (105, (.iload_n 2, 1)), (106, (.imul, 1)), (107, (.iload 7, 2)), (109, (.iload 4, 2)), (111, (.ior, 1)), (112, (.iadd, 1)), (113, (.dup2, 1)), (114, (.laload, 1)), (115, (.aload_n 0, 1)), (116, (.getfield 19, 3)), (119, (.iload 6, 2)), (121, (.iload_n 2, 1)), (122, (.imul, 1)), (123, (.iload 7, 2)), (125, (.iadd, 1)), (126, (.laload, 1)), (127, (.ladd, 1)), (128, (.lastore, 1))] : List (Nat × (Instr × Nat))), decode cX7_stepTo r.1 = .ok r.2 := by decide +kernel
theorem dX7_stepTo_64 : decode cX7_stepTo 64 = .ok (.aload_n 0, 1) := dgX7_stepTo_1 (64, (.aload_n 0, 1)) (List.mem_of_getElem? (i := 0) rfl)
theorem dX7_stepTo_65 : decode cX7_stepTo 65 = .ok (.getfield 9, 3) := dgX7_stepTo_1 (65, (.getfield 9, 3)) (List.mem_of_getElem? (i := 1) rfl)
theorem dX7_stepTo_68 : decode cX7_stepTo 68 = .ok (.iload_n 1, 1) := dgX7_stepTo_1 (68, (.iload_n 1, 1)) (List.mem_of_getElem? (i := 2) rfl)
theorem dX7_stepTo_69 : decode cX7_stepTo 69 = .ok (.laload, 1) := dgX7_stepTo_1 (69, (.laload, 1)) (List.mem_of_getElem? (i := 3) rfl)
theorem dX7_stepTo_70 : decode cX7_stepTo 70 = .ok (.iload_n 3, 1) := dgX7_stepTo_1 (70, (.iload_n 3, 1)) (List.mem_of_getElem? (i := 4) rfl)
theorem dX7_stepTo_71 : decode cX7_stepTo 71 = .ok (.invokestatic 98, 3) := dgX7_stepTo_1 (71, (.invokestatic 98, 3)) (List.mem_of_getElem? (i := 5) rfl)
theorem dX7_stepTo_74 : decode cX7_stepTo 74 = .ok (.ifCond .ne 67, 3) := dgX7_stepTo_1 (74, (.ifCond .ne 67, 3)) (List.mem_of_getElem? (i := 6) rfl)
theorem dX7_stepTo_77 : decode cX7_stepTo 77 = .ok (.iload_n 3, 1) := dgX7_stepTo_1 (77, (.iload_n 3, 1)) (List.mem_of_getElem? (i := 7) rfl)
theorem dX7_stepTo_78 : decode cX7_stepTo 78 = .ok (.iload 5, 2) := dgX7_stepTo_1 (78, (.iload 5, 2)) (List.mem_of_getElem? (i := 8) rfl)
theorem dX7_stepTo_80 : decode cX7_stepTo 80 = .ok (.invokestatic 105, 3) := dgX7_stepTo_1 (80, (.invokestatic 105, 3)) (List.mem_of_getElem? (i := 9) rfl)
theorem dX7_stepTo_83 : decode cX7_stepTo 83 = .ok (.istore 6, 2) := dgX7_stepTo_1 (83, (.istore 6, 2)) (List.mem_of_getElem? (i := 10) rfl)
theorem dX7_stepTo_85 : decode cX7_stepTo 85 = .ok (.iconst 0, 1) := dgX7_stepTo_1 (85, (.iconst 0, 1)) (List.mem_of_getElem? (i := 11) rfl)
theorem dX7_stepTo_86 : decode cX7_stepTo 86 = .ok (.istore 7, 2) := dgX7_stepTo_1 (86, (.istore 7, 2)) (List.mem_of_getElem? (i := 12) rfl)
theorem dX7_stepTo_88 : decode cX7_stepTo 88 = .ok (.iload 7, 2) := dgX7_stepTo_1 (88, (.iload 7, 2)) (List.mem_of_getElem? (i := 13) rfl)
theorem dX7_stepTo_90 : decode cX7_stepTo 90 = .ok (.iload_n 2, 1) := dgX7_stepTo_1 (90, (.iload_n 2, 1)) (List.mem_of_getElem? (i := 14) rfl)
theorem dX7_stepTo_91 : decode cX7_stepTo 91 = .ok (.if_icmp .ge 44, 3) := dgX7_stepTo_1 (91, (.if_icmp .ge 44, 3)) (List.mem_of_getElem? (i := 15) rfl)
theorem dX7_stepTo_94 : decode cX7_stepTo 94 = .ok (.iload 6, 2) := dgX7_stepTo_1 (94, (.iload 6, 2)) (List.mem_of_getElem? (i := 16) rfl)
theorem dX7_stepTo_96 : decode cX7_stepTo 96 = .ok (.iconst (-1), 1) := dgX7_stepTo_1 (96, (.iconst (-1), 1)) (List.mem_of_getElem? (i := 17) rfl)
theorem dX7_stepTo_97 : decode cX7_stepTo 97 = .ok (.if_icmp .eq 38, 3) := dgX7_stepTo_1 (97, (.if_icmp .eq 38, 3)) (List.mem_of_getElem? (i := 18) rfl)
theorem dX7_stepTo_100 : decode cX7_stepTo 100 = .ok (.aload_n 0, 1) := dgX7_stepTo_1 (100, (.aload_n 0, 1)) (List.mem_of_getElem? (i := 19) rfl)
theorem dX7_stepTo_101 : decode cX7_stepTo 101 = .ok (.getfield 22, 3) := dgX7_stepTo_1 (101, (.getfield 22, 3)) (List.mem_of_getElem? (i := 20) rfl)
theorem dX7_stepTo_104 : decode cX7_stepTo 104 = .ok (.iload_n 3, 1) := dgX7_stepTo_1 (104, (.iload_n 3, 1)) (List.mem_of_getElem? (i := 21) rfl)
theorem dX7_stepTo_105 : decode cX7_stepTo 105 = .ok (.iload_n 2, 1) := dgX7_stepTo_1 (105, (.iload_n 2, 1)) (List.mem_of_getElem? (i := 22) rfl)
theorem dX7_stepTo_106 : decode cX7_stepTo 106 = .ok (.imul, 1) := dgX7_stepTo_1 (106, (.imul, 1)) (List.mem_of_getElem? (i := 23) rfl)
theorem dX7_stepTo_107 : decode cX7_stepTo 107 = .ok (.iload 7, 2) := dgX7_stepTo_1 (107, (.iload 7, 2)) (List.mem_of_getElem? (i := 24) rfl)
theorem dX7_stepTo_109 : decode cX7_stepTo 109 = .ok (.iload 4, 2) := dgX7_stepTo_1 (109, (.iload 4, 2)) (List.mem_of_getElem? (i := 25) rfl)
theorem dX7_stepTo_111 : decode cX7_stepTo 111 = .ok (.ior, 1) := dgX7_stepTo_1 (111, (.ior, 1)) (List.mem_of_getElem? (i := 26) rfl)
theorem dX7_stepTo_112 : decode cX7_stepTo 112 = .ok (.iadd, 1) := dgX7_stepTo_1 (112, (.iadd, 1)) (List.mem_of_getElem? (i := 27) rfl)
theorem dX7_stepTo_113 : decode cX7_stepTo 113 = .ok (.dup2, 1) := dgX7_stepTo_1 (113, (.dup2, 1)) (List.mem_of_getElem? (i := 28) rfl)
theorem dX7_stepTo_114 : decode cX7_stepTo 114 = .ok (.laload, 1) := dgX7_stepTo_1 (114, (.laload, 1)) (List.mem_of_getElem? (i := 29) rfl)
theorem dX7_stepTo_115 : decode cX7_stepTo 115 = .ok (.aload_n 0, 1) := dgX7_stepTo_1 (115, (.aload_n 0, 1)) (List.mem_of_getElem? (i := 30) rfl)
theorem dX7_stepTo_116 : decode cX7_stepTo 116 = .ok (.getfield 19, 3) := dgX7_stepTo_1 (116, (.getfield 19, 3)) (List.mem_of_getElem? (i := 31) rfl)
theorem dX7_stepTo_119 : decode cX7_stepTo 119 = .ok (.iload 6, 2) := dgX7_stepTo_1 (119, (.iload 6, 2)) (List.mem_of_getElem? (i := 32) rfl)
theorem dX7_stepTo_121 : decode cX7_stepTo 121 = .ok (.iload_n 2, 1) := dgX7_stepTo_1 (121, (.iload_n 2, 1)) (List.mem_of_getElem? (i := 33) rfl)
theorem dX7_stepTo_122 : decode cX7_stepTo 122 = .ok (.imul, 1) := dgX7_stepTo_1 (122, (.imul, 1)) (List.mem_of_getElem? (i := 34) rfl)
theorem dX7_stepTo_123 : decode cX7_stepTo 123 = .ok (.iload 7, 2) := dgX7_stepTo_1 (123, (.iload 7, 2)) (List.mem_of_getElem? (i := 35) rfl)
theorem dX7_stepTo_125 : decode cX7_stepTo 125 = .ok (.iadd, 1) := dgX7_stepTo_1 (125, (.iadd, 1)) (List.mem_of_getElem? (i := 36) rfl)
theorem dX7_stepTo_126 : decode cX7_stepTo 126 = .ok (.laload, 1) := dgX7_stepTo_1 (126, (.laload, 1)) (List.mem_of_getElem? (i := 37) rfl)
theorem dX7_stepTo_127 : decode cX7_stepTo 127 = .ok (.ladd, 1) := dgX7_stepTo_1 (127, (.ladd, 1)) (List.mem_of_getElem? (i := 38) rfl)
theorem dX7_stepTo_128 : decode cX7_stepTo 128 = .ok (.lastore, 1) := dgX7_stepTo_1 (128, (.lastore, 1)) (List.mem_of_getElem? (i := 39) rfl)
theorem dgX7_stepTo_2 : ∀ r ∈ ([(129, (.iinc 7 1, 3)), (132, (.goto (-44), 3)), (135, (.iinc 5 1, 3)), (138, (.goto (-80), 3)), (141, (.iinc 3 1, 3)), (144, (.goto (-135), 3)), (147, (.aload_n 0, 1)), (148, (.getfield 19, 3)), (151, (.astore_n 3, 1)), (152, (.aload_n 0, 1)), (153, (.aload_n 0, 1)), (154, (.getfield 22, 3)), (157, (.putfield 19, 3)), (160, (.aload_n 0, 1)), (161, (.aload_n 3, 1)), (162, (.putfield 22, 3)), (165, (.return_, 1))] : List (Nat × (Instr × Nat))), decode cX7_stepTo r.1 = .ok r.2 := by decide +kernel
theorem dX7_stepTo_129 : decode cX7_stepTo 129 = .ok (.iinc 7 1, 3) := dgX7_stepTo_2 (129, (.iinc 7 1, 3)) (List.mem_of_getElem? (i := 0) rfl)
theorem dX7_stepTo_132 : decode cX7_stepTo 132 = .ok (.goto (-44), 3) := dgX7_stepTo_2 (132, (.goto (-44), 3)) (List.mem_of_getElem? (i := 1) rfl)
theorem dX7_stepTo_135 : decode cX7_stepTo 135 = .ok (.iinc 5 1, 3) := dgX7_stepTo_2 (135, (.iinc 5 1, 3)) (List.mem_of_getElem? (i := 2) rfl)
theorem dX7_stepTo_138 : decode cX7_stepTo 138 = .ok (.goto (-80), 3) := dgX7_stepTo_2 (138, (.goto (-80), 3)) (List.mem_of_getElem? (i := 3) rfl)
theorem dX7_stepTo_141 : decode cX7_stepTo 141 = .ok (.iinc 3 1, 3) := dgX7_stepTo_2 (141, (.iinc 3 1, 3)) (List.mem_of_getElem? (i := 4) rfl)
theorem dX7_stepTo_144 : decode cX7_stepTo 144 = .ok (.goto (-135), 3) := dgX7_stepTo_2 (144, (.goto (-135), 3)) (List.mem_of_getElem? (i := 5) rfl)
theorem dX7_stepTo_147 : decode cX7_stepTo 147 = .ok (.aload_n 0, 1) := dgX7_stepTo_2 (147, (.aload_n 0, 1)) (List.mem_of_getElem? (i := 6) rfl)
theorem dX7_stepTo_148 : decode cX7_stepTo 148 = .ok (.getfield 19, 3) := dgX7_stepTo_2 (148, (.getfield 19, 3)) (List.mem_of_getElem? (i := 7) rfl)
theorem dX7_stepTo_151 : decode cX7_stepTo 151 = .ok (.astore_n 3, 1) := dgX7_stepTo_2 (151, (.astore_n 3, 1)) (List.mem_of_getElem? (i := 8) rfl)
theorem dX7_stepTo_152 : decode cX7_stepTo 152 = .ok (.aload_n 0, 1) := dgX7_stepTo_2 (152, (.aload_n 0, 1)) (List.mem_of_getElem? (i := 9) rfl)
theorem dX7_stepTo_153 : decode cX7_stepTo 153 = .ok (.aload_n 0, 1) := dgX7_stepTo_2 (153, (.aload_n 0, 1)) (List.mem_of_getElem? (i := 10) rfl)
theorem dX7_stepTo_154 : decode cX7_stepTo 154 = .ok (.getfield 22, 3) := dgX7_stepTo_2 (154, (.getfield 22, 3)) (List.mem_of_getElem? (i := 11) rfl)
theorem dX7_stepTo_157 : decode cX7_stepTo 157 = .ok (.putfield 19, 3) := dgX7_stepTo_2 (157, (.putfield 19, 3)) (List.mem_of_getElem? (i := 12) rfl)
theorem dX7_stepTo_160 : decode cX7_stepTo 160 = .ok (.aload_n 0, 1) := dgX7_stepTo_2 (160, (.aload_n 0, 1)) (List.mem_of_getElem? (i := 13) rfl)
theorem dX7_stepTo_161 : decode cX7_stepTo 161 = .ok (.aload_n 3, 1) := dgX7_stepTo_2 (161, (.aload_n 3, 1)) (List.mem_of_getElem? (i := 14) rfl)
theorem dX7_stepTo_162 : decode cX7_stepTo 162 = .ok (.putfield 22, 3) := dgX7_stepTo_2 (162, (.putfield 22, 3)) (List.mem_of_getElem? (i := 15) rfl)
theorem dX7_stepTo_165 : decode cX7_stepTo 165 = .ok (.return_, 1) := dgX7_stepTo_2 (165, (.return_, 1)) (List.mem_of_getElem? (i := 16) rfl)
theorem fl_X7_19 : Cond.fieldLink RX7 19 "LateGlass$Thief" "counts" "[J" ∈ tblG := tg 323 (by decide +kernel) (by decide +kernel)
theorem fl_X7_22 : Cond.fieldLink RX7 22 "LateGlass$Thief" "nextCounts" "[J" ∈ tblG := tg 324 (by decide +kernel) (by decide +kernel)
set_option maxHeartbeats 4000000 in
set_option maxRecDepth 100000 in
theorem th_step (l : Launch) (G : g5_G) (a_th a_ba a_ad a_cn a_nx a_h a_k a_hp a_hl a_lv : Nat) (sz : Nat) (e_fu : Int32) (p_h : Int32) (f_ba : Nat → Int64) (f_ad : Nat → Int32) (f_cn : Nat → Int64) (f_nx : Nat → Int64) (h_p_h : 1 ≤ p_h.toInt ∧ p_h.toInt ≤ 23) (e_tk : TOK e_fu f_ad) : Met l yX7_stepTo (wsG yX7_stepTo cX7_stepTo 8 none) ({ frames := 1, cells := 0, slots := 0, locals := 22 }) (va_Pc [.ref a_th, .int p_h] (g5_P G [(a_th, (oc7 a_h a_k a_ba a_ad e_fu a_cn a_nx a_hp a_hl a_lv)), (a_ba, (arJ G 24 f_ba)), (a_ad, (arI G 1536 f_ad)), (a_cn, (arJ G 2048 f_cn)), (a_nx, (arJ G 2048 f_nx))] sz)) (va_Qv (fun (u : va_W) => (∃ (o_f : Nat → Int64), (u = [(a_th, (oc7 a_h a_k a_ba a_ad e_fu a_nx a_cn a_hp a_hl a_lv)), (a_ba, (arJ G 24 f_ba)), (a_ad, (arI G 1536 f_ad)), (a_cn, (arJ G 2048 f_cn)), (a_nx, (arJ G 2048 o_f))]))) (g5_B G (va_A [(a_th, (oc7 a_h a_k a_ba a_ad e_fu a_cn a_nx a_hp a_hl a_lv)), (a_ba, (arJ G 24 f_ba)), (a_ad, (arI G 1536 f_ad)), (a_cn, (arJ G 2048 f_cn)), (a_nx, (arJ G 2048 f_nx))] sz)) (va_A [(a_th, (oc7 a_h a_k a_ba a_ad e_fu a_cn a_nx a_hp a_hl a_lv)), (a_ba, (arJ G 24 f_ba)), (a_ad, (arI G 1536 f_ad)), (a_cn, (arJ G 2048 f_cn)), (a_nx, (arJ G 2048 f_nx))] sz)) 0 0 (va_A [(a_th, (oc7 a_h a_k a_ba a_ad e_fu a_cn a_nx a_hp a_hl a_lv)), (a_ba, (arJ G 24 f_ba)), (a_ad, (arI G 1536 f_ad)), (a_cn, (arJ G 2048 f_cn)), (a_nx, (arJ G 2048 f_nx))] sz) := by
  refine Met.ofW (cc := cX7_stepTo) (maxL := 8) (ret := none) (by decide) rfl ?_
  intro p e s m args below meth c s₁ B hml hv
  obtain ⟨rfl, hsz, hP, hK, hD0, hN, hT⟩ := hv
  have hx := B.exec
  have hb := B.bytes
  have hr := B.returns
  have hts : ∀ w ∈ tblG, w.before _ s = true := fun w h => atoms_spec (ws := (wsG yX7_stepTo cX7_stepTo 8 none)) B.pre w (List.mem_cons_of_mem _ h)
  have hown : s.vm.findClass RX7 = some m.cls := findClass_of_methodNamed B.named
  have hlocks := B.notSynchronized
  subst hsz
  have hD := hD0.self (sz := s.heap.size)
  generalize hAe : va_A [(a_th, (oc7 a_h a_k a_ba a_ad e_fu a_cn a_nx a_hp a_hl a_lv)), (a_ba, (arJ G 24 f_ba)), (a_ad, (arI G 1536 f_ad)), (a_cn, (arJ G 2048 f_cn)), (a_nx, (arJ G 2048 f_nx))] s.heap.size = A at hD hT ⊢
  have hA : ∀ q : Nat, s.heap.size ≤ q → A q := fun q h => by rw [← hAe]; exact Or.inr h
  have hS : va_S A s.heap s.heap [] := va_S.rf
  have hP : va_P G.1 vwCl [(a_th, (oc7 a_h a_k a_ba a_ad e_fu a_cn a_nx a_hp a_hl a_lv)), (a_ba, (arJ G 24 f_ba)), (a_ad, (arI G 1536 f_ad)), (a_cn, (arJ G 2048 f_cn)), (a_nx, (arJ G 2048 f_nx))] s.heap := hP
  have hl := lv_entry ([.ref a_th, .int p_h]) (n := 8) (Nat.le_of_ble_eq_true rfl)
  rw [lg_entry_eq]
  generalize (lg_sl ([.ref a_th, .int p_h]) ++ List.replicate (8 - (lg_sl ([.ref a_th, .int p_h])).length) Slot.unset).toArray = ls at hl ⊢
  have hl : lv_has ls 8 [(0, .ref a_th), (1, .int p_h)] := hl
  have hfu := tk_fu e_tk
  refine lv_aload_n hx hb dX7_stepTo_0 rfl (lv_at hl 0 rfl) ?_
  refine va_get (D := G.1) (ci := 7) (v := .int e_fu) (C := RX7) (T := TX7) (N := 10) hx hb hts inG_X7 hown hK hP 0 rfl rfl 4 (by decide) (hts _ fl_X7_89) (fun _ h9 => h9) rfl dX7_stepTo_1 ?_
  refine lv_iconst (v := 1) hx hb dX7_stepTo_4 (by decide) ?_
  refine lv_iadd hx hb dX7_stepTo_5 ?_
  have t_1 : (e_fu + 1).toInt = e_fu.toInt + 1 := g5_iadd (a := e_fu.toInt) (b := 1) (by rfl) (by decide) (by omega) (by omega)
  refine lv_istore_n (lv' := [(2, .int (e_fu + 1)), (0, .ref a_th), (1, .int p_h)]) hx hb dX7_stepTo_6 rfl hl (by decide) rfl (fun ls hl => ?_)
  refine lv_iconst (v := 0) hx hb dX7_stepTo_7 (by decide) ?_
  refine lv_istore_n (lv' := [(3, .int 0), (2, .int (e_fu + 1)), (0, .ref a_th), (1, .int p_h)]) hx hb dX7_stepTo_8 rfl hl (by decide) rfl (fun ls hl => ?_)
  refine g5_loop (α := (Int32) × (Nat → Int64)) (fun (q : (Int32) × (Nat → Int64)) (ls : Array Slot) (H : Heap) (locs : List Loc) => match q with | (k_c, k_f) => lv_has ls 8 [(3, .int k_c), (2, .int (e_fu + 1)), (0, .ref a_th), (1, .int p_h)] ∧ va_P G.1 vwCl [(a_th, (oc7 a_h a_k a_ba a_ad e_fu a_cn a_nx a_hp a_hl a_lv)), (a_ba, (arJ G 24 f_ba)), (a_ad, (arI G 1536 f_ad)), (a_cn, (arJ G 2048 f_cn)), (a_nx, (arJ G 2048 k_f))] H ∧ va_D A [(a_th, (oc7 a_h a_k a_ba a_ad e_fu a_cn a_nx a_hp a_hl a_lv)), (a_ba, (arJ G 24 f_ba)), (a_ad, (arI G 1536 f_ad)), (a_cn, (arJ G 2048 f_cn)), (a_nx, (arJ G 2048 k_f))] ∧ va_S A s.heap H locs ∧ (0 ≤ k_c.toInt ∧ k_c.toInt ≤ 64)) (fun (q : (Int32) × (Nat → Int64)) => match q with | (k_c, k_f) => Int.toNat (64 - k_c.toInt)) (0, f_nx) ⟨lv_sub hl [0, 1, 2, 3] rfl, hP, hD, hS, ⟨by decide, by decide⟩⟩ ?_
  rintro ⟨k_c, k_f⟩ ls H locs ⟨hl, hP, hD, hS, i_2⟩ ih_9_3
  have hl : lv_has ls 8 [(3, .int k_c), (2, .int (e_fu + 1)), (0, .ref a_th), (1, .int p_h)] := hl
  have i_2 : 0 ≤ k_c.toInt ∧ k_c.toInt ≤ 64 := i_2
  refine g5_rs [(a_th, (oc7 a_h a_k a_ba a_ad e_fu a_cn a_nx a_hp a_hl a_lv)), (a_ba, (arJ G 24 f_ba)), (a_ad, (arI G 1536 f_ad)), (a_cn, (arJ G 2048 f_cn)), (a_nx, (arJ G 2048 k_f))] hP hD (fun hP hD => ?_)
  refine lv_iload_n hx hb dX7_stepTo_9 rfl (lv_at hl 0 rfl) ?_
  refine lv_bipush (v := 64) hx hb dX7_stepTo_10 (by decide) ?_
  refine lv_icmp_ge (tgt := 147) hx hb dX7_stepTo_12 (by decide) (fun c_4 => ?_) (fun c_4 => ?_)
  ·
    have i_4 : k_c.toInt ≥ 64 := by have z := g5_ge (a := k_c.toInt) (b := 64) (by rfl) (by decide) c_4; omega
    refine lv_aload_n hx hb dX7_stepTo_147 rfl (lv_at hl 2 rfl) ?_
    refine va_get (D := G.1) (ci := 7) (v := .ref a_cn) (C := RX7) (T := TX7) (N := 10) hx hb hts inG_X7 hown hK hP 0 rfl rfl 5 (by decide) (hts _ fl_X7_19) (fun _ h9 => h9) rfl dX7_stepTo_148 ?_
    refine lv_astore_n (lv' := [(3, .ref a_cn), (2, .int (e_fu + 1)), (0, .ref a_th), (1, .int p_h)]) hx hb dX7_stepTo_151 rfl hl (by decide) rfl (fun ls hl => ?_)
    refine lv_aload_n hx hb dX7_stepTo_152 rfl (lv_at hl 2 rfl) ?_
    refine lv_aload_n hx hb dX7_stepTo_153 rfl (lv_at hl 2 rfl) ?_
    refine va_get (D := G.1) (ci := 7) (v := .ref a_nx) (C := RX7) (T := TX7) (N := 10) hx hb hts inG_X7 hown hK hP 0 rfl rfl 6 (by decide) (hts _ fl_X7_22) (fun _ h9 => h9) rfl dX7_stepTo_154 ?_
    refine va_put (D := G.1) (ci := 7) (v := .ref a_nx) (ty := .array .long) (C := RX7) (T := TX7) (N := 10) hx hb hts inG_X7 tyX7 tyX7_ok nmX7 hown hK hP hD hS 0 rfl rfl 5 (by decide) (hts _ fl_X7_19) (fun _ h9 => h9) rfl (by decide +kernel) rfl rfl (Nat.le_of_ble_eq_true rfl) dX7_stepTo_157 (fun H locs hP hD hS => ?_)
    refine g5_rs [(a_th, (oc7 a_h a_k a_ba a_ad e_fu a_nx a_nx a_hp a_hl a_lv)), (a_ba, (arJ G 24 f_ba)), (a_ad, (arI G 1536 f_ad)), (a_cn, (arJ G 2048 f_cn)), (a_nx, (arJ G 2048 k_f))] hP hD (fun hP hD => ?_)
    refine lv_aload_n hx hb dX7_stepTo_160 rfl (lv_at hl 2 rfl) ?_
    refine lv_aload_n hx hb dX7_stepTo_161 rfl (lv_at hl 0 rfl) ?_
    refine va_put (D := G.1) (ci := 7) (v := .ref a_cn) (ty := .array .long) (C := RX7) (T := TX7) (N := 10) hx hb hts inG_X7 tyX7 tyX7_ok nmX7 hown hK hP hD hS 0 rfl rfl 6 (by decide) (hts _ fl_X7_22) (fun _ h9 => h9) rfl (by decide +kernel) rfl rfl (Nat.le_of_ble_eq_true rfl) dX7_stepTo_162 (fun H locs hP hD hS => ?_)
    refine g5_rs [(a_th, (oc7 a_h a_k a_ba a_ad e_fu a_nx a_cn a_hp a_hl a_lv)), (a_ba, (arJ G 24 f_ba)), (a_ad, (arI G 1536 f_ad)), (a_cn, (arJ G 2048 f_cn)), (a_nx, (arJ G 2048 k_f))] hP hD (fun hP hD => ?_)
    exact W.vret hx hb hr (fun t ht hW => ⟨⟨[(a_th, (oc7 a_h a_k a_ba a_ad e_fu a_nx a_cn a_hp a_hl a_lv)), (a_ba, (arJ G 24 f_ba)), (a_ad, (arI G 1536 f_ad)), (a_cn, (arJ G 2048 f_cn)), (a_nx, (arJ G 2048 k_f))], rfl, ⟨k_f, rfl⟩, by rw [ht]; exact hP.sub [0, 1, 2, 3, 4] rfl, hD.sub [0, 1, 2, 3, 4] (by decide) rfl⟩, hS.F ht⟩) hS.2.2 dX7_stepTo_165
  ·
    have i_4 : k_c.toInt < 64 := by have z := g5_geN (a := k_c.toInt) (b := 64) (by rfl) (by decide) c_4; omega
    refine lv_iconst (v := 0) hx hb dX7_stepTo_15 (by decide) ?_
    refine lv_istore (lv' := [(4, .int 0), (3, .int k_c), (2, .int (e_fu + 1)), (0, .ref a_th), (1, .int p_h)]) hx hb dX7_stepTo_16 hl (by decide) rfl (fun ls hl => ?_)
    refine g5_loop (α := (Int32) × (Nat → Int64)) (fun (q : (Int32) × (Nat → Int64)) (ls : Array Slot) (H : Heap) (locs : List Loc) => match q with | (m_m, m_f) => lv_has ls 8 [(4, .int m_m), (3, .int k_c), (2, .int (e_fu + 1)), (0, .ref a_th), (1, .int p_h)] ∧ va_P G.1 vwCl [(a_th, (oc7 a_h a_k a_ba a_ad e_fu a_cn a_nx a_hp a_hl a_lv)), (a_ba, (arJ G 24 f_ba)), (a_ad, (arI G 1536 f_ad)), (a_cn, (arJ G 2048 f_cn)), (a_nx, (arJ G 2048 m_f))] H ∧ va_D A [(a_th, (oc7 a_h a_k a_ba a_ad e_fu a_cn a_nx a_hp a_hl a_lv)), (a_ba, (arJ G 24 f_ba)), (a_ad, (arI G 1536 f_ad)), (a_cn, (arJ G 2048 f_cn)), (a_nx, (arJ G 2048 m_f))] ∧ va_S A s.heap H locs ∧ (0 ≤ m_m.toInt ∧ m_m.toInt ≤ 32)) (fun (q : (Int32) × (Nat → Int64)) => match q with | (m_m, m_f) => Int.toNat (32 - m_m.toInt)) (0, k_f) ⟨lv_sub hl [0, 1, 2, 3, 4] rfl, hP, hD, hS, ⟨by decide, by decide⟩⟩ ?_
    rintro ⟨m_m, m_f⟩ ls H locs ⟨hl, hP, hD, hS, i_5⟩ ih_18_6
    have hl : lv_has ls 8 [(4, .int m_m), (3, .int k_c), (2, .int (e_fu + 1)), (0, .ref a_th), (1, .int p_h)] := hl
    have i_5 : 0 ≤ m_m.toInt ∧ m_m.toInt ≤ 32 := i_5
    refine g5_rs [(a_th, (oc7 a_h a_k a_ba a_ad e_fu a_cn a_nx a_hp a_hl a_lv)), (a_ba, (arJ G 24 f_ba)), (a_ad, (arI G 1536 f_ad)), (a_cn, (arJ G 2048 f_cn)), (a_nx, (arJ G 2048 m_f))] hP hD (fun hP hD => ?_)
    refine lv_iload hx hb dX7_stepTo_18 (lv_at hl 0 rfl) ?_
    refine lv_iload_n hx hb dX7_stepTo_20 rfl (lv_at hl 2 rfl) ?_
    refine lv_icmp_ge (tgt := 42) hx hb dX7_stepTo_21 (by decide) (fun c_7 => ?_) (fun c_7 => ?_)
    ·
      have i_7 : m_m.toInt ≥ (e_fu.toInt + 1) := by have z := g5_ge (a := m_m.toInt) (b := (e_fu + 1).toInt) (by rfl) (by rfl) c_7; omega
      refine lv_aload_n hx hb dX7_stepTo_42 rfl (lv_at hl 3 rfl) ?_
      refine va_get (D := G.1) (ci := 7) (v := .ref a_ad) (C := RX7) (T := TX7) (N := 10) hx hb hts inG_X7 hown hK hP 0 rfl rfl 3 (by decide) (hts _ fl_X7_15) (fun _ h9 => h9) rfl dX7_stepTo_43 ?_
      refine lv_iload_n hx hb dX7_stepTo_46 rfl (lv_at hl 4 rfl) ?_
      refine lv_bipush (v := 64) hx hb dX7_stepTo_47 (by decide) ?_
      refine lv_imul hx hb dX7_stepTo_49 ?_
      have t_8 : (p_h * 64).toInt = p_h.toInt * 64 := g5_imul (a := p_h.toInt) (b := 64) (by rfl) (by decide) (by omega) (by omega)
      refine lv_iload_n hx hb dX7_stepTo_50 rfl (lv_at hl 1 rfl) ?_
      refine lv_iadd hx hb dX7_stepTo_51 ?_
      have t_9 : ((p_h * 64) + k_c).toInt = (p_h * 64).toInt + k_c.toInt := g5_iadd (a := (p_h * 64).toInt) (b := k_c.toInt) (by rfl) (by rfl) (by omega) (by omega)
      refine va_iald hx hb hK hP 2 0 rfl rfl (i := ((p_h * 64) + k_c)) (vp_in_iff.mpr ⟨by omega, by omega⟩) dX7_stepTo_52 ?_
      have hp_10 : 0 ≤ (f_ad ((p_h * 64) + k_c).toNatClampNeg).toInt ∧ (f_ad ((p_h * 64) + k_c).toNatClampNeg).toInt ≤ e_fu.toInt := tk_ad e_tk (by have zz := g5_clamp ((p_h * 64) + k_c); omega)
      refine lv_istore (lv' := [(4, .int (f_ad ((p_h * 64) + k_c).toNatClampNeg)), (3, .int k_c), (2, .int (e_fu + 1)), (0, .ref a_th), (1, .int p_h)]) hx hb dX7_stepTo_53 hl (by decide) rfl (fun ls hl => ?_)
      refine lv_iconst (v := 0) hx hb dX7_stepTo_55 (by decide) ?_
      refine lv_istore (lv' := [(5, .int 0), (4, .int (f_ad ((p_h * 64) + k_c).toNatClampNeg)), (3, .int k_c), (2, .int (e_fu + 1)), (0, .ref a_th), (1, .int p_h)]) hx hb dX7_stepTo_56 hl (by decide) rfl (fun ls hl => ?_)
      refine g5_loop (α := (Int32) × (Nat → Int64)) (fun (q : (Int32) × (Nat → Int64)) (ls : Array Slot) (H : Heap) (locs : List Loc) => match q with | (n_w, n_f) => lv_has ls 8 [(5, .int n_w), (4, .int (f_ad ((p_h * 64) + k_c).toNatClampNeg)), (3, .int k_c), (2, .int (e_fu + 1)), (0, .ref a_th), (1, .int p_h)] ∧ va_P G.1 vwCl [(a_th, (oc7 a_h a_k a_ba a_ad e_fu a_cn a_nx a_hp a_hl a_lv)), (a_ba, (arJ G 24 f_ba)), (a_ad, (arI G 1536 f_ad)), (a_cn, (arJ G 2048 f_cn)), (a_nx, (arJ G 2048 n_f))] H ∧ va_D A [(a_th, (oc7 a_h a_k a_ba a_ad e_fu a_cn a_nx a_hp a_hl a_lv)), (a_ba, (arJ G 24 f_ba)), (a_ad, (arI G 1536 f_ad)), (a_cn, (arJ G 2048 f_cn)), (a_nx, (arJ G 2048 n_f))] ∧ va_S A s.heap H locs ∧ (0 ≤ n_w.toInt ∧ n_w.toInt ≤ 5)) (fun (q : (Int32) × (Nat → Int64)) => match q with | (n_w, n_f) => Int.toNat (5 - n_w.toInt)) (0, m_f) ⟨lv_sub hl [0, 1, 2, 3, 4, 5] rfl, hP, hD, hS, ⟨by decide, by decide⟩⟩ ?_
      rintro ⟨n_w, n_f⟩ ls H locs ⟨hl, hP, hD, hS, i_11⟩ ih_58_12
      have hl : lv_has ls 8 [(5, .int n_w), (4, .int (f_ad ((p_h * 64) + k_c).toNatClampNeg)), (3, .int k_c), (2, .int (e_fu + 1)), (0, .ref a_th), (1, .int p_h)] := hl
      have i_11 : 0 ≤ n_w.toInt ∧ n_w.toInt ≤ 5 := i_11
      refine g5_rs [(a_th, (oc7 a_h a_k a_ba a_ad e_fu a_cn a_nx a_hp a_hl a_lv)), (a_ba, (arJ G 24 f_ba)), (a_ad, (arI G 1536 f_ad)), (a_cn, (arJ G 2048 f_cn)), (a_nx, (arJ G 2048 n_f))] hP hD (fun hP hD => ?_)
      refine lv_iload hx hb dX7_stepTo_58 (lv_at hl 0 rfl) ?_
      refine lv_iconst (v := 4) hx hb dX7_stepTo_60 (by decide) ?_
      refine lv_icmp_gt (tgt := 141) hx hb dX7_stepTo_61 (by decide) (fun c_13 => ?_) (fun c_13 => ?_)
      ·
        have i_13 : n_w.toInt > 4 := by have z := g5_gt (a := n_w.toInt) (b := 4) (by rfl) (by decide) c_13; omega
        refine lv_iinc (v := (k_c + 1)) (lv' := [(3, .int (k_c + 1)), (5, .int n_w), (4, .int (f_ad ((p_h * 64) + k_c).toNatClampNeg)), (2, .int (e_fu + 1)), (0, .ref a_th), (1, .int p_h)]) hx hb dX7_stepTo_141 hl (k := 2) rfl rfl (by decide) rfl (fun ls hl => ?_)
        have t_14 : (k_c + 1).toInt = k_c.toInt + 1 := g5_iadd (a := k_c.toInt) (b := 1) rfl (by decide) (by omega) (by omega)
        refine lv_goto (tgt := 9) hx hb dX7_stepTo_144 (by decide) ?_
        exact ih_9_3 ((k_c + 1), n_f) ls H locs (show Int.toNat (64 - (k_c + 1).toInt) < Int.toNat (64 - k_c.toInt) from g_up (show k_c.toInt < (k_c + 1).toInt by omega) (show k_c.toInt < 64 by omega)) ⟨lv_sub hl [0, 3, 4, 5] rfl, hP, hD, hS, ⟨by omega, by omega⟩⟩
      ·
        have i_13 : n_w.toInt ≤ 4 := by have z := g5_gtN (a := n_w.toInt) (b := 4) (by rfl) (by decide) c_13; omega
        refine lv_aload_n hx hb dX7_stepTo_64 rfl (lv_at hl 4 rfl) ?_
        refine va_get (D := G.1) (ci := 7) (v := .ref a_ba) (C := RX7) (T := TX7) (N := 10) hx hb hts inG_X7 hown hK hP 0 rfl rfl 2 (by decide) (hts _ fl_X7_9) (fun _ h9 => h9) rfl dX7_stepTo_65 ?_
        refine lv_iload_n hx hb dX7_stepTo_68 rfl (lv_at hl 5 rfl) ?_
        refine va_lald hx hb hK hP 1 1 rfl rfl (i := p_h) (vp_in_iff.mpr ⟨by omega, by omega⟩) dX7_stepTo_69 ?_
        refine lv_iload_n hx hb dX7_stepTo_70 rfl (lv_at hl 2 rfl) ?_
        obtain ⟨hPc, hDc, hFc⟩ := g5_sub3 (wc := []) hP hD hS hA [] (by decide) rfl
        refine va_calli (va_runSN (As := [.long (f_ba p_h.toNatClampNeg), .int k_c]) (rest := []) ⟨hx, hb, hml, hown, hts⟩ (k_isOn l G H.size k_c (f_ba p_h.toNatClampNeg) ⟨by omega, by omega⟩) ⟨va_cnB 2 hts gW_X11_isOn rfl rfl rfl (hN.1 _ g5_nw_X7_98) (hts _ ini_X11) hs_X11_isOn ⟨Nat.le_of_ble_eq_true rfl, Nat.le_of_ble_eq_true rfl⟩, hts _ st_X11_isOn, trivial⟩ (g5_preS hPc hK hDc hN hT hS hFc) rfl rfl hl.1 rfl (lv_room (Nat.le_of_ble_eq_true rfl)) dX7_stepTo_71 ⟨Nat.le_of_ble_eq_true rfl, Nat.le_of_ble_eq_true rfl⟩) hS (fun q _ h => hFc q h) hFc (fun r u t H1 locs ht hvm hw hB hz1 hk1 hS => ?_)
        obtain ⟨hP1, hD1⟩ := hB
        rw [ht] at hP1
        rcases hw with ⟨i_15, rfl, rfl⟩ | ⟨i_16, rfl, rfl⟩
        ·
          have i_15 : onB (f_ba p_h.toNatClampNeg) k_c.toInt = false := i_15
          have hP := g5_same hP hk1
          generalize H1 = H at hP hS ⊢
          refine lv_if_ne (tgt := 141) hx hb dX7_stepTo_74 (by decide) (fun c_17 => ?_) (fun c_17 => ?_)
          ·
            exact absurd c_17 (by decide)
          ·
            refine lv_iload_n hx hb dX7_stepTo_77 rfl (lv_at hl 2 rfl) ?_
            refine lv_iload hx hb dX7_stepTo_78 (lv_at hl 0 rfl) ?_
            obtain ⟨hPc, hDc, hFc⟩ := g5_sub3 (wc := []) hP hD hS hA [] (by decide) rfl
            refine va_calli (va_runSN (As := [.int k_c, .int n_w]) (rest := []) ⟨hx, hb, hml, hown, hts⟩ (k_beside l G H.size k_c n_w ⟨by omega, by omega⟩) ⟨va_cnB 2 hts gW_X11_beside rfl rfl rfl (hN.1 _ g5_nw_X7_105) (hts _ ini_X11) hs_X11_beside ⟨Nat.le_of_ble_eq_true rfl, Nat.le_of_ble_eq_true rfl⟩, hts _ st_X11_beside, trivial⟩ (g5_preS hPc hK hDc hN hT hS hFc) rfl rfl hl.1 rfl (lv_room (Nat.le_of_ble_eq_true rfl)) dX7_stepTo_80 ⟨Nat.le_of_ble_eq_true rfl, Nat.le_of_ble_eq_true rfl⟩) hS (fun q _ h => hFc q h) hFc (fun r u t H1 locs ht hvm hw hB hz1 hk1 hS => ?_)
            obtain ⟨hP1, hD1⟩ := hB
            rw [ht] at hP1
            obtain ⟨z20, i_18, i_19, y21, rfl⟩ := hw
            have i_18 : z20.toInt = bs k_c.toInt n_w.toInt := i_18
            have i_19 : -1 ≤ z20.toInt ∧ z20.toInt ≤ 63 := i_19
            have hP := g5_same hP hk1
            generalize H1 = H at hP hS ⊢
            refine g5_ti (v := z20) y21 ?_
            refine lv_istore (lv' := [(6, .int z20), (5, .int n_w), (4, .int (f_ad ((p_h * 64) + k_c).toNatClampNeg)), (3, .int k_c), (2, .int (e_fu + 1)), (0, .ref a_th), (1, .int p_h)]) hx hb dX7_stepTo_83 hl (by decide) rfl (fun ls hl => ?_)
            refine lv_iconst (v := 0) hx hb dX7_stepTo_85 (by decide) ?_
            refine lv_istore (lv' := [(7, .int 0), (6, .int z20), (5, .int n_w), (4, .int (f_ad ((p_h * 64) + k_c).toNatClampNeg)), (3, .int k_c), (2, .int (e_fu + 1)), (0, .ref a_th), (1, .int p_h)]) hx hb dX7_stepTo_86 hl (by decide) rfl (fun ls hl => ?_)
            refine g5_loop (α := (Int32) × (Nat → Int64)) (fun (q : (Int32) × (Nat → Int64)) (ls : Array Slot) (H : Heap) (locs : List Loc) => match q with | (q_m, q_f) => lv_has ls 8 [(7, .int q_m), (6, .int z20), (5, .int n_w), (4, .int (f_ad ((p_h * 64) + k_c).toNatClampNeg)), (3, .int k_c), (2, .int (e_fu + 1)), (0, .ref a_th), (1, .int p_h)] ∧ va_P G.1 vwCl [(a_th, (oc7 a_h a_k a_ba a_ad e_fu a_cn a_nx a_hp a_hl a_lv)), (a_ba, (arJ G 24 f_ba)), (a_ad, (arI G 1536 f_ad)), (a_cn, (arJ G 2048 f_cn)), (a_nx, (arJ G 2048 q_f))] H ∧ va_D A [(a_th, (oc7 a_h a_k a_ba a_ad e_fu a_cn a_nx a_hp a_hl a_lv)), (a_ba, (arJ G 24 f_ba)), (a_ad, (arI G 1536 f_ad)), (a_cn, (arJ G 2048 f_cn)), (a_nx, (arJ G 2048 q_f))] ∧ va_S A s.heap H locs ∧ (0 ≤ q_m.toInt ∧ q_m.toInt ≤ 32)) (fun (q : (Int32) × (Nat → Int64)) => match q with | (q_m, q_f) => Int.toNat (32 - q_m.toInt)) (0, n_f) ⟨lv_sub hl [0, 1, 2, 3, 4, 5, 6, 7] rfl, hP, hD, hS, ⟨by decide, by decide⟩⟩ ?_
            rintro ⟨q_m, q_f⟩ ls H locs ⟨hl, hP, hD, hS, i_22⟩ ih_88_23
            have hl : lv_has ls 8 [(7, .int q_m), (6, .int z20), (5, .int n_w), (4, .int (f_ad ((p_h * 64) + k_c).toNatClampNeg)), (3, .int k_c), (2, .int (e_fu + 1)), (0, .ref a_th), (1, .int p_h)] := hl
            have i_22 : 0 ≤ q_m.toInt ∧ q_m.toInt ≤ 32 := i_22
            refine g5_rs [(a_th, (oc7 a_h a_k a_ba a_ad e_fu a_cn a_nx a_hp a_hl a_lv)), (a_ba, (arJ G 24 f_ba)), (a_ad, (arI G 1536 f_ad)), (a_cn, (arJ G 2048 f_cn)), (a_nx, (arJ G 2048 q_f))] hP hD (fun hP hD => ?_)
            refine lv_iload hx hb dX7_stepTo_88 (lv_at hl 0 rfl) ?_
            refine lv_iload_n hx hb dX7_stepTo_90 rfl (lv_at hl 5 rfl) ?_
            refine lv_icmp_ge (tgt := 135) hx hb dX7_stepTo_91 (by decide) (fun c_24 => ?_) (fun c_24 => ?_)
            ·
              have i_24 : q_m.toInt ≥ (e_fu.toInt + 1) := by have z := g5_ge (a := q_m.toInt) (b := (e_fu + 1).toInt) (by rfl) (by rfl) c_24; omega
              refine lv_iinc (v := (n_w + 1)) (lv' := [(5, .int (n_w + 1)), (7, .int q_m), (6, .int z20), (4, .int (f_ad ((p_h * 64) + k_c).toNatClampNeg)), (3, .int k_c), (2, .int (e_fu + 1)), (0, .ref a_th), (1, .int p_h)]) hx hb dX7_stepTo_135 hl (k := 2) rfl rfl (by decide) rfl (fun ls hl => ?_)
              have t_25 : (n_w + 1).toInt = n_w.toInt + 1 := g5_iadd (a := n_w.toInt) (b := 1) rfl (by decide) (by omega) (by omega)
              refine lv_goto (tgt := 58) hx hb dX7_stepTo_138 (by decide) ?_
              exact ih_58_12 ((n_w + 1), q_f) ls H locs (show Int.toNat (5 - (n_w + 1).toInt) < Int.toNat (5 - n_w.toInt) from g_up (show n_w.toInt < (n_w + 1).toInt by omega) (show n_w.toInt < 5 by omega)) ⟨lv_sub hl [0, 3, 4, 5, 6, 7] rfl, hP, hD, hS, ⟨by omega, by omega⟩⟩
            ·
              have i_24 : q_m.toInt < (e_fu.toInt + 1) := by have z := g5_geN (a := q_m.toInt) (b := (e_fu + 1).toInt) (by rfl) (by rfl) c_24; omega
              refine lv_iload hx hb dX7_stepTo_94 (lv_at hl 1 rfl) ?_
              refine lv_iconst (v := (-1)) hx hb dX7_stepTo_96 (by decide) ?_
              refine lv_icmp_eq (tgt := 135) hx hb dX7_stepTo_97 (by decide) (fun c_26 => ?_) (fun c_26 => ?_)
              ·
                have i_26 : z20.toInt = (-1) := by have z := g5_eq (a := z20.toInt) (b := (-1)) (by rfl) (by decide) c_26; omega
                refine lv_iinc (v := (n_w + 1)) (lv' := [(5, .int (n_w + 1)), (7, .int q_m), (6, .int z20), (4, .int (f_ad ((p_h * 64) + k_c).toNatClampNeg)), (3, .int k_c), (2, .int (e_fu + 1)), (0, .ref a_th), (1, .int p_h)]) hx hb dX7_stepTo_135 hl (k := 2) rfl rfl (by decide) rfl (fun ls hl => ?_)
                have t_27 : (n_w + 1).toInt = n_w.toInt + 1 := g5_iadd (a := n_w.toInt) (b := 1) rfl (by decide) (by omega) (by omega)
                refine lv_goto (tgt := 58) hx hb dX7_stepTo_138 (by decide) ?_
                exact ih_58_12 ((n_w + 1), q_f) ls H locs (show Int.toNat (5 - (n_w + 1).toInt) < Int.toNat (5 - n_w.toInt) from g_up (show n_w.toInt < (n_w + 1).toInt by omega) (show n_w.toInt < 5 by omega)) ⟨lv_sub hl [0, 3, 4, 5, 6, 7] rfl, hP, hD, hS, ⟨by omega, by omega⟩⟩
              ·
                have n_26 : gNe (z20.toInt) ((-1)) := by have z := g5_eqN (a := z20.toInt) (b := (-1)) (by rfl) (by decide) c_26; unfold gNe; omega
                have i_26 : z20.toInt ≥ 0 := by have z := g5_eqN (a := z20.toInt) (b := (-1)) (by rfl) (by decide) c_26; omega
                refine lv_aload_n hx hb dX7_stepTo_100 rfl (lv_at hl 6 rfl) ?_
                refine va_get (D := G.1) (ci := 7) (v := .ref a_nx) (C := RX7) (T := TX7) (N := 10) hx hb hts inG_X7 hown hK hP 0 rfl rfl 6 (by decide) (hts _ fl_X7_22) (fun _ h9 => h9) rfl dX7_stepTo_101 ?_
                refine lv_iload_n hx hb dX7_stepTo_104 rfl (lv_at hl 4 rfl) ?_
                refine lv_iload_n hx hb dX7_stepTo_105 rfl (lv_at hl 5 rfl) ?_
                refine lv_imul hx hb dX7_stepTo_106 ?_
                have hm_28 := g_mulc (c := k_c) (m := (e_fu + 1)) ⟨by omega, by omega⟩ ⟨by omega, by omega⟩
                refine lv_iload hx hb dX7_stepTo_107 (lv_at hl 0 rfl) ?_
                refine lv_iload hx hb dX7_stepTo_109 (lv_at hl 3 rfl) ?_
                refine lv_ior hx hb dX7_stepTo_111 ?_
                have ho_29 : 0 ≤ (q_m ||| (f_ad ((p_h * 64) + k_c).toNatClampNeg)).toInt ∧ (q_m ||| (f_ad ((p_h * 64) + k_c).toNatClampNeg)).toInt ≤ e_fu.toInt := tk_or e_tk ⟨by omega, by omega⟩ ⟨by omega, by omega⟩
                refine lv_iadd hx hb dX7_stepTo_112 ?_
                have t_30 : ((k_c * (e_fu + 1)) + (q_m ||| (f_ad ((p_h * 64) + k_c).toNatClampNeg))).toInt = (k_c * (e_fu + 1)).toInt + (q_m ||| (f_ad ((p_h * 64) + k_c).toNatClampNeg)).toInt := g5_iadd (a := (k_c * (e_fu + 1)).toInt) (b := (q_m ||| (f_ad ((p_h * 64) + k_c).toNatClampNeg)).toInt) (by rfl) (by rfl) (by omega) (by omega)
                refine lv_dup2_11 hx hb dX7_stepTo_113 rfl rfl ?_
                refine va_lald hx hb hK hP 4 1 rfl rfl (i := ((k_c * (e_fu + 1)) + (q_m ||| (f_ad ((p_h * 64) + k_c).toNatClampNeg)))) (vp_in_iff.mpr ⟨by omega, by omega⟩) dX7_stepTo_114 ?_
                refine lv_aload_n hx hb dX7_stepTo_115 rfl (lv_at hl 6 rfl) ?_
                refine va_get (D := G.1) (ci := 7) (v := .ref a_cn) (C := RX7) (T := TX7) (N := 10) hx hb hts inG_X7 hown hK hP 0 rfl rfl 5 (by decide) (hts _ fl_X7_19) (fun _ h9 => h9) rfl dX7_stepTo_116 ?_
                refine lv_iload hx hb dX7_stepTo_119 (lv_at hl 1 rfl) ?_
                refine lv_iload_n hx hb dX7_stepTo_121 rfl (lv_at hl 5 rfl) ?_
                refine lv_imul hx hb dX7_stepTo_122 ?_
                have hm_31 := g_mulc (c := z20) (m := (e_fu + 1)) ⟨by omega, by omega⟩ ⟨by omega, by omega⟩
                refine lv_iload hx hb dX7_stepTo_123 (lv_at hl 0 rfl) ?_
                refine lv_iadd hx hb dX7_stepTo_125 ?_
                have t_32 : ((z20 * (e_fu + 1)) + q_m).toInt = (z20 * (e_fu + 1)).toInt + q_m.toInt := g5_iadd (a := (z20 * (e_fu + 1)).toInt) (b := q_m.toInt) (by rfl) (by rfl) (by omega) (by omega)
                refine va_lald hx hb hK hP 3 1 rfl rfl (i := ((z20 * (e_fu + 1)) + q_m)) (vp_in_iff.mpr ⟨by omega, by omega⟩) dX7_stepTo_126 ?_
                refine lv_ladd hx hb dX7_stepTo_127 ?_
                refine va_last hx hb hK hP hD hS 4 1 rfl rfl (i := ((k_c * (e_fu + 1)) + (q_m ||| (f_ad ((p_h * 64) + k_c).toNatClampNeg)))) (x := ((q_f ((k_c * (e_fu + 1)) + (q_m ||| (f_ad ((p_h * 64) + k_c).toNatClampNeg))).toNatClampNeg) + (f_cn ((z20 * (e_fu + 1)) + q_m).toNatClampNeg))) (vp_in_iff.mpr ⟨by omega, by omega⟩) dX7_stepTo_128 (fun H locs hP hD hS => ?_)
                refine g5_rs [(a_th, (oc7 a_h a_k a_ba a_ad e_fu a_cn a_nx a_hp a_hl a_lv)), (a_ba, (arJ G 24 f_ba)), (a_ad, (arI G 1536 f_ad)), (a_cn, (arJ G 2048 f_cn)), (a_nx, (arJ G 2048 (vp_updL q_f ((k_c * (e_fu + 1)) + (q_m ||| (f_ad ((p_h * 64) + k_c).toNatClampNeg))).toNatClampNeg ((q_f ((k_c * (e_fu + 1)) + (q_m ||| (f_ad ((p_h * 64) + k_c).toNatClampNeg))).toNatClampNeg) + (f_cn ((z20 * (e_fu + 1)) + q_m).toNatClampNeg)))))] hP hD (fun hP hD => ?_)
                refine lv_iinc (v := (q_m + 1)) (lv' := [(7, .int (q_m + 1)), (6, .int z20), (5, .int n_w), (4, .int (f_ad ((p_h * 64) + k_c).toNatClampNeg)), (3, .int k_c), (2, .int (e_fu + 1)), (0, .ref a_th), (1, .int p_h)]) hx hb dX7_stepTo_129 hl (k := 0) rfl rfl (by decide) rfl (fun ls hl => ?_)
                have t_33 : (q_m + 1).toInt = q_m.toInt + 1 := g5_iadd (a := q_m.toInt) (b := 1) rfl (by decide) (by omega) (by omega)
                refine lv_goto (tgt := 88) hx hb dX7_stepTo_132 (by decide) ?_
                exact ih_88_23 ((q_m + 1), (vp_updL q_f ((k_c * (e_fu + 1)) + (q_m ||| (f_ad ((p_h * 64) + k_c).toNatClampNeg))).toNatClampNeg ((q_f ((k_c * (e_fu + 1)) + (q_m ||| (f_ad ((p_h * 64) + k_c).toNatClampNeg))).toNatClampNeg) + (f_cn ((z20 * (e_fu + 1)) + q_m).toNatClampNeg)))) ls H locs (show Int.toNat (32 - (q_m + 1).toInt) < Int.toNat (32 - q_m.toInt) from g_up (show q_m.toInt < (q_m + 1).toInt by omega) (show q_m.toInt < 32 by omega)) ⟨lv_sub hl [0, 1, 2, 3, 4, 5, 6, 7] rfl, hP, hD, hS, ⟨by omega, by omega⟩⟩
        ·
          have i_16 : onB (f_ba p_h.toNatClampNeg) k_c.toInt = true := i_16
          have hP := g5_same hP hk1
          generalize H1 = H at hP hS ⊢
          refine lv_if_ne (tgt := 141) hx hb dX7_stepTo_74 (by decide) (fun c_34 => ?_) (fun c_34 => ?_)
          ·
            refine lv_iinc (v := (k_c + 1)) (lv' := [(3, .int (k_c + 1)), (5, .int n_w), (4, .int (f_ad ((p_h * 64) + k_c).toNatClampNeg)), (2, .int (e_fu + 1)), (0, .ref a_th), (1, .int p_h)]) hx hb dX7_stepTo_141 hl (k := 2) rfl rfl (by decide) rfl (fun ls hl => ?_)
            have t_35 : (k_c + 1).toInt = k_c.toInt + 1 := g5_iadd (a := k_c.toInt) (b := 1) rfl (by decide) (by omega) (by omega)
            refine lv_goto (tgt := 9) hx hb dX7_stepTo_144 (by decide) ?_
            exact ih_9_3 ((k_c + 1), n_f) ls H locs (show Int.toNat (64 - (k_c + 1).toInt) < Int.toNat (64 - k_c.toInt) from g_up (show k_c.toInt < (k_c + 1).toInt by omega) (show k_c.toInt < 64 by omega)) ⟨lv_sub hl [0, 3, 4, 5] rfl, hP, hD, hS, ⟨by omega, by omega⟩⟩
          ·
            exact absurd c_34 (by decide)
    ·
      have i_7 : m_m.toInt < (e_fu.toInt + 1) := by have z := g5_geN (a := m_m.toInt) (b := (e_fu + 1).toInt) (by rfl) (by rfl) c_7; omega
      refine lv_aload_n hx hb dX7_stepTo_24 rfl (lv_at hl 3 rfl) ?_
      refine va_get (D := G.1) (ci := 7) (v := .ref a_nx) (C := RX7) (T := TX7) (N := 10) hx hb hts inG_X7 hown hK hP 0 rfl rfl 6 (by decide) (hts _ fl_X7_22) (fun _ h9 => h9) rfl dX7_stepTo_25 ?_
      refine lv_iload_n hx hb dX7_stepTo_28 rfl (lv_at hl 1 rfl) ?_
      refine lv_iload_n hx hb dX7_stepTo_29 rfl (lv_at hl 2 rfl) ?_
      refine lv_imul hx hb dX7_stepTo_30 ?_
      have hm_36 := g_mulc (c := k_c) (m := (e_fu + 1)) ⟨by omega, by omega⟩ ⟨by omega, by omega⟩
      refine lv_iload hx hb dX7_stepTo_31 (lv_at hl 0 rfl) ?_
      refine lv_iadd hx hb dX7_stepTo_33 ?_
      have t_37 : ((k_c * (e_fu + 1)) + m_m).toInt = (k_c * (e_fu + 1)).toInt + m_m.toInt := g5_iadd (a := (k_c * (e_fu + 1)).toInt) (b := m_m.toInt) (by rfl) (by rfl) (by omega) (by omega)
      refine lv_lconst (v := 0) hx hb dX7_stepTo_34 (by decide) ?_
      refine va_last hx hb hK hP hD hS 4 1 rfl rfl (i := ((k_c * (e_fu + 1)) + m_m)) (x := 0) (vp_in_iff.mpr ⟨by omega, by omega⟩) dX7_stepTo_35 (fun H locs hP hD hS => ?_)
      refine g5_rs [(a_th, (oc7 a_h a_k a_ba a_ad e_fu a_cn a_nx a_hp a_hl a_lv)), (a_ba, (arJ G 24 f_ba)), (a_ad, (arI G 1536 f_ad)), (a_cn, (arJ G 2048 f_cn)), (a_nx, (arJ G 2048 (vp_updL m_f ((k_c * (e_fu + 1)) + m_m).toNatClampNeg 0)))] hP hD (fun hP hD => ?_)
      refine lv_iinc (v := (m_m + 1)) (lv' := [(4, .int (m_m + 1)), (3, .int k_c), (2, .int (e_fu + 1)), (0, .ref a_th), (1, .int p_h)]) hx hb dX7_stepTo_36 hl (k := 0) rfl rfl (by decide) rfl (fun ls hl => ?_)
      have t_38 : (m_m + 1).toInt = m_m.toInt + 1 := g5_iadd (a := m_m.toInt) (b := 1) rfl (by decide) (by omega) (by omega)
      refine lv_goto (tgt := 18) hx hb dX7_stepTo_39 (by decide) ?_
      exact ih_18_6 ((m_m + 1), (vp_updL m_f ((k_c * (e_fu + 1)) + m_m).toNatClampNeg 0)) ls H locs (show Int.toNat (32 - (m_m + 1).toInt) < Int.toNat (32 - m_m.toInt) from g_up (show m_m.toInt < (m_m + 1).toInt by omega) (show m_m.toInt < 32 by omega)) ⟨lv_sub hl [0, 1, 2, 3, 4] rfl, hP, hD, hS, ⟨by omega, by omega⟩⟩
theorem dgX7_countRows_0 : ∀ r ∈ ([(0, (.aload_n 0, 1)), (1, (.getfield 89, 3)), (4, (.iconst 1, 1)), (5, (.iadd, 1)), (6, (.istore_n 1, 1)), (7, (.aload_n 0, 1)), (8, (.getfield 19, 3)), (11, (.lconst 0, 1)), (12, (.invokestatic 58, 3)), (15, (.iconst 0, 1)), (16, (.istore_n 2, 1)), (17, (.iload_n 2, 1)), (18, (.bipush 64, 2)), (20, (.if_icmp .ge 42, 3)), (23, (.aload_n 0, 1)), (24, (.getfield 19, 3)), (27, (.iload_n 2, 1)), (28, (.iload_n 1, 1)), (29, (.imul, 1)), (30, (.aload_n 0, 1)), (31, (.getfield 15, 3)), (34, (.iload_n 2, 1)), (35, (.iaload, 1)), (36, (.iadd, 1)), (37, (.aload_n 0, 1)), (38, (.getfield 9, 3)), (41, (.iconst 0, 1)), (42, (.laload, 1)), (43, (.iload_n 2, 1)), (44, (.invokestatic 98, 3)), (47, (.ifCond .eq 7, 3)), (50, (.lconst 0, 1)), (51, (.goto 4, 3)), (54, (.lconst 1, 1)), (55, (.lastore, 1)), (56, (.iinc 2 1, 3)), (59, (.goto (-42), 3)), (62, (.iconst 1, 1)), (63, (.istore_n 2, 1)), (64, (.iload_n 2, 1))] : List (Nat × (Instr × Nat))), decode cX7_countRows r.1 = .ok r.2 := by decide +kernel
theorem dX7_countRows_0 : decode cX7_countRows 0 = .ok (.aload_n 0, 1) := dgX7_countRows_0 (0, (.aload_n 0, 1)) (List.mem_of_getElem? (i := 0) rfl)
theorem dX7_countRows_1 : decode cX7_countRows 1 = .ok (.getfield 89, 3) := dgX7_countRows_0 (1, (.getfield 89, 3)) (List.mem_of_getElem? (i := 1) rfl)
theorem dX7_countRows_4 : decode cX7_countRows 4 = .ok (.iconst 1, 1) := dgX7_countRows_0 (4, (.iconst 1, 1)) (List.mem_of_getElem? (i := 2) rfl)
theorem dX7_countRows_5 : decode cX7_countRows 5 = .ok (.iadd, 1) := dgX7_countRows_0 (5, (.iadd, 1)) (List.mem_of_getElem? (i := 3) rfl)
theorem dX7_countRows_6 : decode cX7_countRows 6 = .ok (.istore_n 1, 1) := dgX7_countRows_0 (6, (.istore_n 1, 1)) (List.mem_of_getElem? (i := 4) rfl)
theorem dX7_countRows_7 : decode cX7_countRows 7 = .ok (.aload_n 0, 1) := dgX7_countRows_0 (7, (.aload_n 0, 1)) (List.mem_of_getElem? (i := 5) rfl)
theorem dX7_countRows_8 : decode cX7_countRows 8 = .ok (.getfield 19, 3) := dgX7_countRows_0 (8, (.getfield 19, 3)) (List.mem_of_getElem? (i := 6) rfl)
theorem dX7_countRows_11 : decode cX7_countRows 11 = .ok (.lconst 0, 1) := dgX7_countRows_0 (11, (.lconst 0, 1)) (List.mem_of_getElem? (i := 7) rfl)
theorem dX7_countRows_12 : decode cX7_countRows 12 = .ok (.invokestatic 58, 3) := dgX7_countRows_0 (12, (.invokestatic 58, 3)) (List.mem_of_getElem? (i := 8) rfl)
theorem dX7_countRows_15 : decode cX7_countRows 15 = .ok (.iconst 0, 1) := dgX7_countRows_0 (15, (.iconst 0, 1)) (List.mem_of_getElem? (i := 9) rfl)
theorem dX7_countRows_16 : decode cX7_countRows 16 = .ok (.istore_n 2, 1) := dgX7_countRows_0 (16, (.istore_n 2, 1)) (List.mem_of_getElem? (i := 10) rfl)
theorem dX7_countRows_17 : decode cX7_countRows 17 = .ok (.iload_n 2, 1) := dgX7_countRows_0 (17, (.iload_n 2, 1)) (List.mem_of_getElem? (i := 11) rfl)
theorem dX7_countRows_18 : decode cX7_countRows 18 = .ok (.bipush 64, 2) := dgX7_countRows_0 (18, (.bipush 64, 2)) (List.mem_of_getElem? (i := 12) rfl)
theorem dX7_countRows_20 : decode cX7_countRows 20 = .ok (.if_icmp .ge 42, 3) := dgX7_countRows_0 (20, (.if_icmp .ge 42, 3)) (List.mem_of_getElem? (i := 13) rfl)
theorem dX7_countRows_23 : decode cX7_countRows 23 = .ok (.aload_n 0, 1) := dgX7_countRows_0 (23, (.aload_n 0, 1)) (List.mem_of_getElem? (i := 14) rfl)
theorem dX7_countRows_24 : decode cX7_countRows 24 = .ok (.getfield 19, 3) := dgX7_countRows_0 (24, (.getfield 19, 3)) (List.mem_of_getElem? (i := 15) rfl)
theorem dX7_countRows_27 : decode cX7_countRows 27 = .ok (.iload_n 2, 1) := dgX7_countRows_0 (27, (.iload_n 2, 1)) (List.mem_of_getElem? (i := 16) rfl)
theorem dX7_countRows_28 : decode cX7_countRows 28 = .ok (.iload_n 1, 1) := dgX7_countRows_0 (28, (.iload_n 1, 1)) (List.mem_of_getElem? (i := 17) rfl)
theorem dX7_countRows_29 : decode cX7_countRows 29 = .ok (.imul, 1) := dgX7_countRows_0 (29, (.imul, 1)) (List.mem_of_getElem? (i := 18) rfl)
theorem dX7_countRows_30 : decode cX7_countRows 30 = .ok (.aload_n 0, 1) := dgX7_countRows_0 (30, (.aload_n 0, 1)) (List.mem_of_getElem? (i := 19) rfl)
theorem dX7_countRows_31 : decode cX7_countRows 31 = .ok (.getfield 15, 3) := dgX7_countRows_0 (31, (.getfield 15, 3)) (List.mem_of_getElem? (i := 20) rfl)
theorem dX7_countRows_34 : decode cX7_countRows 34 = .ok (.iload_n 2, 1) := dgX7_countRows_0 (34, (.iload_n 2, 1)) (List.mem_of_getElem? (i := 21) rfl)
theorem dX7_countRows_35 : decode cX7_countRows 35 = .ok (.iaload, 1) := dgX7_countRows_0 (35, (.iaload, 1)) (List.mem_of_getElem? (i := 22) rfl)
theorem dX7_countRows_36 : decode cX7_countRows 36 = .ok (.iadd, 1) := dgX7_countRows_0 (36, (.iadd, 1)) (List.mem_of_getElem? (i := 23) rfl)
theorem dX7_countRows_37 : decode cX7_countRows 37 = .ok (.aload_n 0, 1) := dgX7_countRows_0 (37, (.aload_n 0, 1)) (List.mem_of_getElem? (i := 24) rfl)
theorem dX7_countRows_38 : decode cX7_countRows 38 = .ok (.getfield 9, 3) := dgX7_countRows_0 (38, (.getfield 9, 3)) (List.mem_of_getElem? (i := 25) rfl)
theorem dX7_countRows_41 : decode cX7_countRows 41 = .ok (.iconst 0, 1) := dgX7_countRows_0 (41, (.iconst 0, 1)) (List.mem_of_getElem? (i := 26) rfl)
theorem dX7_countRows_42 : decode cX7_countRows 42 = .ok (.laload, 1) := dgX7_countRows_0 (42, (.laload, 1)) (List.mem_of_getElem? (i := 27) rfl)
theorem dX7_countRows_43 : decode cX7_countRows 43 = .ok (.iload_n 2, 1) := dgX7_countRows_0 (43, (.iload_n 2, 1)) (List.mem_of_getElem? (i := 28) rfl)
theorem dX7_countRows_44 : decode cX7_countRows 44 = .ok (.invokestatic 98, 3) := dgX7_countRows_0 (44, (.invokestatic 98, 3)) (List.mem_of_getElem? (i := 29) rfl)
theorem dX7_countRows_47 : decode cX7_countRows 47 = .ok (.ifCond .eq 7, 3) := dgX7_countRows_0 (47, (.ifCond .eq 7, 3)) (List.mem_of_getElem? (i := 30) rfl)
theorem dX7_countRows_50 : decode cX7_countRows 50 = .ok (.lconst 0, 1) := dgX7_countRows_0 (50, (.lconst 0, 1)) (List.mem_of_getElem? (i := 31) rfl)
theorem dX7_countRows_51 : decode cX7_countRows 51 = .ok (.goto 4, 3) := dgX7_countRows_0 (51, (.goto 4, 3)) (List.mem_of_getElem? (i := 32) rfl)
theorem dX7_countRows_54 : decode cX7_countRows 54 = .ok (.lconst 1, 1) := dgX7_countRows_0 (54, (.lconst 1, 1)) (List.mem_of_getElem? (i := 33) rfl)
theorem dX7_countRows_55 : decode cX7_countRows 55 = .ok (.lastore, 1) := dgX7_countRows_0 (55, (.lastore, 1)) (List.mem_of_getElem? (i := 34) rfl)
theorem dX7_countRows_56 : decode cX7_countRows 56 = .ok (.iinc 2 1, 3) := dgX7_countRows_0 (56, (.iinc 2 1, 3)) (List.mem_of_getElem? (i := 35) rfl)
theorem dX7_countRows_59 : decode cX7_countRows 59 = .ok (.goto (-42), 3) := dgX7_countRows_0 (59, (.goto (-42), 3)) (List.mem_of_getElem? (i := 36) rfl)
theorem dX7_countRows_62 : decode cX7_countRows 62 = .ok (.iconst 1, 1) := dgX7_countRows_0 (62, (.iconst 1, 1)) (List.mem_of_getElem? (i := 37) rfl)
theorem dX7_countRows_63 : decode cX7_countRows 63 = .ok (.istore_n 2, 1) := dgX7_countRows_0 (63, (.istore_n 2, 1)) (List.mem_of_getElem? (i := 38) rfl)
theorem dX7_countRows_64 : decode cX7_countRows 64 = .ok (.iload_n 2, 1) := dgX7_countRows_0 (64, (.iload_n 2, 1)) (List.mem_of_getElem? (i := 39) rfl)
theorem dgX7_countRows_1 : ∀ r ∈ ([(65, (.bipush 24, 2)), (67, (.if_icmp .ge 14, 3)), (70, (.aload_n 0, 1)), (71, (.iload_n 2, 1)), (72, (.invokevirtual 102, 3)), (75, (.iinc 2 1, 3)), (78, (.goto (-14), 3)), (81, (.lconst 0, 1)), (82, (.lstore_n 2, 1)), (83, (.iconst 0, 1)), (84, (.istore 4, 2)), (86, (.iload 4, 2)), (88, (.bipush 64, 2)), (90, (.if_icmp .ge 26, 3)), (93, (.lload_n 2, 1)), (94, (.aload_n 0, 1)), (95, (.getfield 19, 3)), (98, (.iload 4, 2)), (100, (.iload_n 1, 1)), (101, (.imul, 1)), (102, (.aload_n 0, 1)), (103, (.getfield 89, 3)), (106, (.iadd, 1)), (107, (.laload, 1)), (108, (.ladd, 1)), (109, (.lstore_n 2, 1)), (110, (.iinc 4 1, 3)), (113, (.goto (-27), 3)), (116, (.lload_n 2, 1)), (117, (.lreturn, 1))] : List (Nat × (Instr × Nat))), decode cX7_countRows r.1 = .ok r.2 := by decide +kernel
theorem dX7_countRows_65 : decode cX7_countRows 65 = .ok (.bipush 24, 2) := dgX7_countRows_1 (65, (.bipush 24, 2)) (List.mem_of_getElem? (i := 0) rfl)
theorem dX7_countRows_67 : decode cX7_countRows 67 = .ok (.if_icmp .ge 14, 3) := dgX7_countRows_1 (67, (.if_icmp .ge 14, 3)) (List.mem_of_getElem? (i := 1) rfl)
theorem dX7_countRows_70 : decode cX7_countRows 70 = .ok (.aload_n 0, 1) := dgX7_countRows_1 (70, (.aload_n 0, 1)) (List.mem_of_getElem? (i := 2) rfl)
theorem dX7_countRows_71 : decode cX7_countRows 71 = .ok (.iload_n 2, 1) := dgX7_countRows_1 (71, (.iload_n 2, 1)) (List.mem_of_getElem? (i := 3) rfl)
theorem dX7_countRows_72 : decode cX7_countRows 72 = .ok (.invokevirtual 102, 3) := dgX7_countRows_1 (72, (.invokevirtual 102, 3)) (List.mem_of_getElem? (i := 4) rfl)
theorem dX7_countRows_75 : decode cX7_countRows 75 = .ok (.iinc 2 1, 3) := dgX7_countRows_1 (75, (.iinc 2 1, 3)) (List.mem_of_getElem? (i := 5) rfl)
theorem dX7_countRows_78 : decode cX7_countRows 78 = .ok (.goto (-14), 3) := dgX7_countRows_1 (78, (.goto (-14), 3)) (List.mem_of_getElem? (i := 6) rfl)
theorem dX7_countRows_81 : decode cX7_countRows 81 = .ok (.lconst 0, 1) := dgX7_countRows_1 (81, (.lconst 0, 1)) (List.mem_of_getElem? (i := 7) rfl)
theorem dX7_countRows_82 : decode cX7_countRows 82 = .ok (.lstore_n 2, 1) := dgX7_countRows_1 (82, (.lstore_n 2, 1)) (List.mem_of_getElem? (i := 8) rfl)
theorem dX7_countRows_83 : decode cX7_countRows 83 = .ok (.iconst 0, 1) := dgX7_countRows_1 (83, (.iconst 0, 1)) (List.mem_of_getElem? (i := 9) rfl)
theorem dX7_countRows_84 : decode cX7_countRows 84 = .ok (.istore 4, 2) := dgX7_countRows_1 (84, (.istore 4, 2)) (List.mem_of_getElem? (i := 10) rfl)
theorem dX7_countRows_86 : decode cX7_countRows 86 = .ok (.iload 4, 2) := dgX7_countRows_1 (86, (.iload 4, 2)) (List.mem_of_getElem? (i := 11) rfl)
theorem dX7_countRows_88 : decode cX7_countRows 88 = .ok (.bipush 64, 2) := dgX7_countRows_1 (88, (.bipush 64, 2)) (List.mem_of_getElem? (i := 12) rfl)
theorem dX7_countRows_90 : decode cX7_countRows 90 = .ok (.if_icmp .ge 26, 3) := dgX7_countRows_1 (90, (.if_icmp .ge 26, 3)) (List.mem_of_getElem? (i := 13) rfl)
theorem dX7_countRows_93 : decode cX7_countRows 93 = .ok (.lload_n 2, 1) := dgX7_countRows_1 (93, (.lload_n 2, 1)) (List.mem_of_getElem? (i := 14) rfl)
theorem dX7_countRows_94 : decode cX7_countRows 94 = .ok (.aload_n 0, 1) := dgX7_countRows_1 (94, (.aload_n 0, 1)) (List.mem_of_getElem? (i := 15) rfl)
theorem dX7_countRows_95 : decode cX7_countRows 95 = .ok (.getfield 19, 3) := dgX7_countRows_1 (95, (.getfield 19, 3)) (List.mem_of_getElem? (i := 16) rfl)
theorem dX7_countRows_98 : decode cX7_countRows 98 = .ok (.iload 4, 2) := dgX7_countRows_1 (98, (.iload 4, 2)) (List.mem_of_getElem? (i := 17) rfl)
theorem dX7_countRows_100 : decode cX7_countRows 100 = .ok (.iload_n 1, 1) := dgX7_countRows_1 (100, (.iload_n 1, 1)) (List.mem_of_getElem? (i := 18) rfl)
theorem dX7_countRows_101 : decode cX7_countRows 101 = .ok (.imul, 1) := dgX7_countRows_1 (101, (.imul, 1)) (List.mem_of_getElem? (i := 19) rfl)
theorem dX7_countRows_102 : decode cX7_countRows 102 = .ok (.aload_n 0, 1) := dgX7_countRows_1 (102, (.aload_n 0, 1)) (List.mem_of_getElem? (i := 20) rfl)
theorem dX7_countRows_103 : decode cX7_countRows 103 = .ok (.getfield 89, 3) := dgX7_countRows_1 (103, (.getfield 89, 3)) (List.mem_of_getElem? (i := 21) rfl)
theorem dX7_countRows_106 : decode cX7_countRows 106 = .ok (.iadd, 1) := dgX7_countRows_1 (106, (.iadd, 1)) (List.mem_of_getElem? (i := 22) rfl)
theorem dX7_countRows_107 : decode cX7_countRows 107 = .ok (.laload, 1) := dgX7_countRows_1 (107, (.laload, 1)) (List.mem_of_getElem? (i := 23) rfl)
theorem dX7_countRows_108 : decode cX7_countRows 108 = .ok (.ladd, 1) := dgX7_countRows_1 (108, (.ladd, 1)) (List.mem_of_getElem? (i := 24) rfl)
theorem dX7_countRows_109 : decode cX7_countRows 109 = .ok (.lstore_n 2, 1) := dgX7_countRows_1 (109, (.lstore_n 2, 1)) (List.mem_of_getElem? (i := 25) rfl)
theorem dX7_countRows_110 : decode cX7_countRows 110 = .ok (.iinc 4 1, 3) := dgX7_countRows_1 (110, (.iinc 4 1, 3)) (List.mem_of_getElem? (i := 26) rfl)
theorem dX7_countRows_113 : decode cX7_countRows 113 = .ok (.goto (-27), 3) := dgX7_countRows_1 (113, (.goto (-27), 3)) (List.mem_of_getElem? (i := 27) rfl)
theorem dX7_countRows_116 : decode cX7_countRows 116 = .ok (.lload_n 2, 1) := dgX7_countRows_1 (116, (.lload_n 2, 1)) (List.mem_of_getElem? (i := 28) rfl)
theorem dX7_countRows_117 : decode cX7_countRows 117 = .ok (.lreturn, 1) := dgX7_countRows_1 (117, (.lreturn, 1)) (List.mem_of_getElem? (i := 29) rfl)
theorem ml_X7_102 : Cond.methodLink RX7 102 yX7_stepTo ∈ tblG := tg 983 (by decide +kernel) (by decide +kernel)
theorem im_X7_stepTo : Cond.instanceMethod yX7_stepTo ∈ tblG := tg 985 (by decide +kernel) (by decide +kernel)
theorem se_X7_stepTo : Cond.selects RX7 yX7_stepTo yX7_stepTo ∈ tblG := tg 21 (by decide +kernel) (by decide +kernel)
theorem cd_X7_stepTo : Cond.code yX7_stepTo cX7_stepTo 8 none ∈ tblG := tg 986 (by decide +kernel) (by decide +kernel)
theorem gW_X7_stepTo : GoodIn tblG (wsG yX7_stepTo cX7_stepTo 8 none) := tgi cd_X7_stepTo
theorem gV_X7_102 : GoodIn tblG (wsV RX7 102 RX7 yX7_stepTo (wsG yX7_stepTo cX7_stepTo 8 none)) := tgV ml_X7_102 im_X7_stepTo se_X7_stepTo ini_X7 gW_X7_stepTo
theorem hv_X7_stepTo : yX7_stepTo.cls = RX7 ∧ yX7_stepTo.cls ≠ "java/lang/invoke/MethodHandle" ∧ yX7_stepTo.cls ≠ "java/lang/invoke/VarHandle" ∧ (parseMethodDescriptor yX7_stepTo.desc).map (fun d => d.parameters.length) = some 1 := by decide +kernel
set_option maxHeartbeats 4000000 in
set_option maxRecDepth 100000 in
theorem th_count (l : Launch) (G : g5_G) (a_th a_ba a_ad a_cn a_nx a_h a_k a_hp a_hl a_lv : Nat) (sz : Nat) (e_fu : Int32) (f_ba : Nat → Int64) (f_ad : Nat → Int32) (f_cn : Nat → Int64) (f_nx : Nat → Int64) (e_tk : TOK e_fu f_ad) : Met l yX7_countRows (wsG yX7_countRows cX7_countRows 5 (some .long)) ({ frames := 2, cells := 0, slots := 0, locals := 49 }) (va_Pc [.ref a_th] (g5_P G [(a_th, (oc7 a_h a_k a_ba a_ad e_fu a_cn a_nx a_hp a_hl a_lv)), (a_ba, (arJ G 24 f_ba)), (a_ad, (arI G 1536 f_ad)), (a_cn, (arJ G 2048 f_cn)), (a_nx, (arJ G 2048 f_nx))] sz)) (va_Ql (fun (r : Int64) (u : va_W) => (∃ (o_r : Int64) (o_f : Nat → Int64) (o_g : Nat → Int64), (r = o_r) ∧ (u = [(a_th, (oc7 a_h a_k a_ba a_ad e_fu a_nx a_cn a_hp a_hl a_lv)), (a_ba, (arJ G 24 f_ba)), (a_ad, (arI G 1536 f_ad)), (a_cn, (arJ G 2048 o_f)), (a_nx, (arJ G 2048 o_g))]))) (g5_B G (va_A [(a_th, (oc7 a_h a_k a_ba a_ad e_fu a_cn a_nx a_hp a_hl a_lv)), (a_ba, (arJ G 24 f_ba)), (a_ad, (arI G 1536 f_ad)), (a_cn, (arJ G 2048 f_cn)), (a_nx, (arJ G 2048 f_nx))] sz)) (va_A [(a_th, (oc7 a_h a_k a_ba a_ad e_fu a_cn a_nx a_hp a_hl a_lv)), (a_ba, (arJ G 24 f_ba)), (a_ad, (arI G 1536 f_ad)), (a_cn, (arJ G 2048 f_cn)), (a_nx, (arJ G 2048 f_nx))] sz)) 0 0 (va_A [(a_th, (oc7 a_h a_k a_ba a_ad e_fu a_cn a_nx a_hp a_hl a_lv)), (a_ba, (arJ G 24 f_ba)), (a_ad, (arI G 1536 f_ad)), (a_cn, (arJ G 2048 f_cn)), (a_nx, (arJ G 2048 f_nx))] sz) := by
  refine Met.ofW (cc := cX7_countRows) (maxL := 5) (ret := (some .long)) (by decide) rfl ?_
  intro p e s m args below meth c s₁ B hml hv
  obtain ⟨rfl, hsz, hP, hK, hD0, hN, hT⟩ := hv
  have hx := B.exec
  have hb := B.bytes
  have hr := B.returns
  have hts : ∀ w ∈ tblG, w.before _ s = true := fun w h => atoms_spec (ws := (wsG yX7_countRows cX7_countRows 5 (some .long))) B.pre w (List.mem_cons_of_mem _ h)
  have hown : s.vm.findClass RX7 = some m.cls := findClass_of_methodNamed B.named
  have hlocks := B.notSynchronized
  subst hsz
  have hD := hD0.self (sz := s.heap.size)
  generalize hAe : va_A [(a_th, (oc7 a_h a_k a_ba a_ad e_fu a_cn a_nx a_hp a_hl a_lv)), (a_ba, (arJ G 24 f_ba)), (a_ad, (arI G 1536 f_ad)), (a_cn, (arJ G 2048 f_cn)), (a_nx, (arJ G 2048 f_nx))] s.heap.size = A at hD hT ⊢
  have hA : ∀ q : Nat, s.heap.size ≤ q → A q := fun q h => by rw [← hAe]; exact Or.inr h
  have hS : va_S A s.heap s.heap [] := va_S.rf
  have hP : va_P G.1 vwCl [(a_th, (oc7 a_h a_k a_ba a_ad e_fu a_cn a_nx a_hp a_hl a_lv)), (a_ba, (arJ G 24 f_ba)), (a_ad, (arI G 1536 f_ad)), (a_cn, (arJ G 2048 f_cn)), (a_nx, (arJ G 2048 f_nx))] s.heap := hP
  have hl := lv_entry ([.ref a_th]) (n := 5) (Nat.le_of_ble_eq_true rfl)
  rw [lg_entry_eq]
  generalize (lg_sl ([.ref a_th]) ++ List.replicate (5 - (lg_sl ([.ref a_th])).length) Slot.unset).toArray = ls at hl ⊢
  have hl : lv_has ls 5 [(0, .ref a_th)] := hl
  have hfu := tk_fu e_tk
  refine lv_aload_n hx hb dX7_countRows_0 rfl (lv_at hl 0 rfl) ?_
  refine va_get (D := G.1) (ci := 7) (v := .int e_fu) (C := RX7) (T := TX7) (N := 10) hx hb hts inG_X7 hown hK hP 0 rfl rfl 4 (by decide) (hts _ fl_X7_89) (fun _ h9 => h9) rfl dX7_countRows_1 ?_
  refine lv_iconst (v := 1) hx hb dX7_countRows_4 (by decide) ?_
  refine lv_iadd hx hb dX7_countRows_5 ?_
  have t_1 : (e_fu + 1).toInt = e_fu.toInt + 1 := g5_iadd (a := e_fu.toInt) (b := 1) (by rfl) (by decide) (by omega) (by omega)
  refine lv_istore_n (lv' := [(1, .int (e_fu + 1)), (0, .ref a_th)]) hx hb dX7_countRows_6 rfl hl (by decide) rfl (fun ls hl => ?_)
  refine lv_aload_n hx hb dX7_countRows_7 rfl (lv_at hl 1 rfl) ?_
  refine va_get (D := G.1) (ci := 7) (v := .ref a_cn) (C := RX7) (T := TX7) (N := 10) hx hb hts inG_X7 hown hK hP 0 rfl rfl 5 (by decide) (hts _ fl_X7_19) (fun _ h9 => h9) rfl dX7_countRows_8 ?_
  refine lv_lconst (v := 0) hx hb dX7_countRows_11 (by decide) ?_
  obtain ⟨hPc, hDc, hFc⟩ := g5_sub3 (wc := [(a_cn, (arJ G 2048 f_cn))]) hP hD hS hA [3] (by decide) rfl
  refine va_callv (va_runS (As := [.ref a_cn, .long 0]) (rest := []) ⟨hx, hb, hml, hown, hts⟩ (k_fillJ2048 l G a_cn s.heap.size 0 f_cn) (va_cwS 2 hts gS_X7_58 rfl rfl rfl hs_J7_fill_d0a16 ⟨Nat.le_of_ble_eq_true rfl, Nat.le_of_ble_eq_true rfl⟩) (g5_preS hPc hK hDc hN hT hS hFc) rfl rfl hl.1 rfl (lv_room (Nat.le_of_ble_eq_true rfl)) dX7_countRows_12 ⟨Nat.le_of_ble_eq_true rfl, Nat.le_of_ble_eq_true rfl⟩) hS (fun q _ h => hFc q h) hFc (fun u t H1 locs ht hvm hw hB hz1 hk1 hS => ?_)
  obtain ⟨hP1, hD1⟩ := hB
  rw [ht] at hP1
  obtain rfl := hw
  obtain ⟨hP, hD⟩ := va_join (wr := [(a_th, (oc7 a_h a_k a_ba a_ad e_fu a_cn a_nx a_hp a_hl a_lv)), (a_ba, (arJ G 24 f_ba)), (a_ad, (arI G 1536 f_ad)), (a_nx, (arJ G 2048 f_nx))]) hP hD [3] [0, 1, 2, 4] rfl rfl (by decide) (by decide) hk1 hFc hP1 hD1
  generalize H1 = H at hP hS ⊢
  refine g5_rs [(a_th, (oc7 a_h a_k a_ba a_ad e_fu a_cn a_nx a_hp a_hl a_lv)), (a_ba, (arJ G 24 f_ba)), (a_ad, (arI G 1536 f_ad)), (a_nx, (arJ G 2048 f_nx)), (a_cn, (arJ G 2048 (fun _ => 0)))] hP hD (fun hP hD => ?_)
  refine lv_iconst (v := 0) hx hb dX7_countRows_15 (by decide) ?_
  refine lv_istore_n (lv' := [(2, .int 0), (1, .int (e_fu + 1)), (0, .ref a_th)]) hx hb dX7_countRows_16 rfl hl (by decide) rfl (fun ls hl => ?_)
  refine g5_loop (α := (Int32) × (Nat → Int64)) (fun (q : (Int32) × (Nat → Int64)) (ls : Array Slot) (H : Heap) (locs : List Loc) => match q with | (k_c, k_f) => lv_has ls 5 [(2, .int k_c), (1, .int (e_fu + 1)), (0, .ref a_th)] ∧ va_P G.1 vwCl [(a_th, (oc7 a_h a_k a_ba a_ad e_fu a_cn a_nx a_hp a_hl a_lv)), (a_ba, (arJ G 24 f_ba)), (a_ad, (arI G 1536 f_ad)), (a_nx, (arJ G 2048 f_nx)), (a_cn, (arJ G 2048 k_f))] H ∧ va_D A [(a_th, (oc7 a_h a_k a_ba a_ad e_fu a_cn a_nx a_hp a_hl a_lv)), (a_ba, (arJ G 24 f_ba)), (a_ad, (arI G 1536 f_ad)), (a_nx, (arJ G 2048 f_nx)), (a_cn, (arJ G 2048 k_f))] ∧ va_S A s.heap H locs ∧ (0 ≤ k_c.toInt ∧ k_c.toInt ≤ 64)) (fun (q : (Int32) × (Nat → Int64)) => match q with | (k_c, k_f) => Int.toNat (64 - k_c.toInt)) (0, (fun _ => 0)) ⟨lv_sub hl [0, 1, 2] rfl, hP, hD, hS, ⟨by decide, by decide⟩⟩ ?_
  rintro ⟨k_c, k_f⟩ ls H locs ⟨hl, hP, hD, hS, i_2⟩ ih_17_3
  have hl : lv_has ls 5 [(2, .int k_c), (1, .int (e_fu + 1)), (0, .ref a_th)] := hl
  have i_2 : 0 ≤ k_c.toInt ∧ k_c.toInt ≤ 64 := i_2
  refine g5_rs [(a_th, (oc7 a_h a_k a_ba a_ad e_fu a_cn a_nx a_hp a_hl a_lv)), (a_ba, (arJ G 24 f_ba)), (a_ad, (arI G 1536 f_ad)), (a_nx, (arJ G 2048 f_nx)), (a_cn, (arJ G 2048 k_f))] hP hD (fun hP hD => ?_)
  refine lv_iload_n hx hb dX7_countRows_17 rfl (lv_at hl 0 rfl) ?_
  refine lv_bipush (v := 64) hx hb dX7_countRows_18 (by decide) ?_
  refine lv_icmp_ge (tgt := 62) hx hb dX7_countRows_20 (by decide) (fun c_4 => ?_) (fun c_4 => ?_)
  ·
    have i_4 : k_c.toInt ≥ 64 := by have z := g5_ge (a := k_c.toInt) (b := 64) (by rfl) (by decide) c_4; omega
    refine lv_iconst (v := 1) hx hb dX7_countRows_62 (by decide) ?_
    refine lv_istore_n (lv' := [(2, .int 1), (1, .int (e_fu + 1)), (0, .ref a_th)]) hx hb dX7_countRows_63 rfl hl (by decide) rfl (fun ls hl => ?_)
    refine lv_iload_n hx hb dX7_countRows_64 rfl (lv_at hl 0 rfl) ?_
    refine lv_bipush (v := 24) hx hb dX7_countRows_65 (by decide) ?_
    refine lv_icmp_ge (tgt := 81) hx hb dX7_countRows_67 (by decide) (fun c_5 => ?_) (fun c_5 => ?_)
    ·
      exact absurd c_5 (by decide)
    ·
      refine lv_aload_n hx hb dX7_countRows_70 rfl (lv_at hl 2 rfl) ?_
      refine lv_iload_n hx hb dX7_countRows_71 rfl (lv_at hl 0 rfl) ?_
      obtain ⟨hPc, hDc, hFc⟩ := g5_sub3 (wc := [(a_th, (oc7 a_h a_k a_ba a_ad e_fu a_cn a_nx a_hp a_hl a_lv)), (a_ba, (arJ G 24 f_ba)), (a_ad, (arI G 1536 f_ad)), (a_cn, (arJ G 2048 k_f)), (a_nx, (arJ G 2048 f_nx))]) hP hD hS hA [0, 1, 2, 4, 3] (by decide) rfl
      refine va_callv (va_runV (As := [.int 1]) (rest := []) ⟨hx, hb, hml, hown, hts⟩ (th_step l G a_th a_ba a_ad a_cn a_nx a_h a_k a_hp a_hl a_lv H.size e_fu 1 f_ba f_ad k_f f_nx ⟨by decide, by decide⟩ (e_tk)) (cwV 1 hts gV_X7_102 rfl rfl rfl hv_X7_stepTo ⟨Nat.le_of_ble_eq_true rfl, Nat.le_of_ble_eq_true rfl⟩) (g5_preV hPc hK hDc hN hT hS hFc (ci := 7) (q0 := 0) rfl rfl) rfl rfl hl.1 rfl (lv_room (Nat.le_of_ble_eq_true rfl)) dX7_countRows_72 ⟨Nat.le_of_ble_eq_true rfl, Nat.le_of_ble_eq_true rfl⟩) hS (fun q _ h => hFc q h) hFc (fun u t H1 locs ht hvm hw hB hz1 hk1 hS => ?_)
      obtain ⟨hP1, hD1⟩ := hB
      rw [ht] at hP1
      obtain ⟨z6, rfl⟩ := hw
      obtain ⟨hP, hD⟩ := va_join (wr := []) hP hD [0, 1, 2, 4, 3] [] rfl rfl (by decide) (by decide) hk1 hFc hP1 hD1
      generalize H1 = H at hP hS ⊢
      refine g5_rs [(a_th, (oc7 a_h a_k a_ba a_ad e_fu a_nx a_cn a_hp a_hl a_lv)), (a_ba, (arJ G 24 f_ba)), (a_ad, (arI G 1536 f_ad)), (a_cn, (arJ G 2048 k_f)), (a_nx, (arJ G 2048 z6))] hP hD (fun hP hD => ?_)
      refine lv_iinc (v := 2) (lv' := [(2, .int 2), (1, .int (e_fu + 1)), (0, .ref a_th)]) hx hb dX7_countRows_75 hl (k := 0) rfl (by decide) (by decide) rfl (fun ls hl => ?_)
      refine lv_goto (tgt := 64) hx hb dX7_countRows_78 (by decide) ?_
      refine lv_iload_n hx hb dX7_countRows_64 rfl (lv_at hl 0 rfl) ?_
      refine lv_bipush (v := 24) hx hb dX7_countRows_65 (by decide) ?_
      refine lv_icmp_ge (tgt := 81) hx hb dX7_countRows_67 (by decide) (fun c_7 => ?_) (fun c_7 => ?_)
      ·
        exact absurd c_7 (by decide)
      ·
        refine lv_aload_n hx hb dX7_countRows_70 rfl (lv_at hl 2 rfl) ?_
        refine lv_iload_n hx hb dX7_countRows_71 rfl (lv_at hl 0 rfl) ?_
        obtain ⟨hPc, hDc, hFc⟩ := g5_sub3 (wc := [(a_th, (oc7 a_h a_k a_ba a_ad e_fu a_nx a_cn a_hp a_hl a_lv)), (a_ba, (arJ G 24 f_ba)), (a_ad, (arI G 1536 f_ad)), (a_nx, (arJ G 2048 z6)), (a_cn, (arJ G 2048 k_f))]) hP hD hS hA [0, 1, 2, 4, 3] (by decide) rfl
        refine va_callv (va_runV (As := [.int 2]) (rest := []) ⟨hx, hb, hml, hown, hts⟩ (th_step l G a_th a_ba a_ad a_nx a_cn a_h a_k a_hp a_hl a_lv H.size e_fu 2 f_ba f_ad z6 k_f ⟨by decide, by decide⟩ (e_tk)) (cwV 1 hts gV_X7_102 rfl rfl rfl hv_X7_stepTo ⟨Nat.le_of_ble_eq_true rfl, Nat.le_of_ble_eq_true rfl⟩) (g5_preV hPc hK hDc hN hT hS hFc (ci := 7) (q0 := 0) rfl rfl) rfl rfl hl.1 rfl (lv_room (Nat.le_of_ble_eq_true rfl)) dX7_countRows_72 ⟨Nat.le_of_ble_eq_true rfl, Nat.le_of_ble_eq_true rfl⟩) hS (fun q _ h => hFc q h) hFc (fun u t H1 locs ht hvm hw hB hz1 hk1 hS => ?_)
        obtain ⟨hP1, hD1⟩ := hB
        rw [ht] at hP1
        obtain ⟨z8, rfl⟩ := hw
        obtain ⟨hP, hD⟩ := va_join (wr := []) hP hD [0, 1, 2, 4, 3] [] rfl rfl (by decide) (by decide) hk1 hFc hP1 hD1
        generalize H1 = H at hP hS ⊢
        refine g5_rs [(a_th, (oc7 a_h a_k a_ba a_ad e_fu a_cn a_nx a_hp a_hl a_lv)), (a_ba, (arJ G 24 f_ba)), (a_ad, (arI G 1536 f_ad)), (a_nx, (arJ G 2048 z6)), (a_cn, (arJ G 2048 z8))] hP hD (fun hP hD => ?_)
        refine lv_iinc (v := 3) (lv' := [(2, .int 3), (1, .int (e_fu + 1)), (0, .ref a_th)]) hx hb dX7_countRows_75 hl (k := 0) rfl (by decide) (by decide) rfl (fun ls hl => ?_)
        refine lv_goto (tgt := 64) hx hb dX7_countRows_78 (by decide) ?_
        refine lv_iload_n hx hb dX7_countRows_64 rfl (lv_at hl 0 rfl) ?_
        refine lv_bipush (v := 24) hx hb dX7_countRows_65 (by decide) ?_
        refine lv_icmp_ge (tgt := 81) hx hb dX7_countRows_67 (by decide) (fun c_9 => ?_) (fun c_9 => ?_)
        ·
          exact absurd c_9 (by decide)
        ·
          refine lv_aload_n hx hb dX7_countRows_70 rfl (lv_at hl 2 rfl) ?_
          refine lv_iload_n hx hb dX7_countRows_71 rfl (lv_at hl 0 rfl) ?_
          obtain ⟨hPc, hDc, hFc⟩ := g5_sub3 (wc := [(a_th, (oc7 a_h a_k a_ba a_ad e_fu a_cn a_nx a_hp a_hl a_lv)), (a_ba, (arJ G 24 f_ba)), (a_ad, (arI G 1536 f_ad)), (a_cn, (arJ G 2048 z8)), (a_nx, (arJ G 2048 z6))]) hP hD hS hA [0, 1, 2, 4, 3] (by decide) rfl
          refine va_callv (va_runV (As := [.int 3]) (rest := []) ⟨hx, hb, hml, hown, hts⟩ (th_step l G a_th a_ba a_ad a_cn a_nx a_h a_k a_hp a_hl a_lv H.size e_fu 3 f_ba f_ad z8 z6 ⟨by decide, by decide⟩ (e_tk)) (cwV 1 hts gV_X7_102 rfl rfl rfl hv_X7_stepTo ⟨Nat.le_of_ble_eq_true rfl, Nat.le_of_ble_eq_true rfl⟩) (g5_preV hPc hK hDc hN hT hS hFc (ci := 7) (q0 := 0) rfl rfl) rfl rfl hl.1 rfl (lv_room (Nat.le_of_ble_eq_true rfl)) dX7_countRows_72 ⟨Nat.le_of_ble_eq_true rfl, Nat.le_of_ble_eq_true rfl⟩) hS (fun q _ h => hFc q h) hFc (fun u t H1 locs ht hvm hw hB hz1 hk1 hS => ?_)
          obtain ⟨hP1, hD1⟩ := hB
          rw [ht] at hP1
          obtain ⟨z10, rfl⟩ := hw
          obtain ⟨hP, hD⟩ := va_join (wr := []) hP hD [0, 1, 2, 4, 3] [] rfl rfl (by decide) (by decide) hk1 hFc hP1 hD1
          generalize H1 = H at hP hS ⊢
          refine g5_rs [(a_th, (oc7 a_h a_k a_ba a_ad e_fu a_nx a_cn a_hp a_hl a_lv)), (a_ba, (arJ G 24 f_ba)), (a_ad, (arI G 1536 f_ad)), (a_cn, (arJ G 2048 z8)), (a_nx, (arJ G 2048 z10))] hP hD (fun hP hD => ?_)
          refine lv_iinc (v := 4) (lv' := [(2, .int 4), (1, .int (e_fu + 1)), (0, .ref a_th)]) hx hb dX7_countRows_75 hl (k := 0) rfl (by decide) (by decide) rfl (fun ls hl => ?_)
          refine lv_goto (tgt := 64) hx hb dX7_countRows_78 (by decide) ?_
          refine lv_iload_n hx hb dX7_countRows_64 rfl (lv_at hl 0 rfl) ?_
          refine lv_bipush (v := 24) hx hb dX7_countRows_65 (by decide) ?_
          refine lv_icmp_ge (tgt := 81) hx hb dX7_countRows_67 (by decide) (fun c_11 => ?_) (fun c_11 => ?_)
          ·
            exact absurd c_11 (by decide)
          ·
            refine lv_aload_n hx hb dX7_countRows_70 rfl (lv_at hl 2 rfl) ?_
            refine lv_iload_n hx hb dX7_countRows_71 rfl (lv_at hl 0 rfl) ?_
            obtain ⟨hPc, hDc, hFc⟩ := g5_sub3 (wc := [(a_th, (oc7 a_h a_k a_ba a_ad e_fu a_nx a_cn a_hp a_hl a_lv)), (a_ba, (arJ G 24 f_ba)), (a_ad, (arI G 1536 f_ad)), (a_nx, (arJ G 2048 z10)), (a_cn, (arJ G 2048 z8))]) hP hD hS hA [0, 1, 2, 4, 3] (by decide) rfl
            refine va_callv (va_runV (As := [.int 4]) (rest := []) ⟨hx, hb, hml, hown, hts⟩ (th_step l G a_th a_ba a_ad a_nx a_cn a_h a_k a_hp a_hl a_lv H.size e_fu 4 f_ba f_ad z10 z8 ⟨by decide, by decide⟩ (e_tk)) (cwV 1 hts gV_X7_102 rfl rfl rfl hv_X7_stepTo ⟨Nat.le_of_ble_eq_true rfl, Nat.le_of_ble_eq_true rfl⟩) (g5_preV hPc hK hDc hN hT hS hFc (ci := 7) (q0 := 0) rfl rfl) rfl rfl hl.1 rfl (lv_room (Nat.le_of_ble_eq_true rfl)) dX7_countRows_72 ⟨Nat.le_of_ble_eq_true rfl, Nat.le_of_ble_eq_true rfl⟩) hS (fun q _ h => hFc q h) hFc (fun u t H1 locs ht hvm hw hB hz1 hk1 hS => ?_)
            obtain ⟨hP1, hD1⟩ := hB
            rw [ht] at hP1
            obtain ⟨z12, rfl⟩ := hw
            obtain ⟨hP, hD⟩ := va_join (wr := []) hP hD [0, 1, 2, 4, 3] [] rfl rfl (by decide) (by decide) hk1 hFc hP1 hD1
            generalize H1 = H at hP hS ⊢
            refine g5_rs [(a_th, (oc7 a_h a_k a_ba a_ad e_fu a_cn a_nx a_hp a_hl a_lv)), (a_ba, (arJ G 24 f_ba)), (a_ad, (arI G 1536 f_ad)), (a_nx, (arJ G 2048 z10)), (a_cn, (arJ G 2048 z12))] hP hD (fun hP hD => ?_)
            refine lv_iinc (v := 5) (lv' := [(2, .int 5), (1, .int (e_fu + 1)), (0, .ref a_th)]) hx hb dX7_countRows_75 hl (k := 0) rfl (by decide) (by decide) rfl (fun ls hl => ?_)
            refine lv_goto (tgt := 64) hx hb dX7_countRows_78 (by decide) ?_
            refine lv_iload_n hx hb dX7_countRows_64 rfl (lv_at hl 0 rfl) ?_
            refine lv_bipush (v := 24) hx hb dX7_countRows_65 (by decide) ?_
            refine lv_icmp_ge (tgt := 81) hx hb dX7_countRows_67 (by decide) (fun c_13 => ?_) (fun c_13 => ?_)
            ·
              exact absurd c_13 (by decide)
            ·
              refine lv_aload_n hx hb dX7_countRows_70 rfl (lv_at hl 2 rfl) ?_
              refine lv_iload_n hx hb dX7_countRows_71 rfl (lv_at hl 0 rfl) ?_
              obtain ⟨hPc, hDc, hFc⟩ := g5_sub3 (wc := [(a_th, (oc7 a_h a_k a_ba a_ad e_fu a_cn a_nx a_hp a_hl a_lv)), (a_ba, (arJ G 24 f_ba)), (a_ad, (arI G 1536 f_ad)), (a_cn, (arJ G 2048 z12)), (a_nx, (arJ G 2048 z10))]) hP hD hS hA [0, 1, 2, 4, 3] (by decide) rfl
              refine va_callv (va_runV (As := [.int 5]) (rest := []) ⟨hx, hb, hml, hown, hts⟩ (th_step l G a_th a_ba a_ad a_cn a_nx a_h a_k a_hp a_hl a_lv H.size e_fu 5 f_ba f_ad z12 z10 ⟨by decide, by decide⟩ (e_tk)) (cwV 1 hts gV_X7_102 rfl rfl rfl hv_X7_stepTo ⟨Nat.le_of_ble_eq_true rfl, Nat.le_of_ble_eq_true rfl⟩) (g5_preV hPc hK hDc hN hT hS hFc (ci := 7) (q0 := 0) rfl rfl) rfl rfl hl.1 rfl (lv_room (Nat.le_of_ble_eq_true rfl)) dX7_countRows_72 ⟨Nat.le_of_ble_eq_true rfl, Nat.le_of_ble_eq_true rfl⟩) hS (fun q _ h => hFc q h) hFc (fun u t H1 locs ht hvm hw hB hz1 hk1 hS => ?_)
              obtain ⟨hP1, hD1⟩ := hB
              rw [ht] at hP1
              obtain ⟨z14, rfl⟩ := hw
              obtain ⟨hP, hD⟩ := va_join (wr := []) hP hD [0, 1, 2, 4, 3] [] rfl rfl (by decide) (by decide) hk1 hFc hP1 hD1
              generalize H1 = H at hP hS ⊢
              refine g5_rs [(a_th, (oc7 a_h a_k a_ba a_ad e_fu a_nx a_cn a_hp a_hl a_lv)), (a_ba, (arJ G 24 f_ba)), (a_ad, (arI G 1536 f_ad)), (a_cn, (arJ G 2048 z12)), (a_nx, (arJ G 2048 z14))] hP hD (fun hP hD => ?_)
              refine lv_iinc (v := 6) (lv' := [(2, .int 6), (1, .int (e_fu + 1)), (0, .ref a_th)]) hx hb dX7_countRows_75 hl (k := 0) rfl (by decide) (by decide) rfl (fun ls hl => ?_)
              refine lv_goto (tgt := 64) hx hb dX7_countRows_78 (by decide) ?_
              refine lv_iload_n hx hb dX7_countRows_64 rfl (lv_at hl 0 rfl) ?_
              refine lv_bipush (v := 24) hx hb dX7_countRows_65 (by decide) ?_
              refine lv_icmp_ge (tgt := 81) hx hb dX7_countRows_67 (by decide) (fun c_15 => ?_) (fun c_15 => ?_)
              ·
                exact absurd c_15 (by decide)
              ·
                refine lv_aload_n hx hb dX7_countRows_70 rfl (lv_at hl 2 rfl) ?_
                refine lv_iload_n hx hb dX7_countRows_71 rfl (lv_at hl 0 rfl) ?_
                obtain ⟨hPc, hDc, hFc⟩ := g5_sub3 (wc := [(a_th, (oc7 a_h a_k a_ba a_ad e_fu a_nx a_cn a_hp a_hl a_lv)), (a_ba, (arJ G 24 f_ba)), (a_ad, (arI G 1536 f_ad)), (a_nx, (arJ G 2048 z14)), (a_cn, (arJ G 2048 z12))]) hP hD hS hA [0, 1, 2, 4, 3] (by decide) rfl
                refine va_callv (va_runV (As := [.int 6]) (rest := []) ⟨hx, hb, hml, hown, hts⟩ (th_step l G a_th a_ba a_ad a_nx a_cn a_h a_k a_hp a_hl a_lv H.size e_fu 6 f_ba f_ad z14 z12 ⟨by decide, by decide⟩ (e_tk)) (cwV 1 hts gV_X7_102 rfl rfl rfl hv_X7_stepTo ⟨Nat.le_of_ble_eq_true rfl, Nat.le_of_ble_eq_true rfl⟩) (g5_preV hPc hK hDc hN hT hS hFc (ci := 7) (q0 := 0) rfl rfl) rfl rfl hl.1 rfl (lv_room (Nat.le_of_ble_eq_true rfl)) dX7_countRows_72 ⟨Nat.le_of_ble_eq_true rfl, Nat.le_of_ble_eq_true rfl⟩) hS (fun q _ h => hFc q h) hFc (fun u t H1 locs ht hvm hw hB hz1 hk1 hS => ?_)
                obtain ⟨hP1, hD1⟩ := hB
                rw [ht] at hP1
                obtain ⟨z16, rfl⟩ := hw
                obtain ⟨hP, hD⟩ := va_join (wr := []) hP hD [0, 1, 2, 4, 3] [] rfl rfl (by decide) (by decide) hk1 hFc hP1 hD1
                generalize H1 = H at hP hS ⊢
                refine g5_rs [(a_th, (oc7 a_h a_k a_ba a_ad e_fu a_cn a_nx a_hp a_hl a_lv)), (a_ba, (arJ G 24 f_ba)), (a_ad, (arI G 1536 f_ad)), (a_nx, (arJ G 2048 z14)), (a_cn, (arJ G 2048 z16))] hP hD (fun hP hD => ?_)
                refine lv_iinc (v := 7) (lv' := [(2, .int 7), (1, .int (e_fu + 1)), (0, .ref a_th)]) hx hb dX7_countRows_75 hl (k := 0) rfl (by decide) (by decide) rfl (fun ls hl => ?_)
                refine lv_goto (tgt := 64) hx hb dX7_countRows_78 (by decide) ?_
                refine lv_iload_n hx hb dX7_countRows_64 rfl (lv_at hl 0 rfl) ?_
                refine lv_bipush (v := 24) hx hb dX7_countRows_65 (by decide) ?_
                refine lv_icmp_ge (tgt := 81) hx hb dX7_countRows_67 (by decide) (fun c_17 => ?_) (fun c_17 => ?_)
                ·
                  exact absurd c_17 (by decide)
                ·
                  refine lv_aload_n hx hb dX7_countRows_70 rfl (lv_at hl 2 rfl) ?_
                  refine lv_iload_n hx hb dX7_countRows_71 rfl (lv_at hl 0 rfl) ?_
                  obtain ⟨hPc, hDc, hFc⟩ := g5_sub3 (wc := [(a_th, (oc7 a_h a_k a_ba a_ad e_fu a_cn a_nx a_hp a_hl a_lv)), (a_ba, (arJ G 24 f_ba)), (a_ad, (arI G 1536 f_ad)), (a_cn, (arJ G 2048 z16)), (a_nx, (arJ G 2048 z14))]) hP hD hS hA [0, 1, 2, 4, 3] (by decide) rfl
                  refine va_callv (va_runV (As := [.int 7]) (rest := []) ⟨hx, hb, hml, hown, hts⟩ (th_step l G a_th a_ba a_ad a_cn a_nx a_h a_k a_hp a_hl a_lv H.size e_fu 7 f_ba f_ad z16 z14 ⟨by decide, by decide⟩ (e_tk)) (cwV 1 hts gV_X7_102 rfl rfl rfl hv_X7_stepTo ⟨Nat.le_of_ble_eq_true rfl, Nat.le_of_ble_eq_true rfl⟩) (g5_preV hPc hK hDc hN hT hS hFc (ci := 7) (q0 := 0) rfl rfl) rfl rfl hl.1 rfl (lv_room (Nat.le_of_ble_eq_true rfl)) dX7_countRows_72 ⟨Nat.le_of_ble_eq_true rfl, Nat.le_of_ble_eq_true rfl⟩) hS (fun q _ h => hFc q h) hFc (fun u t H1 locs ht hvm hw hB hz1 hk1 hS => ?_)
                  obtain ⟨hP1, hD1⟩ := hB
                  rw [ht] at hP1
                  obtain ⟨z18, rfl⟩ := hw
                  obtain ⟨hP, hD⟩ := va_join (wr := []) hP hD [0, 1, 2, 4, 3] [] rfl rfl (by decide) (by decide) hk1 hFc hP1 hD1
                  generalize H1 = H at hP hS ⊢
                  refine g5_rs [(a_th, (oc7 a_h a_k a_ba a_ad e_fu a_nx a_cn a_hp a_hl a_lv)), (a_ba, (arJ G 24 f_ba)), (a_ad, (arI G 1536 f_ad)), (a_cn, (arJ G 2048 z16)), (a_nx, (arJ G 2048 z18))] hP hD (fun hP hD => ?_)
                  refine lv_iinc (v := 8) (lv' := [(2, .int 8), (1, .int (e_fu + 1)), (0, .ref a_th)]) hx hb dX7_countRows_75 hl (k := 0) rfl (by decide) (by decide) rfl (fun ls hl => ?_)
                  refine lv_goto (tgt := 64) hx hb dX7_countRows_78 (by decide) ?_
                  refine lv_iload_n hx hb dX7_countRows_64 rfl (lv_at hl 0 rfl) ?_
                  refine lv_bipush (v := 24) hx hb dX7_countRows_65 (by decide) ?_
                  refine lv_icmp_ge (tgt := 81) hx hb dX7_countRows_67 (by decide) (fun c_19 => ?_) (fun c_19 => ?_)
                  ·
                    exact absurd c_19 (by decide)
                  ·
                    refine lv_aload_n hx hb dX7_countRows_70 rfl (lv_at hl 2 rfl) ?_
                    refine lv_iload_n hx hb dX7_countRows_71 rfl (lv_at hl 0 rfl) ?_
                    obtain ⟨hPc, hDc, hFc⟩ := g5_sub3 (wc := [(a_th, (oc7 a_h a_k a_ba a_ad e_fu a_nx a_cn a_hp a_hl a_lv)), (a_ba, (arJ G 24 f_ba)), (a_ad, (arI G 1536 f_ad)), (a_nx, (arJ G 2048 z18)), (a_cn, (arJ G 2048 z16))]) hP hD hS hA [0, 1, 2, 4, 3] (by decide) rfl
                    refine va_callv (va_runV (As := [.int 8]) (rest := []) ⟨hx, hb, hml, hown, hts⟩ (th_step l G a_th a_ba a_ad a_nx a_cn a_h a_k a_hp a_hl a_lv H.size e_fu 8 f_ba f_ad z18 z16 ⟨by decide, by decide⟩ (e_tk)) (cwV 1 hts gV_X7_102 rfl rfl rfl hv_X7_stepTo ⟨Nat.le_of_ble_eq_true rfl, Nat.le_of_ble_eq_true rfl⟩) (g5_preV hPc hK hDc hN hT hS hFc (ci := 7) (q0 := 0) rfl rfl) rfl rfl hl.1 rfl (lv_room (Nat.le_of_ble_eq_true rfl)) dX7_countRows_72 ⟨Nat.le_of_ble_eq_true rfl, Nat.le_of_ble_eq_true rfl⟩) hS (fun q _ h => hFc q h) hFc (fun u t H1 locs ht hvm hw hB hz1 hk1 hS => ?_)
                    obtain ⟨hP1, hD1⟩ := hB
                    rw [ht] at hP1
                    obtain ⟨z20, rfl⟩ := hw
                    obtain ⟨hP, hD⟩ := va_join (wr := []) hP hD [0, 1, 2, 4, 3] [] rfl rfl (by decide) (by decide) hk1 hFc hP1 hD1
                    generalize H1 = H at hP hS ⊢
                    refine g5_rs [(a_th, (oc7 a_h a_k a_ba a_ad e_fu a_cn a_nx a_hp a_hl a_lv)), (a_ba, (arJ G 24 f_ba)), (a_ad, (arI G 1536 f_ad)), (a_nx, (arJ G 2048 z18)), (a_cn, (arJ G 2048 z20))] hP hD (fun hP hD => ?_)
                    refine lv_iinc (v := 9) (lv' := [(2, .int 9), (1, .int (e_fu + 1)), (0, .ref a_th)]) hx hb dX7_countRows_75 hl (k := 0) rfl (by decide) (by decide) rfl (fun ls hl => ?_)
                    refine lv_goto (tgt := 64) hx hb dX7_countRows_78 (by decide) ?_
                    refine lv_iload_n hx hb dX7_countRows_64 rfl (lv_at hl 0 rfl) ?_
                    refine lv_bipush (v := 24) hx hb dX7_countRows_65 (by decide) ?_
                    refine lv_icmp_ge (tgt := 81) hx hb dX7_countRows_67 (by decide) (fun c_21 => ?_) (fun c_21 => ?_)
                    ·
                      exact absurd c_21 (by decide)
                    ·
                      refine lv_aload_n hx hb dX7_countRows_70 rfl (lv_at hl 2 rfl) ?_
                      refine lv_iload_n hx hb dX7_countRows_71 rfl (lv_at hl 0 rfl) ?_
                      obtain ⟨hPc, hDc, hFc⟩ := g5_sub3 (wc := [(a_th, (oc7 a_h a_k a_ba a_ad e_fu a_cn a_nx a_hp a_hl a_lv)), (a_ba, (arJ G 24 f_ba)), (a_ad, (arI G 1536 f_ad)), (a_cn, (arJ G 2048 z20)), (a_nx, (arJ G 2048 z18))]) hP hD hS hA [0, 1, 2, 4, 3] (by decide) rfl
                      refine va_callv (va_runV (As := [.int 9]) (rest := []) ⟨hx, hb, hml, hown, hts⟩ (th_step l G a_th a_ba a_ad a_cn a_nx a_h a_k a_hp a_hl a_lv H.size e_fu 9 f_ba f_ad z20 z18 ⟨by decide, by decide⟩ (e_tk)) (cwV 1 hts gV_X7_102 rfl rfl rfl hv_X7_stepTo ⟨Nat.le_of_ble_eq_true rfl, Nat.le_of_ble_eq_true rfl⟩) (g5_preV hPc hK hDc hN hT hS hFc (ci := 7) (q0 := 0) rfl rfl) rfl rfl hl.1 rfl (lv_room (Nat.le_of_ble_eq_true rfl)) dX7_countRows_72 ⟨Nat.le_of_ble_eq_true rfl, Nat.le_of_ble_eq_true rfl⟩) hS (fun q _ h => hFc q h) hFc (fun u t H1 locs ht hvm hw hB hz1 hk1 hS => ?_)
                      obtain ⟨hP1, hD1⟩ := hB
                      rw [ht] at hP1
                      obtain ⟨z22, rfl⟩ := hw
                      obtain ⟨hP, hD⟩ := va_join (wr := []) hP hD [0, 1, 2, 4, 3] [] rfl rfl (by decide) (by decide) hk1 hFc hP1 hD1
                      generalize H1 = H at hP hS ⊢
                      refine g5_rs [(a_th, (oc7 a_h a_k a_ba a_ad e_fu a_nx a_cn a_hp a_hl a_lv)), (a_ba, (arJ G 24 f_ba)), (a_ad, (arI G 1536 f_ad)), (a_cn, (arJ G 2048 z20)), (a_nx, (arJ G 2048 z22))] hP hD (fun hP hD => ?_)
                      refine lv_iinc (v := 10) (lv' := [(2, .int 10), (1, .int (e_fu + 1)), (0, .ref a_th)]) hx hb dX7_countRows_75 hl (k := 0) rfl (by decide) (by decide) rfl (fun ls hl => ?_)
                      refine lv_goto (tgt := 64) hx hb dX7_countRows_78 (by decide) ?_
                      refine lv_iload_n hx hb dX7_countRows_64 rfl (lv_at hl 0 rfl) ?_
                      refine lv_bipush (v := 24) hx hb dX7_countRows_65 (by decide) ?_
                      refine lv_icmp_ge (tgt := 81) hx hb dX7_countRows_67 (by decide) (fun c_23 => ?_) (fun c_23 => ?_)
                      ·
                        exact absurd c_23 (by decide)
                      ·
                        refine lv_aload_n hx hb dX7_countRows_70 rfl (lv_at hl 2 rfl) ?_
                        refine lv_iload_n hx hb dX7_countRows_71 rfl (lv_at hl 0 rfl) ?_
                        obtain ⟨hPc, hDc, hFc⟩ := g5_sub3 (wc := [(a_th, (oc7 a_h a_k a_ba a_ad e_fu a_nx a_cn a_hp a_hl a_lv)), (a_ba, (arJ G 24 f_ba)), (a_ad, (arI G 1536 f_ad)), (a_nx, (arJ G 2048 z22)), (a_cn, (arJ G 2048 z20))]) hP hD hS hA [0, 1, 2, 4, 3] (by decide) rfl
                        refine va_callv (va_runV (As := [.int 10]) (rest := []) ⟨hx, hb, hml, hown, hts⟩ (th_step l G a_th a_ba a_ad a_nx a_cn a_h a_k a_hp a_hl a_lv H.size e_fu 10 f_ba f_ad z22 z20 ⟨by decide, by decide⟩ (e_tk)) (cwV 1 hts gV_X7_102 rfl rfl rfl hv_X7_stepTo ⟨Nat.le_of_ble_eq_true rfl, Nat.le_of_ble_eq_true rfl⟩) (g5_preV hPc hK hDc hN hT hS hFc (ci := 7) (q0 := 0) rfl rfl) rfl rfl hl.1 rfl (lv_room (Nat.le_of_ble_eq_true rfl)) dX7_countRows_72 ⟨Nat.le_of_ble_eq_true rfl, Nat.le_of_ble_eq_true rfl⟩) hS (fun q _ h => hFc q h) hFc (fun u t H1 locs ht hvm hw hB hz1 hk1 hS => ?_)
                        obtain ⟨hP1, hD1⟩ := hB
                        rw [ht] at hP1
                        obtain ⟨z24, rfl⟩ := hw
                        obtain ⟨hP, hD⟩ := va_join (wr := []) hP hD [0, 1, 2, 4, 3] [] rfl rfl (by decide) (by decide) hk1 hFc hP1 hD1
                        generalize H1 = H at hP hS ⊢
                        refine g5_rs [(a_th, (oc7 a_h a_k a_ba a_ad e_fu a_cn a_nx a_hp a_hl a_lv)), (a_ba, (arJ G 24 f_ba)), (a_ad, (arI G 1536 f_ad)), (a_nx, (arJ G 2048 z22)), (a_cn, (arJ G 2048 z24))] hP hD (fun hP hD => ?_)
                        refine lv_iinc (v := 11) (lv' := [(2, .int 11), (1, .int (e_fu + 1)), (0, .ref a_th)]) hx hb dX7_countRows_75 hl (k := 0) rfl (by decide) (by decide) rfl (fun ls hl => ?_)
                        refine lv_goto (tgt := 64) hx hb dX7_countRows_78 (by decide) ?_
                        refine lv_iload_n hx hb dX7_countRows_64 rfl (lv_at hl 0 rfl) ?_
                        refine lv_bipush (v := 24) hx hb dX7_countRows_65 (by decide) ?_
                        refine lv_icmp_ge (tgt := 81) hx hb dX7_countRows_67 (by decide) (fun c_25 => ?_) (fun c_25 => ?_)
                        ·
                          exact absurd c_25 (by decide)
                        ·
                          refine lv_aload_n hx hb dX7_countRows_70 rfl (lv_at hl 2 rfl) ?_
                          refine lv_iload_n hx hb dX7_countRows_71 rfl (lv_at hl 0 rfl) ?_
                          obtain ⟨hPc, hDc, hFc⟩ := g5_sub3 (wc := [(a_th, (oc7 a_h a_k a_ba a_ad e_fu a_cn a_nx a_hp a_hl a_lv)), (a_ba, (arJ G 24 f_ba)), (a_ad, (arI G 1536 f_ad)), (a_cn, (arJ G 2048 z24)), (a_nx, (arJ G 2048 z22))]) hP hD hS hA [0, 1, 2, 4, 3] (by decide) rfl
                          refine va_callv (va_runV (As := [.int 11]) (rest := []) ⟨hx, hb, hml, hown, hts⟩ (th_step l G a_th a_ba a_ad a_cn a_nx a_h a_k a_hp a_hl a_lv H.size e_fu 11 f_ba f_ad z24 z22 ⟨by decide, by decide⟩ (e_tk)) (cwV 1 hts gV_X7_102 rfl rfl rfl hv_X7_stepTo ⟨Nat.le_of_ble_eq_true rfl, Nat.le_of_ble_eq_true rfl⟩) (g5_preV hPc hK hDc hN hT hS hFc (ci := 7) (q0 := 0) rfl rfl) rfl rfl hl.1 rfl (lv_room (Nat.le_of_ble_eq_true rfl)) dX7_countRows_72 ⟨Nat.le_of_ble_eq_true rfl, Nat.le_of_ble_eq_true rfl⟩) hS (fun q _ h => hFc q h) hFc (fun u t H1 locs ht hvm hw hB hz1 hk1 hS => ?_)
                          obtain ⟨hP1, hD1⟩ := hB
                          rw [ht] at hP1
                          obtain ⟨z26, rfl⟩ := hw
                          obtain ⟨hP, hD⟩ := va_join (wr := []) hP hD [0, 1, 2, 4, 3] [] rfl rfl (by decide) (by decide) hk1 hFc hP1 hD1
                          generalize H1 = H at hP hS ⊢
                          refine g5_rs [(a_th, (oc7 a_h a_k a_ba a_ad e_fu a_nx a_cn a_hp a_hl a_lv)), (a_ba, (arJ G 24 f_ba)), (a_ad, (arI G 1536 f_ad)), (a_cn, (arJ G 2048 z24)), (a_nx, (arJ G 2048 z26))] hP hD (fun hP hD => ?_)
                          refine lv_iinc (v := 12) (lv' := [(2, .int 12), (1, .int (e_fu + 1)), (0, .ref a_th)]) hx hb dX7_countRows_75 hl (k := 0) rfl (by decide) (by decide) rfl (fun ls hl => ?_)
                          refine lv_goto (tgt := 64) hx hb dX7_countRows_78 (by decide) ?_
                          refine lv_iload_n hx hb dX7_countRows_64 rfl (lv_at hl 0 rfl) ?_
                          refine lv_bipush (v := 24) hx hb dX7_countRows_65 (by decide) ?_
                          refine lv_icmp_ge (tgt := 81) hx hb dX7_countRows_67 (by decide) (fun c_27 => ?_) (fun c_27 => ?_)
                          ·
                            exact absurd c_27 (by decide)
                          ·
                            refine lv_aload_n hx hb dX7_countRows_70 rfl (lv_at hl 2 rfl) ?_
                            refine lv_iload_n hx hb dX7_countRows_71 rfl (lv_at hl 0 rfl) ?_
                            obtain ⟨hPc, hDc, hFc⟩ := g5_sub3 (wc := [(a_th, (oc7 a_h a_k a_ba a_ad e_fu a_nx a_cn a_hp a_hl a_lv)), (a_ba, (arJ G 24 f_ba)), (a_ad, (arI G 1536 f_ad)), (a_nx, (arJ G 2048 z26)), (a_cn, (arJ G 2048 z24))]) hP hD hS hA [0, 1, 2, 4, 3] (by decide) rfl
                            refine va_callv (va_runV (As := [.int 12]) (rest := []) ⟨hx, hb, hml, hown, hts⟩ (th_step l G a_th a_ba a_ad a_nx a_cn a_h a_k a_hp a_hl a_lv H.size e_fu 12 f_ba f_ad z26 z24 ⟨by decide, by decide⟩ (e_tk)) (cwV 1 hts gV_X7_102 rfl rfl rfl hv_X7_stepTo ⟨Nat.le_of_ble_eq_true rfl, Nat.le_of_ble_eq_true rfl⟩) (g5_preV hPc hK hDc hN hT hS hFc (ci := 7) (q0 := 0) rfl rfl) rfl rfl hl.1 rfl (lv_room (Nat.le_of_ble_eq_true rfl)) dX7_countRows_72 ⟨Nat.le_of_ble_eq_true rfl, Nat.le_of_ble_eq_true rfl⟩) hS (fun q _ h => hFc q h) hFc (fun u t H1 locs ht hvm hw hB hz1 hk1 hS => ?_)
                            obtain ⟨hP1, hD1⟩ := hB
                            rw [ht] at hP1
                            obtain ⟨z28, rfl⟩ := hw
                            obtain ⟨hP, hD⟩ := va_join (wr := []) hP hD [0, 1, 2, 4, 3] [] rfl rfl (by decide) (by decide) hk1 hFc hP1 hD1
                            generalize H1 = H at hP hS ⊢
                            refine g5_rs [(a_th, (oc7 a_h a_k a_ba a_ad e_fu a_cn a_nx a_hp a_hl a_lv)), (a_ba, (arJ G 24 f_ba)), (a_ad, (arI G 1536 f_ad)), (a_nx, (arJ G 2048 z26)), (a_cn, (arJ G 2048 z28))] hP hD (fun hP hD => ?_)
                            refine lv_iinc (v := 13) (lv' := [(2, .int 13), (1, .int (e_fu + 1)), (0, .ref a_th)]) hx hb dX7_countRows_75 hl (k := 0) rfl (by decide) (by decide) rfl (fun ls hl => ?_)
                            refine lv_goto (tgt := 64) hx hb dX7_countRows_78 (by decide) ?_
                            refine lv_iload_n hx hb dX7_countRows_64 rfl (lv_at hl 0 rfl) ?_
                            refine lv_bipush (v := 24) hx hb dX7_countRows_65 (by decide) ?_
                            refine lv_icmp_ge (tgt := 81) hx hb dX7_countRows_67 (by decide) (fun c_29 => ?_) (fun c_29 => ?_)
                            ·
                              exact absurd c_29 (by decide)
                            ·
                              refine lv_aload_n hx hb dX7_countRows_70 rfl (lv_at hl 2 rfl) ?_
                              refine lv_iload_n hx hb dX7_countRows_71 rfl (lv_at hl 0 rfl) ?_
                              obtain ⟨hPc, hDc, hFc⟩ := g5_sub3 (wc := [(a_th, (oc7 a_h a_k a_ba a_ad e_fu a_cn a_nx a_hp a_hl a_lv)), (a_ba, (arJ G 24 f_ba)), (a_ad, (arI G 1536 f_ad)), (a_cn, (arJ G 2048 z28)), (a_nx, (arJ G 2048 z26))]) hP hD hS hA [0, 1, 2, 4, 3] (by decide) rfl
                              refine va_callv (va_runV (As := [.int 13]) (rest := []) ⟨hx, hb, hml, hown, hts⟩ (th_step l G a_th a_ba a_ad a_cn a_nx a_h a_k a_hp a_hl a_lv H.size e_fu 13 f_ba f_ad z28 z26 ⟨by decide, by decide⟩ (e_tk)) (cwV 1 hts gV_X7_102 rfl rfl rfl hv_X7_stepTo ⟨Nat.le_of_ble_eq_true rfl, Nat.le_of_ble_eq_true rfl⟩) (g5_preV hPc hK hDc hN hT hS hFc (ci := 7) (q0 := 0) rfl rfl) rfl rfl hl.1 rfl (lv_room (Nat.le_of_ble_eq_true rfl)) dX7_countRows_72 ⟨Nat.le_of_ble_eq_true rfl, Nat.le_of_ble_eq_true rfl⟩) hS (fun q _ h => hFc q h) hFc (fun u t H1 locs ht hvm hw hB hz1 hk1 hS => ?_)
                              obtain ⟨hP1, hD1⟩ := hB
                              rw [ht] at hP1
                              obtain ⟨z30, rfl⟩ := hw
                              obtain ⟨hP, hD⟩ := va_join (wr := []) hP hD [0, 1, 2, 4, 3] [] rfl rfl (by decide) (by decide) hk1 hFc hP1 hD1
                              generalize H1 = H at hP hS ⊢
                              refine g5_rs [(a_th, (oc7 a_h a_k a_ba a_ad e_fu a_nx a_cn a_hp a_hl a_lv)), (a_ba, (arJ G 24 f_ba)), (a_ad, (arI G 1536 f_ad)), (a_cn, (arJ G 2048 z28)), (a_nx, (arJ G 2048 z30))] hP hD (fun hP hD => ?_)
                              refine lv_iinc (v := 14) (lv' := [(2, .int 14), (1, .int (e_fu + 1)), (0, .ref a_th)]) hx hb dX7_countRows_75 hl (k := 0) rfl (by decide) (by decide) rfl (fun ls hl => ?_)
                              refine lv_goto (tgt := 64) hx hb dX7_countRows_78 (by decide) ?_
                              refine lv_iload_n hx hb dX7_countRows_64 rfl (lv_at hl 0 rfl) ?_
                              refine lv_bipush (v := 24) hx hb dX7_countRows_65 (by decide) ?_
                              refine lv_icmp_ge (tgt := 81) hx hb dX7_countRows_67 (by decide) (fun c_31 => ?_) (fun c_31 => ?_)
                              ·
                                exact absurd c_31 (by decide)
                              ·
                                refine lv_aload_n hx hb dX7_countRows_70 rfl (lv_at hl 2 rfl) ?_
                                refine lv_iload_n hx hb dX7_countRows_71 rfl (lv_at hl 0 rfl) ?_
                                obtain ⟨hPc, hDc, hFc⟩ := g5_sub3 (wc := [(a_th, (oc7 a_h a_k a_ba a_ad e_fu a_nx a_cn a_hp a_hl a_lv)), (a_ba, (arJ G 24 f_ba)), (a_ad, (arI G 1536 f_ad)), (a_nx, (arJ G 2048 z30)), (a_cn, (arJ G 2048 z28))]) hP hD hS hA [0, 1, 2, 4, 3] (by decide) rfl
                                refine va_callv (va_runV (As := [.int 14]) (rest := []) ⟨hx, hb, hml, hown, hts⟩ (th_step l G a_th a_ba a_ad a_nx a_cn a_h a_k a_hp a_hl a_lv H.size e_fu 14 f_ba f_ad z30 z28 ⟨by decide, by decide⟩ (e_tk)) (cwV 1 hts gV_X7_102 rfl rfl rfl hv_X7_stepTo ⟨Nat.le_of_ble_eq_true rfl, Nat.le_of_ble_eq_true rfl⟩) (g5_preV hPc hK hDc hN hT hS hFc (ci := 7) (q0 := 0) rfl rfl) rfl rfl hl.1 rfl (lv_room (Nat.le_of_ble_eq_true rfl)) dX7_countRows_72 ⟨Nat.le_of_ble_eq_true rfl, Nat.le_of_ble_eq_true rfl⟩) hS (fun q _ h => hFc q h) hFc (fun u t H1 locs ht hvm hw hB hz1 hk1 hS => ?_)
                                obtain ⟨hP1, hD1⟩ := hB
                                rw [ht] at hP1
                                obtain ⟨z32, rfl⟩ := hw
                                obtain ⟨hP, hD⟩ := va_join (wr := []) hP hD [0, 1, 2, 4, 3] [] rfl rfl (by decide) (by decide) hk1 hFc hP1 hD1
                                generalize H1 = H at hP hS ⊢
                                refine g5_rs [(a_th, (oc7 a_h a_k a_ba a_ad e_fu a_cn a_nx a_hp a_hl a_lv)), (a_ba, (arJ G 24 f_ba)), (a_ad, (arI G 1536 f_ad)), (a_nx, (arJ G 2048 z30)), (a_cn, (arJ G 2048 z32))] hP hD (fun hP hD => ?_)
                                refine lv_iinc (v := 15) (lv' := [(2, .int 15), (1, .int (e_fu + 1)), (0, .ref a_th)]) hx hb dX7_countRows_75 hl (k := 0) rfl (by decide) (by decide) rfl (fun ls hl => ?_)
                                refine lv_goto (tgt := 64) hx hb dX7_countRows_78 (by decide) ?_
                                refine lv_iload_n hx hb dX7_countRows_64 rfl (lv_at hl 0 rfl) ?_
                                refine lv_bipush (v := 24) hx hb dX7_countRows_65 (by decide) ?_
                                refine lv_icmp_ge (tgt := 81) hx hb dX7_countRows_67 (by decide) (fun c_33 => ?_) (fun c_33 => ?_)
                                ·
                                  exact absurd c_33 (by decide)
                                ·
                                  refine lv_aload_n hx hb dX7_countRows_70 rfl (lv_at hl 2 rfl) ?_
                                  refine lv_iload_n hx hb dX7_countRows_71 rfl (lv_at hl 0 rfl) ?_
                                  obtain ⟨hPc, hDc, hFc⟩ := g5_sub3 (wc := [(a_th, (oc7 a_h a_k a_ba a_ad e_fu a_cn a_nx a_hp a_hl a_lv)), (a_ba, (arJ G 24 f_ba)), (a_ad, (arI G 1536 f_ad)), (a_cn, (arJ G 2048 z32)), (a_nx, (arJ G 2048 z30))]) hP hD hS hA [0, 1, 2, 4, 3] (by decide) rfl
                                  refine va_callv (va_runV (As := [.int 15]) (rest := []) ⟨hx, hb, hml, hown, hts⟩ (th_step l G a_th a_ba a_ad a_cn a_nx a_h a_k a_hp a_hl a_lv H.size e_fu 15 f_ba f_ad z32 z30 ⟨by decide, by decide⟩ (e_tk)) (cwV 1 hts gV_X7_102 rfl rfl rfl hv_X7_stepTo ⟨Nat.le_of_ble_eq_true rfl, Nat.le_of_ble_eq_true rfl⟩) (g5_preV hPc hK hDc hN hT hS hFc (ci := 7) (q0 := 0) rfl rfl) rfl rfl hl.1 rfl (lv_room (Nat.le_of_ble_eq_true rfl)) dX7_countRows_72 ⟨Nat.le_of_ble_eq_true rfl, Nat.le_of_ble_eq_true rfl⟩) hS (fun q _ h => hFc q h) hFc (fun u t H1 locs ht hvm hw hB hz1 hk1 hS => ?_)
                                  obtain ⟨hP1, hD1⟩ := hB
                                  rw [ht] at hP1
                                  obtain ⟨z34, rfl⟩ := hw
                                  obtain ⟨hP, hD⟩ := va_join (wr := []) hP hD [0, 1, 2, 4, 3] [] rfl rfl (by decide) (by decide) hk1 hFc hP1 hD1
                                  generalize H1 = H at hP hS ⊢
                                  refine g5_rs [(a_th, (oc7 a_h a_k a_ba a_ad e_fu a_nx a_cn a_hp a_hl a_lv)), (a_ba, (arJ G 24 f_ba)), (a_ad, (arI G 1536 f_ad)), (a_cn, (arJ G 2048 z32)), (a_nx, (arJ G 2048 z34))] hP hD (fun hP hD => ?_)
                                  refine lv_iinc (v := 16) (lv' := [(2, .int 16), (1, .int (e_fu + 1)), (0, .ref a_th)]) hx hb dX7_countRows_75 hl (k := 0) rfl (by decide) (by decide) rfl (fun ls hl => ?_)
                                  refine lv_goto (tgt := 64) hx hb dX7_countRows_78 (by decide) ?_
                                  refine lv_iload_n hx hb dX7_countRows_64 rfl (lv_at hl 0 rfl) ?_
                                  refine lv_bipush (v := 24) hx hb dX7_countRows_65 (by decide) ?_
                                  refine lv_icmp_ge (tgt := 81) hx hb dX7_countRows_67 (by decide) (fun c_35 => ?_) (fun c_35 => ?_)
                                  ·
                                    exact absurd c_35 (by decide)
                                  ·
                                    refine lv_aload_n hx hb dX7_countRows_70 rfl (lv_at hl 2 rfl) ?_
                                    refine lv_iload_n hx hb dX7_countRows_71 rfl (lv_at hl 0 rfl) ?_
                                    obtain ⟨hPc, hDc, hFc⟩ := g5_sub3 (wc := [(a_th, (oc7 a_h a_k a_ba a_ad e_fu a_nx a_cn a_hp a_hl a_lv)), (a_ba, (arJ G 24 f_ba)), (a_ad, (arI G 1536 f_ad)), (a_nx, (arJ G 2048 z34)), (a_cn, (arJ G 2048 z32))]) hP hD hS hA [0, 1, 2, 4, 3] (by decide) rfl
                                    refine va_callv (va_runV (As := [.int 16]) (rest := []) ⟨hx, hb, hml, hown, hts⟩ (th_step l G a_th a_ba a_ad a_nx a_cn a_h a_k a_hp a_hl a_lv H.size e_fu 16 f_ba f_ad z34 z32 ⟨by decide, by decide⟩ (e_tk)) (cwV 1 hts gV_X7_102 rfl rfl rfl hv_X7_stepTo ⟨Nat.le_of_ble_eq_true rfl, Nat.le_of_ble_eq_true rfl⟩) (g5_preV hPc hK hDc hN hT hS hFc (ci := 7) (q0 := 0) rfl rfl) rfl rfl hl.1 rfl (lv_room (Nat.le_of_ble_eq_true rfl)) dX7_countRows_72 ⟨Nat.le_of_ble_eq_true rfl, Nat.le_of_ble_eq_true rfl⟩) hS (fun q _ h => hFc q h) hFc (fun u t H1 locs ht hvm hw hB hz1 hk1 hS => ?_)
                                    obtain ⟨hP1, hD1⟩ := hB
                                    rw [ht] at hP1
                                    obtain ⟨z36, rfl⟩ := hw
                                    obtain ⟨hP, hD⟩ := va_join (wr := []) hP hD [0, 1, 2, 4, 3] [] rfl rfl (by decide) (by decide) hk1 hFc hP1 hD1
                                    generalize H1 = H at hP hS ⊢
                                    refine g5_rs [(a_th, (oc7 a_h a_k a_ba a_ad e_fu a_cn a_nx a_hp a_hl a_lv)), (a_ba, (arJ G 24 f_ba)), (a_ad, (arI G 1536 f_ad)), (a_nx, (arJ G 2048 z34)), (a_cn, (arJ G 2048 z36))] hP hD (fun hP hD => ?_)
                                    refine lv_iinc (v := 17) (lv' := [(2, .int 17), (1, .int (e_fu + 1)), (0, .ref a_th)]) hx hb dX7_countRows_75 hl (k := 0) rfl (by decide) (by decide) rfl (fun ls hl => ?_)
                                    refine lv_goto (tgt := 64) hx hb dX7_countRows_78 (by decide) ?_
                                    refine lv_iload_n hx hb dX7_countRows_64 rfl (lv_at hl 0 rfl) ?_
                                    refine lv_bipush (v := 24) hx hb dX7_countRows_65 (by decide) ?_
                                    refine lv_icmp_ge (tgt := 81) hx hb dX7_countRows_67 (by decide) (fun c_37 => ?_) (fun c_37 => ?_)
                                    ·
                                      exact absurd c_37 (by decide)
                                    ·
                                      refine lv_aload_n hx hb dX7_countRows_70 rfl (lv_at hl 2 rfl) ?_
                                      refine lv_iload_n hx hb dX7_countRows_71 rfl (lv_at hl 0 rfl) ?_
                                      obtain ⟨hPc, hDc, hFc⟩ := g5_sub3 (wc := [(a_th, (oc7 a_h a_k a_ba a_ad e_fu a_cn a_nx a_hp a_hl a_lv)), (a_ba, (arJ G 24 f_ba)), (a_ad, (arI G 1536 f_ad)), (a_cn, (arJ G 2048 z36)), (a_nx, (arJ G 2048 z34))]) hP hD hS hA [0, 1, 2, 4, 3] (by decide) rfl
                                      refine va_callv (va_runV (As := [.int 17]) (rest := []) ⟨hx, hb, hml, hown, hts⟩ (th_step l G a_th a_ba a_ad a_cn a_nx a_h a_k a_hp a_hl a_lv H.size e_fu 17 f_ba f_ad z36 z34 ⟨by decide, by decide⟩ (e_tk)) (cwV 1 hts gV_X7_102 rfl rfl rfl hv_X7_stepTo ⟨Nat.le_of_ble_eq_true rfl, Nat.le_of_ble_eq_true rfl⟩) (g5_preV hPc hK hDc hN hT hS hFc (ci := 7) (q0 := 0) rfl rfl) rfl rfl hl.1 rfl (lv_room (Nat.le_of_ble_eq_true rfl)) dX7_countRows_72 ⟨Nat.le_of_ble_eq_true rfl, Nat.le_of_ble_eq_true rfl⟩) hS (fun q _ h => hFc q h) hFc (fun u t H1 locs ht hvm hw hB hz1 hk1 hS => ?_)
                                      obtain ⟨hP1, hD1⟩ := hB
                                      rw [ht] at hP1
                                      obtain ⟨z38, rfl⟩ := hw
                                      obtain ⟨hP, hD⟩ := va_join (wr := []) hP hD [0, 1, 2, 4, 3] [] rfl rfl (by decide) (by decide) hk1 hFc hP1 hD1
                                      generalize H1 = H at hP hS ⊢
                                      refine g5_rs [(a_th, (oc7 a_h a_k a_ba a_ad e_fu a_nx a_cn a_hp a_hl a_lv)), (a_ba, (arJ G 24 f_ba)), (a_ad, (arI G 1536 f_ad)), (a_cn, (arJ G 2048 z36)), (a_nx, (arJ G 2048 z38))] hP hD (fun hP hD => ?_)
                                      refine lv_iinc (v := 18) (lv' := [(2, .int 18), (1, .int (e_fu + 1)), (0, .ref a_th)]) hx hb dX7_countRows_75 hl (k := 0) rfl (by decide) (by decide) rfl (fun ls hl => ?_)
                                      refine lv_goto (tgt := 64) hx hb dX7_countRows_78 (by decide) ?_
                                      refine lv_iload_n hx hb dX7_countRows_64 rfl (lv_at hl 0 rfl) ?_
                                      refine lv_bipush (v := 24) hx hb dX7_countRows_65 (by decide) ?_
                                      refine lv_icmp_ge (tgt := 81) hx hb dX7_countRows_67 (by decide) (fun c_39 => ?_) (fun c_39 => ?_)
                                      ·
                                        exact absurd c_39 (by decide)
                                      ·
                                        refine lv_aload_n hx hb dX7_countRows_70 rfl (lv_at hl 2 rfl) ?_
                                        refine lv_iload_n hx hb dX7_countRows_71 rfl (lv_at hl 0 rfl) ?_
                                        obtain ⟨hPc, hDc, hFc⟩ := g5_sub3 (wc := [(a_th, (oc7 a_h a_k a_ba a_ad e_fu a_nx a_cn a_hp a_hl a_lv)), (a_ba, (arJ G 24 f_ba)), (a_ad, (arI G 1536 f_ad)), (a_nx, (arJ G 2048 z38)), (a_cn, (arJ G 2048 z36))]) hP hD hS hA [0, 1, 2, 4, 3] (by decide) rfl
                                        refine va_callv (va_runV (As := [.int 18]) (rest := []) ⟨hx, hb, hml, hown, hts⟩ (th_step l G a_th a_ba a_ad a_nx a_cn a_h a_k a_hp a_hl a_lv H.size e_fu 18 f_ba f_ad z38 z36 ⟨by decide, by decide⟩ (e_tk)) (cwV 1 hts gV_X7_102 rfl rfl rfl hv_X7_stepTo ⟨Nat.le_of_ble_eq_true rfl, Nat.le_of_ble_eq_true rfl⟩) (g5_preV hPc hK hDc hN hT hS hFc (ci := 7) (q0 := 0) rfl rfl) rfl rfl hl.1 rfl (lv_room (Nat.le_of_ble_eq_true rfl)) dX7_countRows_72 ⟨Nat.le_of_ble_eq_true rfl, Nat.le_of_ble_eq_true rfl⟩) hS (fun q _ h => hFc q h) hFc (fun u t H1 locs ht hvm hw hB hz1 hk1 hS => ?_)
                                        obtain ⟨hP1, hD1⟩ := hB
                                        rw [ht] at hP1
                                        obtain ⟨z40, rfl⟩ := hw
                                        obtain ⟨hP, hD⟩ := va_join (wr := []) hP hD [0, 1, 2, 4, 3] [] rfl rfl (by decide) (by decide) hk1 hFc hP1 hD1
                                        generalize H1 = H at hP hS ⊢
                                        refine g5_rs [(a_th, (oc7 a_h a_k a_ba a_ad e_fu a_cn a_nx a_hp a_hl a_lv)), (a_ba, (arJ G 24 f_ba)), (a_ad, (arI G 1536 f_ad)), (a_nx, (arJ G 2048 z38)), (a_cn, (arJ G 2048 z40))] hP hD (fun hP hD => ?_)
                                        refine lv_iinc (v := 19) (lv' := [(2, .int 19), (1, .int (e_fu + 1)), (0, .ref a_th)]) hx hb dX7_countRows_75 hl (k := 0) rfl (by decide) (by decide) rfl (fun ls hl => ?_)
                                        refine lv_goto (tgt := 64) hx hb dX7_countRows_78 (by decide) ?_
                                        refine lv_iload_n hx hb dX7_countRows_64 rfl (lv_at hl 0 rfl) ?_
                                        refine lv_bipush (v := 24) hx hb dX7_countRows_65 (by decide) ?_
                                        refine lv_icmp_ge (tgt := 81) hx hb dX7_countRows_67 (by decide) (fun c_41 => ?_) (fun c_41 => ?_)
                                        ·
                                          exact absurd c_41 (by decide)
                                        ·
                                          refine lv_aload_n hx hb dX7_countRows_70 rfl (lv_at hl 2 rfl) ?_
                                          refine lv_iload_n hx hb dX7_countRows_71 rfl (lv_at hl 0 rfl) ?_
                                          obtain ⟨hPc, hDc, hFc⟩ := g5_sub3 (wc := [(a_th, (oc7 a_h a_k a_ba a_ad e_fu a_cn a_nx a_hp a_hl a_lv)), (a_ba, (arJ G 24 f_ba)), (a_ad, (arI G 1536 f_ad)), (a_cn, (arJ G 2048 z40)), (a_nx, (arJ G 2048 z38))]) hP hD hS hA [0, 1, 2, 4, 3] (by decide) rfl
                                          refine va_callv (va_runV (As := [.int 19]) (rest := []) ⟨hx, hb, hml, hown, hts⟩ (th_step l G a_th a_ba a_ad a_cn a_nx a_h a_k a_hp a_hl a_lv H.size e_fu 19 f_ba f_ad z40 z38 ⟨by decide, by decide⟩ (e_tk)) (cwV 1 hts gV_X7_102 rfl rfl rfl hv_X7_stepTo ⟨Nat.le_of_ble_eq_true rfl, Nat.le_of_ble_eq_true rfl⟩) (g5_preV hPc hK hDc hN hT hS hFc (ci := 7) (q0 := 0) rfl rfl) rfl rfl hl.1 rfl (lv_room (Nat.le_of_ble_eq_true rfl)) dX7_countRows_72 ⟨Nat.le_of_ble_eq_true rfl, Nat.le_of_ble_eq_true rfl⟩) hS (fun q _ h => hFc q h) hFc (fun u t H1 locs ht hvm hw hB hz1 hk1 hS => ?_)
                                          obtain ⟨hP1, hD1⟩ := hB
                                          rw [ht] at hP1
                                          obtain ⟨z42, rfl⟩ := hw
                                          obtain ⟨hP, hD⟩ := va_join (wr := []) hP hD [0, 1, 2, 4, 3] [] rfl rfl (by decide) (by decide) hk1 hFc hP1 hD1
                                          generalize H1 = H at hP hS ⊢
                                          refine g5_rs [(a_th, (oc7 a_h a_k a_ba a_ad e_fu a_nx a_cn a_hp a_hl a_lv)), (a_ba, (arJ G 24 f_ba)), (a_ad, (arI G 1536 f_ad)), (a_cn, (arJ G 2048 z40)), (a_nx, (arJ G 2048 z42))] hP hD (fun hP hD => ?_)
                                          refine lv_iinc (v := 20) (lv' := [(2, .int 20), (1, .int (e_fu + 1)), (0, .ref a_th)]) hx hb dX7_countRows_75 hl (k := 0) rfl (by decide) (by decide) rfl (fun ls hl => ?_)
                                          refine lv_goto (tgt := 64) hx hb dX7_countRows_78 (by decide) ?_
                                          refine lv_iload_n hx hb dX7_countRows_64 rfl (lv_at hl 0 rfl) ?_
                                          refine lv_bipush (v := 24) hx hb dX7_countRows_65 (by decide) ?_
                                          refine lv_icmp_ge (tgt := 81) hx hb dX7_countRows_67 (by decide) (fun c_43 => ?_) (fun c_43 => ?_)
                                          ·
                                            exact absurd c_43 (by decide)
                                          ·
                                            refine lv_aload_n hx hb dX7_countRows_70 rfl (lv_at hl 2 rfl) ?_
                                            refine lv_iload_n hx hb dX7_countRows_71 rfl (lv_at hl 0 rfl) ?_
                                            obtain ⟨hPc, hDc, hFc⟩ := g5_sub3 (wc := [(a_th, (oc7 a_h a_k a_ba a_ad e_fu a_nx a_cn a_hp a_hl a_lv)), (a_ba, (arJ G 24 f_ba)), (a_ad, (arI G 1536 f_ad)), (a_nx, (arJ G 2048 z42)), (a_cn, (arJ G 2048 z40))]) hP hD hS hA [0, 1, 2, 4, 3] (by decide) rfl
                                            refine va_callv (va_runV (As := [.int 20]) (rest := []) ⟨hx, hb, hml, hown, hts⟩ (th_step l G a_th a_ba a_ad a_nx a_cn a_h a_k a_hp a_hl a_lv H.size e_fu 20 f_ba f_ad z42 z40 ⟨by decide, by decide⟩ (e_tk)) (cwV 1 hts gV_X7_102 rfl rfl rfl hv_X7_stepTo ⟨Nat.le_of_ble_eq_true rfl, Nat.le_of_ble_eq_true rfl⟩) (g5_preV hPc hK hDc hN hT hS hFc (ci := 7) (q0 := 0) rfl rfl) rfl rfl hl.1 rfl (lv_room (Nat.le_of_ble_eq_true rfl)) dX7_countRows_72 ⟨Nat.le_of_ble_eq_true rfl, Nat.le_of_ble_eq_true rfl⟩) hS (fun q _ h => hFc q h) hFc (fun u t H1 locs ht hvm hw hB hz1 hk1 hS => ?_)
                                            obtain ⟨hP1, hD1⟩ := hB
                                            rw [ht] at hP1
                                            obtain ⟨z44, rfl⟩ := hw
                                            obtain ⟨hP, hD⟩ := va_join (wr := []) hP hD [0, 1, 2, 4, 3] [] rfl rfl (by decide) (by decide) hk1 hFc hP1 hD1
                                            generalize H1 = H at hP hS ⊢
                                            refine g5_rs [(a_th, (oc7 a_h a_k a_ba a_ad e_fu a_cn a_nx a_hp a_hl a_lv)), (a_ba, (arJ G 24 f_ba)), (a_ad, (arI G 1536 f_ad)), (a_nx, (arJ G 2048 z42)), (a_cn, (arJ G 2048 z44))] hP hD (fun hP hD => ?_)
                                            refine lv_iinc (v := 21) (lv' := [(2, .int 21), (1, .int (e_fu + 1)), (0, .ref a_th)]) hx hb dX7_countRows_75 hl (k := 0) rfl (by decide) (by decide) rfl (fun ls hl => ?_)
                                            refine lv_goto (tgt := 64) hx hb dX7_countRows_78 (by decide) ?_
                                            refine lv_iload_n hx hb dX7_countRows_64 rfl (lv_at hl 0 rfl) ?_
                                            refine lv_bipush (v := 24) hx hb dX7_countRows_65 (by decide) ?_
                                            refine lv_icmp_ge (tgt := 81) hx hb dX7_countRows_67 (by decide) (fun c_45 => ?_) (fun c_45 => ?_)
                                            ·
                                              exact absurd c_45 (by decide)
                                            ·
                                              refine lv_aload_n hx hb dX7_countRows_70 rfl (lv_at hl 2 rfl) ?_
                                              refine lv_iload_n hx hb dX7_countRows_71 rfl (lv_at hl 0 rfl) ?_
                                              obtain ⟨hPc, hDc, hFc⟩ := g5_sub3 (wc := [(a_th, (oc7 a_h a_k a_ba a_ad e_fu a_cn a_nx a_hp a_hl a_lv)), (a_ba, (arJ G 24 f_ba)), (a_ad, (arI G 1536 f_ad)), (a_cn, (arJ G 2048 z44)), (a_nx, (arJ G 2048 z42))]) hP hD hS hA [0, 1, 2, 4, 3] (by decide) rfl
                                              refine va_callv (va_runV (As := [.int 21]) (rest := []) ⟨hx, hb, hml, hown, hts⟩ (th_step l G a_th a_ba a_ad a_cn a_nx a_h a_k a_hp a_hl a_lv H.size e_fu 21 f_ba f_ad z44 z42 ⟨by decide, by decide⟩ (e_tk)) (cwV 1 hts gV_X7_102 rfl rfl rfl hv_X7_stepTo ⟨Nat.le_of_ble_eq_true rfl, Nat.le_of_ble_eq_true rfl⟩) (g5_preV hPc hK hDc hN hT hS hFc (ci := 7) (q0 := 0) rfl rfl) rfl rfl hl.1 rfl (lv_room (Nat.le_of_ble_eq_true rfl)) dX7_countRows_72 ⟨Nat.le_of_ble_eq_true rfl, Nat.le_of_ble_eq_true rfl⟩) hS (fun q _ h => hFc q h) hFc (fun u t H1 locs ht hvm hw hB hz1 hk1 hS => ?_)
                                              obtain ⟨hP1, hD1⟩ := hB
                                              rw [ht] at hP1
                                              obtain ⟨z46, rfl⟩ := hw
                                              obtain ⟨hP, hD⟩ := va_join (wr := []) hP hD [0, 1, 2, 4, 3] [] rfl rfl (by decide) (by decide) hk1 hFc hP1 hD1
                                              generalize H1 = H at hP hS ⊢
                                              refine g5_rs [(a_th, (oc7 a_h a_k a_ba a_ad e_fu a_nx a_cn a_hp a_hl a_lv)), (a_ba, (arJ G 24 f_ba)), (a_ad, (arI G 1536 f_ad)), (a_cn, (arJ G 2048 z44)), (a_nx, (arJ G 2048 z46))] hP hD (fun hP hD => ?_)
                                              refine lv_iinc (v := 22) (lv' := [(2, .int 22), (1, .int (e_fu + 1)), (0, .ref a_th)]) hx hb dX7_countRows_75 hl (k := 0) rfl (by decide) (by decide) rfl (fun ls hl => ?_)
                                              refine lv_goto (tgt := 64) hx hb dX7_countRows_78 (by decide) ?_
                                              refine lv_iload_n hx hb dX7_countRows_64 rfl (lv_at hl 0 rfl) ?_
                                              refine lv_bipush (v := 24) hx hb dX7_countRows_65 (by decide) ?_
                                              refine lv_icmp_ge (tgt := 81) hx hb dX7_countRows_67 (by decide) (fun c_47 => ?_) (fun c_47 => ?_)
                                              ·
                                                exact absurd c_47 (by decide)
                                              ·
                                                refine lv_aload_n hx hb dX7_countRows_70 rfl (lv_at hl 2 rfl) ?_
                                                refine lv_iload_n hx hb dX7_countRows_71 rfl (lv_at hl 0 rfl) ?_
                                                obtain ⟨hPc, hDc, hFc⟩ := g5_sub3 (wc := [(a_th, (oc7 a_h a_k a_ba a_ad e_fu a_nx a_cn a_hp a_hl a_lv)), (a_ba, (arJ G 24 f_ba)), (a_ad, (arI G 1536 f_ad)), (a_nx, (arJ G 2048 z46)), (a_cn, (arJ G 2048 z44))]) hP hD hS hA [0, 1, 2, 4, 3] (by decide) rfl
                                                refine va_callv (va_runV (As := [.int 22]) (rest := []) ⟨hx, hb, hml, hown, hts⟩ (th_step l G a_th a_ba a_ad a_nx a_cn a_h a_k a_hp a_hl a_lv H.size e_fu 22 f_ba f_ad z46 z44 ⟨by decide, by decide⟩ (e_tk)) (cwV 1 hts gV_X7_102 rfl rfl rfl hv_X7_stepTo ⟨Nat.le_of_ble_eq_true rfl, Nat.le_of_ble_eq_true rfl⟩) (g5_preV hPc hK hDc hN hT hS hFc (ci := 7) (q0 := 0) rfl rfl) rfl rfl hl.1 rfl (lv_room (Nat.le_of_ble_eq_true rfl)) dX7_countRows_72 ⟨Nat.le_of_ble_eq_true rfl, Nat.le_of_ble_eq_true rfl⟩) hS (fun q _ h => hFc q h) hFc (fun u t H1 locs ht hvm hw hB hz1 hk1 hS => ?_)
                                                obtain ⟨hP1, hD1⟩ := hB
                                                rw [ht] at hP1
                                                obtain ⟨z48, rfl⟩ := hw
                                                obtain ⟨hP, hD⟩ := va_join (wr := []) hP hD [0, 1, 2, 4, 3] [] rfl rfl (by decide) (by decide) hk1 hFc hP1 hD1
                                                generalize H1 = H at hP hS ⊢
                                                refine g5_rs [(a_th, (oc7 a_h a_k a_ba a_ad e_fu a_cn a_nx a_hp a_hl a_lv)), (a_ba, (arJ G 24 f_ba)), (a_ad, (arI G 1536 f_ad)), (a_nx, (arJ G 2048 z46)), (a_cn, (arJ G 2048 z48))] hP hD (fun hP hD => ?_)
                                                refine lv_iinc (v := 23) (lv' := [(2, .int 23), (1, .int (e_fu + 1)), (0, .ref a_th)]) hx hb dX7_countRows_75 hl (k := 0) rfl (by decide) (by decide) rfl (fun ls hl => ?_)
                                                refine lv_goto (tgt := 64) hx hb dX7_countRows_78 (by decide) ?_
                                                refine lv_iload_n hx hb dX7_countRows_64 rfl (lv_at hl 0 rfl) ?_
                                                refine lv_bipush (v := 24) hx hb dX7_countRows_65 (by decide) ?_
                                                refine lv_icmp_ge (tgt := 81) hx hb dX7_countRows_67 (by decide) (fun c_49 => ?_) (fun c_49 => ?_)
                                                ·
                                                  exact absurd c_49 (by decide)
                                                ·
                                                  refine lv_aload_n hx hb dX7_countRows_70 rfl (lv_at hl 2 rfl) ?_
                                                  refine lv_iload_n hx hb dX7_countRows_71 rfl (lv_at hl 0 rfl) ?_
                                                  obtain ⟨hPc, hDc, hFc⟩ := g5_sub3 (wc := [(a_th, (oc7 a_h a_k a_ba a_ad e_fu a_cn a_nx a_hp a_hl a_lv)), (a_ba, (arJ G 24 f_ba)), (a_ad, (arI G 1536 f_ad)), (a_cn, (arJ G 2048 z48)), (a_nx, (arJ G 2048 z46))]) hP hD hS hA [0, 1, 2, 4, 3] (by decide) rfl
                                                  refine va_callv (va_runV (As := [.int 23]) (rest := []) ⟨hx, hb, hml, hown, hts⟩ (th_step l G a_th a_ba a_ad a_cn a_nx a_h a_k a_hp a_hl a_lv H.size e_fu 23 f_ba f_ad z48 z46 ⟨by decide, by decide⟩ (e_tk)) (cwV 1 hts gV_X7_102 rfl rfl rfl hv_X7_stepTo ⟨Nat.le_of_ble_eq_true rfl, Nat.le_of_ble_eq_true rfl⟩) (g5_preV hPc hK hDc hN hT hS hFc (ci := 7) (q0 := 0) rfl rfl) rfl rfl hl.1 rfl (lv_room (Nat.le_of_ble_eq_true rfl)) dX7_countRows_72 ⟨Nat.le_of_ble_eq_true rfl, Nat.le_of_ble_eq_true rfl⟩) hS (fun q _ h => hFc q h) hFc (fun u t H1 locs ht hvm hw hB hz1 hk1 hS => ?_)
                                                  obtain ⟨hP1, hD1⟩ := hB
                                                  rw [ht] at hP1
                                                  obtain ⟨z50, rfl⟩ := hw
                                                  obtain ⟨hP, hD⟩ := va_join (wr := []) hP hD [0, 1, 2, 4, 3] [] rfl rfl (by decide) (by decide) hk1 hFc hP1 hD1
                                                  generalize H1 = H at hP hS ⊢
                                                  refine g5_rs [(a_th, (oc7 a_h a_k a_ba a_ad e_fu a_nx a_cn a_hp a_hl a_lv)), (a_ba, (arJ G 24 f_ba)), (a_ad, (arI G 1536 f_ad)), (a_cn, (arJ G 2048 z48)), (a_nx, (arJ G 2048 z50))] hP hD (fun hP hD => ?_)
                                                  refine lv_iinc (v := 24) (lv' := [(2, .int 24), (1, .int (e_fu + 1)), (0, .ref a_th)]) hx hb dX7_countRows_75 hl (k := 0) rfl (by decide) (by decide) rfl (fun ls hl => ?_)
                                                  refine lv_goto (tgt := 64) hx hb dX7_countRows_78 (by decide) ?_
                                                  refine lv_iload_n hx hb dX7_countRows_64 rfl (lv_at hl 0 rfl) ?_
                                                  refine lv_bipush (v := 24) hx hb dX7_countRows_65 (by decide) ?_
                                                  refine lv_icmp_ge (tgt := 81) hx hb dX7_countRows_67 (by decide) (fun c_51 => ?_) (fun c_51 => ?_)
                                                  ·
                                                    refine lv_lconst (v := 0) hx hb dX7_countRows_81 (by decide) ?_
                                                    refine lv_lstore_n (lv' := [(2, .long 0), (1, .int (e_fu + 1)), (0, .ref a_th)]) hx hb dX7_countRows_82 rfl hl (by decide) rfl (fun ls hl => ?_)
                                                    refine lv_iconst (v := 0) hx hb dX7_countRows_83 (by decide) ?_
                                                    refine lv_istore (lv' := [(4, .int 0), (2, .long 0), (1, .int (e_fu + 1)), (0, .ref a_th)]) hx hb dX7_countRows_84 hl (by decide) rfl (fun ls hl => ?_)
                                                    refine g5_loop (α := (Int32) × (Int64)) (fun (q : (Int32) × (Int64)) (ls : Array Slot) (H : Heap) (locs : List Loc) => match q with | (n_c, n_x) => lv_has ls 5 [(2, .long n_x), (4, .int n_c), (1, .int (e_fu + 1)), (0, .ref a_th)] ∧ va_P G.1 vwCl [(a_th, (oc7 a_h a_k a_ba a_ad e_fu a_nx a_cn a_hp a_hl a_lv)), (a_ba, (arJ G 24 f_ba)), (a_ad, (arI G 1536 f_ad)), (a_cn, (arJ G 2048 z48)), (a_nx, (arJ G 2048 z50))] H ∧ va_D A [(a_th, (oc7 a_h a_k a_ba a_ad e_fu a_nx a_cn a_hp a_hl a_lv)), (a_ba, (arJ G 24 f_ba)), (a_ad, (arI G 1536 f_ad)), (a_cn, (arJ G 2048 z48)), (a_nx, (arJ G 2048 z50))] ∧ va_S A s.heap H locs ∧ (0 ≤ n_c.toInt ∧ n_c.toInt ≤ 64)) (fun (q : (Int32) × (Int64)) => match q with | (n_c, n_x) => Int.toNat (64 - n_c.toInt)) (0, 0) ⟨lv_sub hl [1, 0, 2, 3] rfl, hP, hD, hS, ⟨by decide, by decide⟩⟩ ?_
                                                    rintro ⟨n_c, n_x⟩ ls H locs ⟨hl, hP, hD, hS, i_52⟩ ih_86_53
                                                    have hl : lv_has ls 5 [(2, .long n_x), (4, .int n_c), (1, .int (e_fu + 1)), (0, .ref a_th)] := hl
                                                    have i_52 : 0 ≤ n_c.toInt ∧ n_c.toInt ≤ 64 := i_52
                                                    refine g5_rs [(a_th, (oc7 a_h a_k a_ba a_ad e_fu a_nx a_cn a_hp a_hl a_lv)), (a_ba, (arJ G 24 f_ba)), (a_ad, (arI G 1536 f_ad)), (a_cn, (arJ G 2048 z48)), (a_nx, (arJ G 2048 z50))] hP hD (fun hP hD => ?_)
                                                    refine lv_iload hx hb dX7_countRows_86 (lv_at hl 1 rfl) ?_
                                                    refine lv_bipush (v := 64) hx hb dX7_countRows_88 (by decide) ?_
                                                    refine lv_icmp_ge (tgt := 116) hx hb dX7_countRows_90 (by decide) (fun c_54 => ?_) (fun c_54 => ?_)
                                                    ·
                                                      have i_54 : n_c.toInt ≥ 64 := by have z := g5_ge (a := n_c.toInt) (b := 64) (by rfl) (by decide) c_54; omega
                                                      refine lv_lload_n hx hb dX7_countRows_116 rfl (lv_at hl 0 rfl) ?_
                                                      exact W.lret (v := n_x) hx hb hr (fun t ht hW => ⟨⟨n_x, [(a_th, (oc7 a_h a_k a_ba a_ad e_fu a_nx a_cn a_hp a_hl a_lv)), (a_ba, (arJ G 24 f_ba)), (a_ad, (arI G 1536 f_ad)), (a_cn, (arJ G 2048 z48)), (a_nx, (arJ G 2048 z50))], rfl, ⟨n_x, z48, z50, rfl, rfl⟩, by rw [ht]; exact hP.sub [0, 1, 2, 3, 4] rfl, hD.sub [0, 1, 2, 3, 4] (by decide) rfl⟩, hS.F ht⟩) hS.2.2 dX7_countRows_117
                                                    ·
                                                      have i_54 : n_c.toInt < 64 := by have z := g5_geN (a := n_c.toInt) (b := 64) (by rfl) (by decide) c_54; omega
                                                      refine lv_lload_n hx hb dX7_countRows_93 rfl (lv_at hl 0 rfl) ?_
                                                      refine lv_aload_n hx hb dX7_countRows_94 rfl (lv_at hl 3 rfl) ?_
                                                      refine va_get (D := G.1) (ci := 7) (v := .ref a_nx) (C := RX7) (T := TX7) (N := 10) hx hb hts inG_X7 hown hK hP 0 rfl rfl 5 (by decide) (hts _ fl_X7_19) (fun _ h9 => h9) rfl dX7_countRows_95 ?_
                                                      refine lv_iload hx hb dX7_countRows_98 (lv_at hl 1 rfl) ?_
                                                      refine lv_iload_n hx hb dX7_countRows_100 rfl (lv_at hl 2 rfl) ?_
                                                      refine lv_imul hx hb dX7_countRows_101 ?_
                                                      have hm_55 := g_mulc (c := n_c) (m := (e_fu + 1)) ⟨by omega, by omega⟩ ⟨by omega, by omega⟩
                                                      refine lv_aload_n hx hb dX7_countRows_102 rfl (lv_at hl 3 rfl) ?_
                                                      refine va_get (D := G.1) (ci := 7) (v := .int e_fu) (C := RX7) (T := TX7) (N := 10) hx hb hts inG_X7 hown hK hP 0 rfl rfl 4 (by decide) (hts _ fl_X7_89) (fun _ h9 => h9) rfl dX7_countRows_103 ?_
                                                      refine lv_iadd hx hb dX7_countRows_106 ?_
                                                      have t_56 : ((n_c * (e_fu + 1)) + e_fu).toInt = (n_c * (e_fu + 1)).toInt + e_fu.toInt := g5_iadd (a := (n_c * (e_fu + 1)).toInt) (b := e_fu.toInt) (by rfl) (by rfl) (by omega) (by omega)
                                                      refine va_lald hx hb hK hP 4 1 rfl rfl (i := ((n_c * (e_fu + 1)) + e_fu)) (vp_in_iff.mpr ⟨by omega, by omega⟩) dX7_countRows_107 ?_
                                                      refine lv_ladd hx hb dX7_countRows_108 ?_
                                                      refine lv_lstore_n (lv' := [(2, .long (n_x + (z50 ((n_c * (e_fu + 1)) + e_fu).toNatClampNeg))), (4, .int n_c), (1, .int (e_fu + 1)), (0, .ref a_th)]) hx hb dX7_countRows_109 rfl hl (by decide) rfl (fun ls hl => ?_)
                                                      refine lv_iinc (v := (n_c + 1)) (lv' := [(4, .int (n_c + 1)), (2, .long (n_x + (z50 ((n_c * (e_fu + 1)) + e_fu).toNatClampNeg))), (1, .int (e_fu + 1)), (0, .ref a_th)]) hx hb dX7_countRows_110 hl (k := 1) rfl rfl (by decide) rfl (fun ls hl => ?_)
                                                      have t_57 : (n_c + 1).toInt = n_c.toInt + 1 := g5_iadd (a := n_c.toInt) (b := 1) rfl (by decide) (by omega) (by omega)
                                                      refine lv_goto (tgt := 86) hx hb dX7_countRows_113 (by decide) ?_
                                                      exact ih_86_53 ((n_c + 1), (n_x + (z50 ((n_c * (e_fu + 1)) + e_fu).toNatClampNeg))) ls H locs (show Int.toNat (64 - (n_c + 1).toInt) < Int.toNat (64 - n_c.toInt) from g_up (show n_c.toInt < (n_c + 1).toInt by omega) (show n_c.toInt < 64 by omega)) ⟨lv_sub hl [1, 0, 2, 3] rfl, hP, hD, hS, ⟨by omega, by omega⟩⟩
                                                  ·
                                                    exact absurd c_51 (by decide)
  ·
    have i_4 : k_c.toInt < 64 := by have z := g5_geN (a := k_c.toInt) (b := 64) (by rfl) (by decide) c_4; omega
    refine lv_aload_n hx hb dX7_countRows_23 rfl (lv_at hl 2 rfl) ?_
    refine va_get (D := G.1) (ci := 7) (v := .ref a_cn) (C := RX7) (T := TX7) (N := 10) hx hb hts inG_X7 hown hK hP 0 rfl rfl 5 (by decide) (hts _ fl_X7_19) (fun _ h9 => h9) rfl dX7_countRows_24 ?_
    refine lv_iload_n hx hb dX7_countRows_27 rfl (lv_at hl 0 rfl) ?_
    refine lv_iload_n hx hb dX7_countRows_28 rfl (lv_at hl 1 rfl) ?_
    refine lv_imul hx hb dX7_countRows_29 ?_
    have hm_58 := g_mulc (c := k_c) (m := (e_fu + 1)) ⟨by omega, by omega⟩ ⟨by omega, by omega⟩
    refine lv_aload_n hx hb dX7_countRows_30 rfl (lv_at hl 2 rfl) ?_
    refine va_get (D := G.1) (ci := 7) (v := .ref a_ad) (C := RX7) (T := TX7) (N := 10) hx hb hts inG_X7 hown hK hP 0 rfl rfl 3 (by decide) (hts _ fl_X7_15) (fun _ h9 => h9) rfl dX7_countRows_31 ?_
    refine lv_iload_n hx hb dX7_countRows_34 rfl (lv_at hl 0 rfl) ?_
    refine va_iald hx hb hK hP 2 0 rfl rfl (i := k_c) (vp_in_iff.mpr ⟨by omega, by omega⟩) dX7_countRows_35 ?_
    have hp_59 : 0 ≤ (f_ad k_c.toNatClampNeg).toInt ∧ (f_ad k_c.toNatClampNeg).toInt ≤ e_fu.toInt := tk_ad e_tk (by have zz := g5_clamp k_c; omega)
    refine lv_iadd hx hb dX7_countRows_36 ?_
    have t_60 : ((k_c * (e_fu + 1)) + (f_ad k_c.toNatClampNeg)).toInt = (k_c * (e_fu + 1)).toInt + (f_ad k_c.toNatClampNeg).toInt := g5_iadd (a := (k_c * (e_fu + 1)).toInt) (b := (f_ad k_c.toNatClampNeg).toInt) (by rfl) (by rfl) (by omega) (by omega)
    refine lv_aload_n hx hb dX7_countRows_37 rfl (lv_at hl 2 rfl) ?_
    refine va_get (D := G.1) (ci := 7) (v := .ref a_ba) (C := RX7) (T := TX7) (N := 10) hx hb hts inG_X7 hown hK hP 0 rfl rfl 2 (by decide) (hts _ fl_X7_9) (fun _ h9 => h9) rfl dX7_countRows_38 ?_
    refine lv_iconst (v := 0) hx hb dX7_countRows_41 (by decide) ?_
    refine va_lald hx hb hK hP 1 1 rfl rfl (i := 0) (by unfold vp_in; decide) dX7_countRows_42 ?_
    refine g5_tl (v := (f_ba 0)) rfl ?_
    refine lv_iload_n hx hb dX7_countRows_43 rfl (lv_at hl 0 rfl) ?_
    obtain ⟨hPc, hDc, hFc⟩ := g5_sub3 (wc := []) hP hD hS hA [] (by decide) rfl
    refine va_calli (va_runSN (As := [.long (f_ba 0), .int k_c]) (rest := [.int ((k_c * (e_fu + 1)) + (f_ad k_c.toNatClampNeg)), .ref a_cn]) ⟨hx, hb, hml, hown, hts⟩ (k_isOn l G H.size k_c (f_ba 0) ⟨by omega, by omega⟩) ⟨va_cnB 2 hts gW_X11_isOn rfl rfl rfl (hN.1 _ g5_nw_X7_98) (hts _ ini_X11) hs_X11_isOn ⟨Nat.le_of_ble_eq_true rfl, Nat.le_of_ble_eq_true rfl⟩, hts _ st_X11_isOn, trivial⟩ (g5_preS hPc hK hDc hN hT hS hFc) rfl rfl hl.1 rfl (lv_room (Nat.le_of_ble_eq_true rfl)) dX7_countRows_44 ⟨Nat.le_of_ble_eq_true rfl, Nat.le_of_ble_eq_true rfl⟩) hS (fun q _ h => hFc q h) hFc (fun r u t H1 locs ht hvm hw hB hz1 hk1 hS => ?_)
    obtain ⟨hP1, hD1⟩ := hB
    rw [ht] at hP1
    rcases hw with ⟨i_61, rfl, rfl⟩ | ⟨i_62, rfl, rfl⟩
    ·
      have i_61 : onB (f_ba 0) k_c.toInt = false := i_61
      have hP := g5_same hP hk1
      generalize H1 = H at hP hS ⊢
      refine lv_if_eq (tgt := 54) hx hb dX7_countRows_47 (by decide) (fun c_63 => ?_) (fun c_63 => ?_)
      ·
        refine lv_lconst (v := 1) hx hb dX7_countRows_54 (by decide) ?_
        refine va_last hx hb hK hP hD hS 4 1 rfl rfl (i := ((k_c * (e_fu + 1)) + (f_ad k_c.toNatClampNeg))) (x := 1) (vp_in_iff.mpr ⟨by omega, by omega⟩) dX7_countRows_55 (fun H locs hP hD hS => ?_)
        refine g5_rs [(a_th, (oc7 a_h a_k a_ba a_ad e_fu a_cn a_nx a_hp a_hl a_lv)), (a_ba, (arJ G 24 f_ba)), (a_ad, (arI G 1536 f_ad)), (a_nx, (arJ G 2048 f_nx)), (a_cn, (arJ G 2048 (vp_updL k_f ((k_c * (e_fu + 1)) + (f_ad k_c.toNatClampNeg)).toNatClampNeg 1)))] hP hD (fun hP hD => ?_)
        refine lv_iinc (v := (k_c + 1)) (lv' := [(2, .int (k_c + 1)), (1, .int (e_fu + 1)), (0, .ref a_th)]) hx hb dX7_countRows_56 hl (k := 0) rfl rfl (by decide) rfl (fun ls hl => ?_)
        have t_64 : (k_c + 1).toInt = k_c.toInt + 1 := g5_iadd (a := k_c.toInt) (b := 1) rfl (by decide) (by omega) (by omega)
        refine lv_goto (tgt := 17) hx hb dX7_countRows_59 (by decide) ?_
        exact ih_17_3 ((k_c + 1), (vp_updL k_f ((k_c * (e_fu + 1)) + (f_ad k_c.toNatClampNeg)).toNatClampNeg 1)) ls H locs (show Int.toNat (64 - (k_c + 1).toInt) < Int.toNat (64 - k_c.toInt) from g_up (show k_c.toInt < (k_c + 1).toInt by omega) (show k_c.toInt < 64 by omega)) ⟨lv_sub hl [0, 1, 2] rfl, hP, hD, hS, ⟨by omega, by omega⟩⟩
      ·
        exact absurd c_63 (by decide)
    ·
      have i_62 : onB (f_ba 0) k_c.toInt = true := i_62
      have hP := g5_same hP hk1
      generalize H1 = H at hP hS ⊢
      refine lv_if_eq (tgt := 54) hx hb dX7_countRows_47 (by decide) (fun c_65 => ?_) (fun c_65 => ?_)
      ·
        exact absurd c_65 (by decide)
      ·
        refine lv_lconst (v := 0) hx hb dX7_countRows_50 (by decide) ?_
        refine lv_goto (tgt := 55) hx hb dX7_countRows_51 (by decide) ?_
        refine va_last hx hb hK hP hD hS 4 1 rfl rfl (i := ((k_c * (e_fu + 1)) + (f_ad k_c.toNatClampNeg))) (x := 0) (vp_in_iff.mpr ⟨by omega, by omega⟩) dX7_countRows_55 (fun H locs hP hD hS => ?_)
        refine g5_rs [(a_th, (oc7 a_h a_k a_ba a_ad e_fu a_cn a_nx a_hp a_hl a_lv)), (a_ba, (arJ G 24 f_ba)), (a_ad, (arI G 1536 f_ad)), (a_nx, (arJ G 2048 f_nx)), (a_cn, (arJ G 2048 (vp_updL k_f ((k_c * (e_fu + 1)) + (f_ad k_c.toNatClampNeg)).toNatClampNeg 0)))] hP hD (fun hP hD => ?_)
        refine lv_iinc (v := (k_c + 1)) (lv' := [(2, .int (k_c + 1)), (1, .int (e_fu + 1)), (0, .ref a_th)]) hx hb dX7_countRows_56 hl (k := 0) rfl rfl (by decide) rfl (fun ls hl => ?_)
        have t_66 : (k_c + 1).toInt = k_c.toInt + 1 := g5_iadd (a := k_c.toInt) (b := 1) rfl (by decide) (by omega) (by omega)
        refine lv_goto (tgt := 17) hx hb dX7_countRows_59 (by decide) ?_
        exact ih_17_3 ((k_c + 1), (vp_updL k_f ((k_c * (e_fu + 1)) + (f_ad k_c.toNatClampNeg)).toNatClampNeg 0)) ls H locs (show Int.toNat (64 - (k_c + 1).toInt) < Int.toNat (64 - k_c.toInt) from g_up (show k_c.toInt < (k_c + 1).toInt by omega) (show k_c.toInt < 64 by omega)) ⟨lv_sub hl [0, 1, 2] rfl, hP, hD, hS, ⟨by omega, by omega⟩⟩
theorem dgX7_allSightings_0 : ∀ r ∈ ([(0, (.iconst 1, 1)), (1, (.aload_n 0, 1)), (2, (.getfield 34, 3)), (5, (.getfield 42, 3)), (8, (.getfield 48, 3)), (11, (.ishl, 1)), (12, (.iconst 1, 1)), (13, (.isub, 1)), (14, (.ireturn, 1))] : List (Nat × (Instr × Nat))), decode cX7_allSightings r.1 = .ok r.2 := by decide +kernel
theorem dX7_allSightings_0 : decode cX7_allSightings 0 = .ok (.iconst 1, 1) := dgX7_allSightings_0 (0, (.iconst 1, 1)) (List.mem_of_getElem? (i := 0) rfl)
theorem dX7_allSightings_1 : decode cX7_allSightings 1 = .ok (.aload_n 0, 1) := dgX7_allSightings_0 (1, (.aload_n 0, 1)) (List.mem_of_getElem? (i := 1) rfl)
theorem dX7_allSightings_2 : decode cX7_allSightings 2 = .ok (.getfield 34, 3) := dgX7_allSightings_0 (2, (.getfield 34, 3)) (List.mem_of_getElem? (i := 2) rfl)
theorem dX7_allSightings_5 : decode cX7_allSightings 5 = .ok (.getfield 42, 3) := dgX7_allSightings_0 (5, (.getfield 42, 3)) (List.mem_of_getElem? (i := 3) rfl)
theorem dX7_allSightings_8 : decode cX7_allSightings 8 = .ok (.getfield 48, 3) := dgX7_allSightings_0 (8, (.getfield 48, 3)) (List.mem_of_getElem? (i := 4) rfl)
theorem dX7_allSightings_11 : decode cX7_allSightings 11 = .ok (.ishl, 1) := dgX7_allSightings_0 (11, (.ishl, 1)) (List.mem_of_getElem? (i := 5) rfl)
theorem dX7_allSightings_12 : decode cX7_allSightings 12 = .ok (.iconst 1, 1) := dgX7_allSightings_0 (12, (.iconst 1, 1)) (List.mem_of_getElem? (i := 6) rfl)
theorem dX7_allSightings_13 : decode cX7_allSightings 13 = .ok (.isub, 1) := dgX7_allSightings_0 (13, (.isub, 1)) (List.mem_of_getElem? (i := 7) rfl)
theorem dX7_allSightings_14 : decode cX7_allSightings 14 = .ok (.ireturn, 1) := dgX7_allSightings_0 (14, (.ireturn, 1)) (List.mem_of_getElem? (i := 8) rfl)
set_option maxHeartbeats 4000000 in
set_option maxRecDepth 100000 in
theorem th_all (l : Launch) (G : g5_G) (a_th a_h a_s a_k a_ba a_ad a_cn a_nx a_hp a_hl a_lv a_l a_g a_b a_p a_w a_bb a_sn : Nat) (sz : Nat) (e_fu : Int32) (e_le : Int32) (e_st : Int32) (e_fo : Int32) (e_lc : Int32) (e_s : Int32) (e_wa : Int64) (e_gb : Int64) (h_e_s : 0 ≤ e_s.toInt ∧ e_s.toInt ≤ 10) : Met l yX7_allSightings (wsG yX7_allSightings cX7_allSightings 1 (some .int)) ({ frames := 0, cells := 0, slots := 0, locals := 0 }) (va_Pc [.ref a_th] (g5_P G [(a_th, (oc7 a_h a_k a_ba a_ad e_fu a_cn a_nx a_hp a_hl a_lv)), (a_h, (oc1 e_wa e_le e_st e_fo e_lc a_l a_g a_b a_s a_p a_w e_gb a_bb)), (a_s, (oc6 10 4 a_sn e_s))] sz)) (va_Qi (fun (r : Int32) (u : va_W) => (∃ (o_r : Int32), (r = o_r) ∧ (u = [(a_th, (oc7 a_h a_k a_ba a_ad e_fu a_cn a_nx a_hp a_hl a_lv)), (a_h, (oc1 e_wa e_le e_st e_fo e_lc a_l a_g a_b a_s a_p a_w e_gb a_bb)), (a_s, (oc6 10 4 a_sn e_s))]))) (g5_B G (va_A [(a_th, (oc7 a_h a_k a_ba a_ad e_fu a_cn a_nx a_hp a_hl a_lv)), (a_h, (oc1 e_wa e_le e_st e_fo e_lc a_l a_g a_b a_s a_p a_w e_gb a_bb)), (a_s, (oc6 10 4 a_sn e_s))] sz)) (va_A [(a_th, (oc7 a_h a_k a_ba a_ad e_fu a_cn a_nx a_hp a_hl a_lv)), (a_h, (oc1 e_wa e_le e_st e_fo e_lc a_l a_g a_b a_s a_p a_w e_gb a_bb)), (a_s, (oc6 10 4 a_sn e_s))] sz)) 0 0 (va_A [(a_th, (oc7 a_h a_k a_ba a_ad e_fu a_cn a_nx a_hp a_hl a_lv)), (a_h, (oc1 e_wa e_le e_st e_fo e_lc a_l a_g a_b a_s a_p a_w e_gb a_bb)), (a_s, (oc6 10 4 a_sn e_s))] sz) := by
  refine Met.ofW (cc := cX7_allSightings) (maxL := 1) (ret := (some .int)) (by decide) rfl ?_
  intro p e s m args below meth c s₁ B hml hv
  obtain ⟨rfl, hsz, hP, hK, hD0, hN, hT⟩ := hv
  have hx := B.exec
  have hb := B.bytes
  have hr := B.returns
  have hts : ∀ w ∈ tblG, w.before _ s = true := fun w h => atoms_spec (ws := (wsG yX7_allSightings cX7_allSightings 1 (some .int))) B.pre w (List.mem_cons_of_mem _ h)
  have hown : s.vm.findClass RX7 = some m.cls := findClass_of_methodNamed B.named
  have hlocks := B.notSynchronized
  subst hsz
  have hD := hD0.self (sz := s.heap.size)
  generalize hAe : va_A [(a_th, (oc7 a_h a_k a_ba a_ad e_fu a_cn a_nx a_hp a_hl a_lv)), (a_h, (oc1 e_wa e_le e_st e_fo e_lc a_l a_g a_b a_s a_p a_w e_gb a_bb)), (a_s, (oc6 10 4 a_sn e_s))] s.heap.size = A at hD hT ⊢
  have hA : ∀ q : Nat, s.heap.size ≤ q → A q := fun q h => by rw [← hAe]; exact Or.inr h
  have hS : va_S A s.heap s.heap [] := va_S.rf
  have hP : va_P G.1 vwCl [(a_th, (oc7 a_h a_k a_ba a_ad e_fu a_cn a_nx a_hp a_hl a_lv)), (a_h, (oc1 e_wa e_le e_st e_fo e_lc a_l a_g a_b a_s a_p a_w e_gb a_bb)), (a_s, (oc6 10 4 a_sn e_s))] s.heap := hP
  have hl := lv_entry ([.ref a_th]) (n := 1) (Nat.le_of_ble_eq_true rfl)
  rw [lg_entry_eq]
  generalize (lg_sl ([.ref a_th]) ++ List.replicate (1 - (lg_sl ([.ref a_th])).length) Slot.unset).toArray = ls at hl ⊢
  have hl : lv_has ls 1 [(0, .ref a_th)] := hl
  refine lv_iconst (v := 1) hx hb dX7_allSightings_0 (by decide) ?_
  refine lv_aload_n hx hb dX7_allSightings_1 rfl (lv_at hl 0 rfl) ?_
  refine va_get (D := G.1) (ci := 7) (v := .ref a_h) (C := RX7) (T := TX7) (N := 10) hx hb hts inG_X7 hown hK hP 0 rfl rfl 0 (by decide) (hts _ fl_X7_34) (fun _ h9 => h9) rfl dX7_allSightings_2 ?_
  refine va_get (D := G.1) (ci := 1) (v := .ref a_s) (C := RX1) (T := TX1) (N := 13) hx hb hts inG_X1 hown hK hP 1 rfl rfl 8 (by decide) (hts _ fl_X7_42) (fun _ h9 => h9) rfl dX7_allSightings_5 ?_
  refine va_get (D := G.1) (ci := 6) (v := .int e_s) (C := RX6) (T := TX6) (N := 4) hx hb hts inG_X6 hown hK hP 2 rfl rfl 3 (by decide) (hts _ fl_X7_48) (fun _ h9 => h9) rfl dX7_allSightings_8 ?_
  refine lv_ishl hx hb dX7_allSightings_11 ?_
  refine lv_iconst (v := 1) hx hb dX7_allSightings_12 (by decide) ?_
  refine lv_isub hx hb dX7_allSightings_13 ?_
  exact W.iret (v := ((1 <<< (e_s &&& 31)) - 1)) hx hb hr (fun t ht hW => ⟨⟨((1 <<< (e_s &&& 31)) - 1), [(a_th, (oc7 a_h a_k a_ba a_ad e_fu a_cn a_nx a_hp a_hl a_lv)), (a_h, (oc1 e_wa e_le e_st e_fo e_lc a_l a_g a_b a_s a_p a_w e_gb a_bb)), (a_s, (oc6 10 4 a_sn e_s))], rfl, ⟨((1 <<< (e_s &&& 31)) - 1), rfl, rfl⟩, by rw [ht]; exact hP.sub [0, 1, 2] rfl, hD.sub [0, 1, 2] (by decide) rfl⟩, hS.F ht⟩) hS.2.2 dX7_allSightings_14
theorem dgX7_findCore_0 : ∀ r ∈ ([(0, (.aload_n 0, 1)), (1, (.invokevirtual 134, 3)), (4, (.istore_n 1, 1)), (5, (.aload_n 0, 1)), (6, (.iload_n 1, 1)), (7, (.invokevirtual 138, 3)), (10, (.aload_n 0, 1)), (11, (.invokevirtual 117, 3)), (14, (.ifCond .eq 5, 3)), (17, (.iconst 0, 1)), (18, (.ireturn, 1)), (19, (.aload_n 0, 1)), (20, (.iconst 0, 1)), (21, (.invokevirtual 138, 3)), (24, (.aload_n 0, 1)), (25, (.invokevirtual 117, 3)), (28, (.ifCond .ne 5, 3)), (31, (.iconst (-1), 1)), (32, (.ireturn, 1)), (33, (.iconst 0, 1)), (34, (.istore_n 2, 1)), (35, (.iload_n 2, 1)), (36, (.aload_n 0, 1)), (37, (.getfield 34, 3)), (40, (.getfield 42, 3)), (43, (.getfield 48, 3)), (46, (.if_icmp .ge 35, 3)), (49, (.aload_n 0, 1)), (50, (.iload_n 1, 1)), (51, (.iconst 1, 1)), (52, (.iload_n 2, 1)), (53, (.ishl, 1)), (54, (.iconst (-1), 1)), (55, (.ixor, 1)), (56, (.iand, 1)), (57, (.invokevirtual 138, 3)), (60, (.aload_n 0, 1)), (61, (.invokevirtual 117, 3)), (64, (.ifCond .ne 11, 3)), (67, (.iload_n 1, 1))] : List (Nat × (Instr × Nat))), decode cX7_findCore r.1 = .ok r.2 := by decide +kernel
theorem dX7_findCore_0 : decode cX7_findCore 0 = .ok (.aload_n 0, 1) := dgX7_findCore_0 (0, (.aload_n 0, 1)) (List.mem_of_getElem? (i := 0) rfl)
theorem dX7_findCore_1 : decode cX7_findCore 1 = .ok (.invokevirtual 134, 3) := dgX7_findCore_0 (1, (.invokevirtual 134, 3)) (List.mem_of_getElem? (i := 1) rfl)
theorem dX7_findCore_4 : decode cX7_findCore 4 = .ok (.istore_n 1, 1) := dgX7_findCore_0 (4, (.istore_n 1, 1)) (List.mem_of_getElem? (i := 2) rfl)
theorem dX7_findCore_5 : decode cX7_findCore 5 = .ok (.aload_n 0, 1) := dgX7_findCore_0 (5, (.aload_n 0, 1)) (List.mem_of_getElem? (i := 3) rfl)
theorem dX7_findCore_6 : decode cX7_findCore 6 = .ok (.iload_n 1, 1) := dgX7_findCore_0 (6, (.iload_n 1, 1)) (List.mem_of_getElem? (i := 4) rfl)
theorem dX7_findCore_7 : decode cX7_findCore 7 = .ok (.invokevirtual 138, 3) := dgX7_findCore_0 (7, (.invokevirtual 138, 3)) (List.mem_of_getElem? (i := 5) rfl)
theorem dX7_findCore_10 : decode cX7_findCore 10 = .ok (.aload_n 0, 1) := dgX7_findCore_0 (10, (.aload_n 0, 1)) (List.mem_of_getElem? (i := 6) rfl)
theorem dX7_findCore_11 : decode cX7_findCore 11 = .ok (.invokevirtual 117, 3) := dgX7_findCore_0 (11, (.invokevirtual 117, 3)) (List.mem_of_getElem? (i := 7) rfl)
theorem dX7_findCore_14 : decode cX7_findCore 14 = .ok (.ifCond .eq 5, 3) := dgX7_findCore_0 (14, (.ifCond .eq 5, 3)) (List.mem_of_getElem? (i := 8) rfl)
theorem dX7_findCore_17 : decode cX7_findCore 17 = .ok (.iconst 0, 1) := dgX7_findCore_0 (17, (.iconst 0, 1)) (List.mem_of_getElem? (i := 9) rfl)
theorem dX7_findCore_18 : decode cX7_findCore 18 = .ok (.ireturn, 1) := dgX7_findCore_0 (18, (.ireturn, 1)) (List.mem_of_getElem? (i := 10) rfl)
theorem dX7_findCore_19 : decode cX7_findCore 19 = .ok (.aload_n 0, 1) := dgX7_findCore_0 (19, (.aload_n 0, 1)) (List.mem_of_getElem? (i := 11) rfl)
theorem dX7_findCore_20 : decode cX7_findCore 20 = .ok (.iconst 0, 1) := dgX7_findCore_0 (20, (.iconst 0, 1)) (List.mem_of_getElem? (i := 12) rfl)
theorem dX7_findCore_21 : decode cX7_findCore 21 = .ok (.invokevirtual 138, 3) := dgX7_findCore_0 (21, (.invokevirtual 138, 3)) (List.mem_of_getElem? (i := 13) rfl)
theorem dX7_findCore_24 : decode cX7_findCore 24 = .ok (.aload_n 0, 1) := dgX7_findCore_0 (24, (.aload_n 0, 1)) (List.mem_of_getElem? (i := 14) rfl)
theorem dX7_findCore_25 : decode cX7_findCore 25 = .ok (.invokevirtual 117, 3) := dgX7_findCore_0 (25, (.invokevirtual 117, 3)) (List.mem_of_getElem? (i := 15) rfl)
theorem dX7_findCore_28 : decode cX7_findCore 28 = .ok (.ifCond .ne 5, 3) := dgX7_findCore_0 (28, (.ifCond .ne 5, 3)) (List.mem_of_getElem? (i := 16) rfl)
theorem dX7_findCore_31 : decode cX7_findCore 31 = .ok (.iconst (-1), 1) := dgX7_findCore_0 (31, (.iconst (-1), 1)) (List.mem_of_getElem? (i := 17) rfl)
theorem dX7_findCore_32 : decode cX7_findCore 32 = .ok (.ireturn, 1) := dgX7_findCore_0 (32, (.ireturn, 1)) (List.mem_of_getElem? (i := 18) rfl)
theorem dX7_findCore_33 : decode cX7_findCore 33 = .ok (.iconst 0, 1) := dgX7_findCore_0 (33, (.iconst 0, 1)) (List.mem_of_getElem? (i := 19) rfl)
theorem dX7_findCore_34 : decode cX7_findCore 34 = .ok (.istore_n 2, 1) := dgX7_findCore_0 (34, (.istore_n 2, 1)) (List.mem_of_getElem? (i := 20) rfl)
theorem dX7_findCore_35 : decode cX7_findCore 35 = .ok (.iload_n 2, 1) := dgX7_findCore_0 (35, (.iload_n 2, 1)) (List.mem_of_getElem? (i := 21) rfl)
theorem dX7_findCore_36 : decode cX7_findCore 36 = .ok (.aload_n 0, 1) := dgX7_findCore_0 (36, (.aload_n 0, 1)) (List.mem_of_getElem? (i := 22) rfl)
theorem dX7_findCore_37 : decode cX7_findCore 37 = .ok (.getfield 34, 3) := dgX7_findCore_0 (37, (.getfield 34, 3)) (List.mem_of_getElem? (i := 23) rfl)
theorem dX7_findCore_40 : decode cX7_findCore 40 = .ok (.getfield 42, 3) := dgX7_findCore_0 (40, (.getfield 42, 3)) (List.mem_of_getElem? (i := 24) rfl)
theorem dX7_findCore_43 : decode cX7_findCore 43 = .ok (.getfield 48, 3) := dgX7_findCore_0 (43, (.getfield 48, 3)) (List.mem_of_getElem? (i := 25) rfl)
theorem dX7_findCore_46 : decode cX7_findCore 46 = .ok (.if_icmp .ge 35, 3) := dgX7_findCore_0 (46, (.if_icmp .ge 35, 3)) (List.mem_of_getElem? (i := 26) rfl)
theorem dX7_findCore_49 : decode cX7_findCore 49 = .ok (.aload_n 0, 1) := dgX7_findCore_0 (49, (.aload_n 0, 1)) (List.mem_of_getElem? (i := 27) rfl)
theorem dX7_findCore_50 : decode cX7_findCore 50 = .ok (.iload_n 1, 1) := dgX7_findCore_0 (50, (.iload_n 1, 1)) (List.mem_of_getElem? (i := 28) rfl)
theorem dX7_findCore_51 : decode cX7_findCore 51 = .ok (.iconst 1, 1) := dgX7_findCore_0 (51, (.iconst 1, 1)) (List.mem_of_getElem? (i := 29) rfl)
theorem dX7_findCore_52 : decode cX7_findCore 52 = .ok (.iload_n 2, 1) := dgX7_findCore_0 (52, (.iload_n 2, 1)) (List.mem_of_getElem? (i := 30) rfl)
theorem dX7_findCore_53 : decode cX7_findCore 53 = .ok (.ishl, 1) := dgX7_findCore_0 (53, (.ishl, 1)) (List.mem_of_getElem? (i := 31) rfl)
theorem dX7_findCore_54 : decode cX7_findCore 54 = .ok (.iconst (-1), 1) := dgX7_findCore_0 (54, (.iconst (-1), 1)) (List.mem_of_getElem? (i := 32) rfl)
theorem dX7_findCore_55 : decode cX7_findCore 55 = .ok (.ixor, 1) := dgX7_findCore_0 (55, (.ixor, 1)) (List.mem_of_getElem? (i := 33) rfl)
theorem dX7_findCore_56 : decode cX7_findCore 56 = .ok (.iand, 1) := dgX7_findCore_0 (56, (.iand, 1)) (List.mem_of_getElem? (i := 34) rfl)
theorem dX7_findCore_57 : decode cX7_findCore 57 = .ok (.invokevirtual 138, 3) := dgX7_findCore_0 (57, (.invokevirtual 138, 3)) (List.mem_of_getElem? (i := 35) rfl)
theorem dX7_findCore_60 : decode cX7_findCore 60 = .ok (.aload_n 0, 1) := dgX7_findCore_0 (60, (.aload_n 0, 1)) (List.mem_of_getElem? (i := 36) rfl)
theorem dX7_findCore_61 : decode cX7_findCore 61 = .ok (.invokevirtual 117, 3) := dgX7_findCore_0 (61, (.invokevirtual 117, 3)) (List.mem_of_getElem? (i := 37) rfl)
theorem dX7_findCore_64 : decode cX7_findCore 64 = .ok (.ifCond .ne 11, 3) := dgX7_findCore_0 (64, (.ifCond .ne 11, 3)) (List.mem_of_getElem? (i := 38) rfl)
theorem dX7_findCore_67 : decode cX7_findCore 67 = .ok (.iload_n 1, 1) := dgX7_findCore_0 (67, (.iload_n 1, 1)) (List.mem_of_getElem? (i := 39) rfl)
theorem dgX7_findCore_1 : ∀ r ∈ ([(68, (.iconst 1, 1)), (69, (.iload_n 2, 1)), (70, (.ishl, 1)), (71, (.iconst (-1), 1)), (72, (.ixor, 1)), (73, (.iand, 1)), (74, (.istore_n 1, 1)), (75, (.iinc 2 1, 3)), (78, (.goto (-43), 3)), (81, (.iload_n 1, 1)), (82, (.ireturn, 1))] : List (Nat × (Instr × Nat))), decode cX7_findCore r.1 = .ok r.2 := by decide +kernel
theorem dX7_findCore_68 : decode cX7_findCore 68 = .ok (.iconst 1, 1) := dgX7_findCore_1 (68, (.iconst 1, 1)) (List.mem_of_getElem? (i := 0) rfl)
theorem dX7_findCore_69 : decode cX7_findCore 69 = .ok (.iload_n 2, 1) := dgX7_findCore_1 (69, (.iload_n 2, 1)) (List.mem_of_getElem? (i := 1) rfl)
theorem dX7_findCore_70 : decode cX7_findCore 70 = .ok (.ishl, 1) := dgX7_findCore_1 (70, (.ishl, 1)) (List.mem_of_getElem? (i := 2) rfl)
theorem dX7_findCore_71 : decode cX7_findCore 71 = .ok (.iconst (-1), 1) := dgX7_findCore_1 (71, (.iconst (-1), 1)) (List.mem_of_getElem? (i := 3) rfl)
theorem dX7_findCore_72 : decode cX7_findCore 72 = .ok (.ixor, 1) := dgX7_findCore_1 (72, (.ixor, 1)) (List.mem_of_getElem? (i := 4) rfl)
theorem dX7_findCore_73 : decode cX7_findCore 73 = .ok (.iand, 1) := dgX7_findCore_1 (73, (.iand, 1)) (List.mem_of_getElem? (i := 5) rfl)
theorem dX7_findCore_74 : decode cX7_findCore 74 = .ok (.istore_n 1, 1) := dgX7_findCore_1 (74, (.istore_n 1, 1)) (List.mem_of_getElem? (i := 6) rfl)
theorem dX7_findCore_75 : decode cX7_findCore 75 = .ok (.iinc 2 1, 3) := dgX7_findCore_1 (75, (.iinc 2 1, 3)) (List.mem_of_getElem? (i := 7) rfl)
theorem dX7_findCore_78 : decode cX7_findCore 78 = .ok (.goto (-43), 3) := dgX7_findCore_1 (78, (.goto (-43), 3)) (List.mem_of_getElem? (i := 8) rfl)
theorem dX7_findCore_81 : decode cX7_findCore 81 = .ok (.iload_n 1, 1) := dgX7_findCore_1 (81, (.iload_n 1, 1)) (List.mem_of_getElem? (i := 9) rfl)
theorem dX7_findCore_82 : decode cX7_findCore 82 = .ok (.ireturn, 1) := dgX7_findCore_1 (82, (.ireturn, 1)) (List.mem_of_getElem? (i := 10) rfl)
theorem ml_X7_134 : Cond.methodLink RX7 134 yX7_allSightings ∈ tblG := tg 1038 (by decide +kernel) (by decide +kernel)
theorem im_X7_allSightings : Cond.instanceMethod yX7_allSightings ∈ tblG := tg 956 (by decide +kernel) (by decide +kernel)
theorem se_X7_allSightings : Cond.selects RX7 yX7_allSightings yX7_allSightings ∈ tblG := tg 957 (by decide +kernel) (by decide +kernel)
theorem cd_X7_allSightings : Cond.code yX7_allSightings cX7_allSightings 1 (some .int) ∈ tblG := tg 958 (by decide +kernel) (by decide +kernel)
theorem gW_X7_allSightings : GoodIn tblG (wsG yX7_allSightings cX7_allSightings 1 (some .int)) := tgi cd_X7_allSightings
theorem gV_X7_134 : GoodIn tblG (wsV RX7 134 RX7 yX7_allSightings (wsG yX7_allSightings cX7_allSightings 1 (some .int))) := tgV ml_X7_134 im_X7_allSightings se_X7_allSightings ini_X7 gW_X7_allSightings
theorem hv_X7_allSightings : yX7_allSightings.cls = RX7 ∧ yX7_allSightings.cls ≠ "java/lang/invoke/MethodHandle" ∧ yX7_allSightings.cls ≠ "java/lang/invoke/VarHandle" ∧ (parseMethodDescriptor yX7_allSightings.desc).map (fun d => d.parameters.length) = some 0 := by decide +kernel
theorem ml_X7_138 : Cond.methodLink RX7 138 yX7_load ∈ tblG := tg 1039 (by decide +kernel) (by decide +kernel)
theorem im_X7_load : Cond.instanceMethod yX7_load ∈ tblG := tg 960 (by decide +kernel) (by decide +kernel)
theorem se_X7_load : Cond.selects RX7 yX7_load yX7_load ∈ tblG := tg 961 (by decide +kernel) (by decide +kernel)
theorem cd_X7_load : Cond.code yX7_load cX7_load 5 none ∈ tblG := tg 962 (by decide +kernel) (by decide +kernel)
theorem gW_X7_load : GoodIn tblG (wsG yX7_load cX7_load 5 none) := tgi cd_X7_load
theorem gV_X7_138 : GoodIn tblG (wsV RX7 138 RX7 yX7_load (wsG yX7_load cX7_load 5 none)) := tgV ml_X7_138 im_X7_load se_X7_load ini_X7 gW_X7_load
theorem hv_X7_load : yX7_load.cls = RX7 ∧ yX7_load.cls ≠ "java/lang/invoke/MethodHandle" ∧ yX7_load.cls ≠ "java/lang/invoke/VarHandle" ∧ (parseMethodDescriptor yX7_load.desc).map (fun d => d.parameters.length) = some 1 := by decide +kernel
