set_option maxHeartbeats 4000000 in
set_option maxRecDepth 100000 in
theorem th_cells (l : Launch) (G : g5_G) (a_th a_ba a_ad a_hp a_hl a_lv a_h a_k a_cn a_nx : Nat) (sz : Nat) (e_fu : Int32) (p_h : Int32) (f_ba : Nat → Int64) (f_ad : Nat → Int32) (f_hp : Nat → Int32) (f_hl : Nat → Int32) (f_lv : Nat → Int32) (h_p_h : 0 ≤ p_h.toInt ∧ p_h.toInt ≤ 23) : Met l yX7_cellsIn (wsG yX7_cellsIn cX7_cellsIn 5 (some .long)) ({ frames := 3, cells := 0, slots := 0, locals := 70 }) (va_Pc [.ref a_th, .int p_h] (g5_P G [(a_th, (oc7 a_h a_k a_ba a_ad e_fu a_cn a_nx a_hp a_hl a_lv)), (a_ba, (arJ G 24 f_ba)), (a_ad, (arI G 1536 f_ad)), (a_hp, (arI G 1536 f_hp)), (a_hl, (arI G 64 f_hl)), (a_lv, (arI G 64 f_lv))] sz)) (va_Ql (fun (r : Int64) (u : va_W) => (∃ (o_r : Int64) (o_p : Nat → Int32) (o_f : Nat → Int32) (o_g : Nat → Int32), (r = o_r) ∧ (u = [(a_th, (oc7 a_h a_k a_ba a_ad e_fu a_cn a_nx a_hp a_hl a_lv)), (a_ba, (arJ G 24 f_ba)), (a_ad, (arI G 1536 f_ad)), (a_hp, (arI G 1536 o_p)), (a_hl, (arI G 64 o_f)), (a_lv, (arI G 64 o_g))]))) (g5_B G (va_A [(a_th, (oc7 a_h a_k a_ba a_ad e_fu a_cn a_nx a_hp a_hl a_lv)), (a_ba, (arJ G 24 f_ba)), (a_ad, (arI G 1536 f_ad)), (a_hp, (arI G 1536 f_hp)), (a_hl, (arI G 64 f_hl)), (a_lv, (arI G 64 f_lv))] sz)) (va_A [(a_th, (oc7 a_h a_k a_ba a_ad e_fu a_cn a_nx a_hp a_hl a_lv)), (a_ba, (arJ G 24 f_ba)), (a_ad, (arI G 1536 f_ad)), (a_hp, (arI G 1536 f_hp)), (a_hl, (arI G 64 f_hl)), (a_lv, (arI G 64 f_lv))] sz)) 0 0 (va_A [(a_th, (oc7 a_h a_k a_ba a_ad e_fu a_cn a_nx a_hp a_hl a_lv)), (a_ba, (arJ G 24 f_ba)), (a_ad, (arI G 1536 f_ad)), (a_hp, (arI G 1536 f_hp)), (a_hl, (arI G 64 f_hl)), (a_lv, (arI G 64 f_lv))] sz) := by
  refine Met.ofW (cc := cX7_cellsIn) (maxL := 5) (ret := (some .long)) (by decide) rfl ?_
  intro p e s m args below meth c s₁ B hml hv
  obtain ⟨rfl, hsz, hP, hK, hD0, hN, hT⟩ := hv
  have hx := B.exec
  have hb := B.bytes
  have hr := B.returns
  have hts : ∀ w ∈ tblG, w.before _ s = true := fun w h => atoms_spec (ws := (wsG yX7_cellsIn cX7_cellsIn 5 (some .long))) B.pre w (List.mem_cons_of_mem _ h)
  have hown : s.vm.findClass RX7 = some m.cls := findClass_of_methodNamed B.named
  have hlocks := B.notSynchronized
  subst hsz
  have hD := hD0.self (sz := s.heap.size)
  generalize hAe : va_A [(a_th, (oc7 a_h a_k a_ba a_ad e_fu a_cn a_nx a_hp a_hl a_lv)), (a_ba, (arJ G 24 f_ba)), (a_ad, (arI G 1536 f_ad)), (a_hp, (arI G 1536 f_hp)), (a_hl, (arI G 64 f_hl)), (a_lv, (arI G 64 f_lv))] s.heap.size = A at hD hT ⊢
  have hA : ∀ q : Nat, s.heap.size ≤ q → A q := fun q h => by rw [← hAe]; exact Or.inr h
  have hS : va_S A s.heap s.heap [] := va_S.rf
  have hP : va_P G.1 vwCl [(a_th, (oc7 a_h a_k a_ba a_ad e_fu a_cn a_nx a_hp a_hl a_lv)), (a_ba, (arJ G 24 f_ba)), (a_ad, (arI G 1536 f_ad)), (a_hp, (arI G 1536 f_hp)), (a_hl, (arI G 64 f_hl)), (a_lv, (arI G 64 f_lv))] s.heap := hP
  have hl := lv_entry ([.ref a_th, .int p_h]) (n := 5) (Nat.le_of_ble_eq_true rfl)
  rw [lg_entry_eq]
  generalize (lg_sl ([.ref a_th, .int p_h]) ++ List.replicate (5 - (lg_sl ([.ref a_th, .int p_h])).length) Slot.unset).toArray = ls at hl ⊢
  have hl : lv_has ls 5 [(0, .ref a_th), (1, .int p_h)] := hl
  refine lv_aload_n hx hb dX7_cellsIn_0 rfl (lv_at hl 0 rfl) ?_
  obtain ⟨hPc, hDc, hFc⟩ := g5_sub3 (wc := [(a_th, (oc7 a_h a_k a_ba a_ad e_fu a_cn a_nx a_hp a_hl a_lv)), (a_ba, (arJ G 24 f_ba)), (a_ad, (arI G 1536 f_ad)), (a_hp, (arI G 1536 f_hp))]) hP hD hS hA [0, 1, 2, 3] (by decide) rfl
  refine va_calli (va_runV (As := []) (rest := []) ⟨hx, hb, hml, hown, hts⟩ (th_anyFits l G a_th a_ba a_ad a_hp a_h a_k a_cn a_nx a_hl a_lv s.heap.size e_fu f_ba f_ad f_hp) (cwV 0 hts gV_X7_117 rfl rfl rfl hv_X7_anyFits ⟨Nat.le_of_ble_eq_true rfl, Nat.le_of_ble_eq_true rfl⟩) (g5_preV hPc hK hDc hN hT hS hFc (ci := 7) (q0 := 0) rfl rfl) rfl rfl hl.1 rfl (lv_room (Nat.le_of_ble_eq_true rfl)) dX7_cellsIn_1 ⟨Nat.le_of_ble_eq_true rfl, Nat.le_of_ble_eq_true rfl⟩) hS (fun q _ h => hFc q h) hFc (fun r u t H1 locs ht hvm hw hB hz1 hk1 hS => ?_)
  obtain ⟨hP1, hD1⟩ := hB
  rw [ht] at hP1
  obtain ⟨z2, z3, i_1, y4, rfl⟩ := hw
  have i_1 : 0 ≤ z2.toInt ∧ z2.toInt ≤ 1 := i_1
  obtain ⟨hP, hD⟩ := va_join (wr := [(a_hl, (arI G 64 f_hl)), (a_lv, (arI G 64 f_lv))]) hP hD [0, 1, 2, 3] [4, 5] rfl rfl (by decide) (by decide) hk1 hFc hP1 hD1
  generalize H1 = H at hP hS ⊢
  refine g5_rs [(a_hl, (arI G 64 f_hl)), (a_lv, (arI G 64 f_lv)), (a_th, (oc7 a_h a_k a_ba a_ad e_fu a_cn a_nx a_hp a_hl a_lv)), (a_ba, (arJ G 24 f_ba)), (a_ad, (arI G 1536 f_ad)), (a_hp, (arI G 1536 z3))] hP hD (fun hP hD => ?_)
  refine g5_ti (v := z2) y4 ?_
  refine lv_if_ne (tgt := 9) hx hb dX7_cellsIn_4 (by decide) (fun c_5 => ?_) (fun c_5 => ?_)
  ·
    have n_5 : gNe (z2.toInt) (0) := by have z := g5_ne (a := z2.toInt) (b := 0) (by rfl) (by decide) c_5; unfold gNe; omega
    have i_5 : z2.toInt ≥ 1 := by have z := g5_ne (a := z2.toInt) (b := 0) (by rfl) (by decide) c_5; omega
    refine lv_iconst (v := 0) hx hb dX7_cellsIn_9 (by decide) ?_
    refine lv_istore_n (lv' := [(2, .int 0), (0, .ref a_th), (1, .int p_h)]) hx hb dX7_cellsIn_10 rfl hl (by decide) rfl (fun ls hl => ?_)
    refine g5_loop (α := (Int32) × (Nat → Int32)) (fun (q : (Int32) × (Nat → Int32)) (ls : Array Slot) (H : Heap) (locs : List Loc) => match q with | (k_i, k_f) => lv_has ls 5 [(2, .int k_i), (0, .ref a_th), (1, .int p_h)] ∧ va_P G.1 vwCl [(a_hl, (arI G 64 k_f)), (a_lv, (arI G 64 f_lv)), (a_th, (oc7 a_h a_k a_ba a_ad e_fu a_cn a_nx a_hp a_hl a_lv)), (a_ba, (arJ G 24 f_ba)), (a_ad, (arI G 1536 f_ad)), (a_hp, (arI G 1536 z3))] H ∧ va_D A [(a_hl, (arI G 64 k_f)), (a_lv, (arI G 64 f_lv)), (a_th, (oc7 a_h a_k a_ba a_ad e_fu a_cn a_nx a_hp a_hl a_lv)), (a_ba, (arJ G 24 f_ba)), (a_ad, (arI G 1536 f_ad)), (a_hp, (arI G 1536 z3))] ∧ va_S A s.heap H locs ∧ (0 ≤ k_i.toInt ∧ k_i.toInt ≤ 64)) (fun (q : (Int32) × (Nat → Int32)) => match q with | (k_i, k_f) => Int.toNat (64 - k_i.toInt)) (0, f_hl) ⟨lv_sub hl [0, 1, 2] rfl, hP, hD, hS, ⟨by decide, by decide⟩⟩ ?_
    rintro ⟨k_i, k_f⟩ ls H locs ⟨hl, hP, hD, hS, i_6⟩ ih_11_7
    have hl : lv_has ls 5 [(2, .int k_i), (0, .ref a_th), (1, .int p_h)] := hl
    have i_6 : 0 ≤ k_i.toInt ∧ k_i.toInt ≤ 64 := i_6
    refine g5_rs [(a_hl, (arI G 64 k_f)), (a_lv, (arI G 64 f_lv)), (a_th, (oc7 a_h a_k a_ba a_ad e_fu a_cn a_nx a_hp a_hl a_lv)), (a_ba, (arJ G 24 f_ba)), (a_ad, (arI G 1536 f_ad)), (a_hp, (arI G 1536 z3))] hP hD (fun hP hD => ?_)
    refine lv_iload_n hx hb dX7_cellsIn_11 rfl (lv_at hl 0 rfl) ?_
    refine lv_bipush (v := 64) hx hb dX7_cellsIn_12 (by decide) ?_
    refine lv_icmp_ge (tgt := 47) hx hb dX7_cellsIn_14 (by decide) (fun c_8 => ?_) (fun c_8 => ?_)
    ·
      have i_8 : k_i.toInt ≥ 64 := by have z := g5_ge (a := k_i.toInt) (b := 64) (by rfl) (by decide) c_8; omega
      refine lv_iconst (v := 1) hx hb dX7_cellsIn_47 (by decide) ?_
      refine lv_istore_n (lv' := [(2, .int 1), (0, .ref a_th), (1, .int p_h)]) hx hb dX7_cellsIn_48 rfl hl (by decide) rfl (fun ls hl => ?_)
      refine g5_loop (α := (Int32) × (Nat → Int32) × (Nat → Int32)) (fun (q : (Int32) × (Nat → Int32) × (Nat → Int32)) (ls : Array Slot) (H : Heap) (locs : List Loc) => match q with | (m_h, m_f, m_g) => lv_has ls 5 [(2, .int m_h), (0, .ref a_th), (1, .int p_h)] ∧ va_P G.1 vwCl [(a_hl, (arI G 64 m_f)), (a_lv, (arI G 64 m_g)), (a_th, (oc7 a_h a_k a_ba a_ad e_fu a_cn a_nx a_hp a_hl a_lv)), (a_ba, (arJ G 24 f_ba)), (a_ad, (arI G 1536 f_ad)), (a_hp, (arI G 1536 z3))] H ∧ va_D A [(a_hl, (arI G 64 m_f)), (a_lv, (arI G 64 m_g)), (a_th, (oc7 a_h a_k a_ba a_ad e_fu a_cn a_nx a_hp a_hl a_lv)), (a_ba, (arJ G 24 f_ba)), (a_ad, (arI G 1536 f_ad)), (a_hp, (arI G 1536 z3))] ∧ va_S A s.heap H locs ∧ (1 ≤ m_h.toInt ∧ m_h.toInt ≤ 24)) (fun (q : (Int32) × (Nat → Int32) × (Nat → Int32)) => match q with | (m_h, m_f, m_g) => Int.toNat (24 - m_h.toInt)) (1, k_f, f_lv) ⟨lv_sub hl [0, 1, 2] rfl, hP, hD, hS, ⟨by decide, by decide⟩⟩ ?_
      rintro ⟨m_h, m_f, m_g⟩ ls H locs ⟨hl, hP, hD, hS, i_9⟩ ih_49_10
      have hl : lv_has ls 5 [(2, .int m_h), (0, .ref a_th), (1, .int p_h)] := hl
      have i_9 : 1 ≤ m_h.toInt ∧ m_h.toInt ≤ 24 := i_9
      refine g5_rs [(a_hl, (arI G 64 m_f)), (a_lv, (arI G 64 m_g)), (a_th, (oc7 a_h a_k a_ba a_ad e_fu a_cn a_nx a_hp a_hl a_lv)), (a_ba, (arJ G 24 f_ba)), (a_ad, (arI G 1536 f_ad)), (a_hp, (arI G 1536 z3))] hP hD (fun hP hD => ?_)
      refine lv_iload_n hx hb dX7_cellsIn_49 rfl (lv_at hl 0 rfl) ?_
      refine lv_iload_n hx hb dX7_cellsIn_50 rfl (lv_at hl 2 rfl) ?_
      refine lv_icmp_gt (tgt := 65) hx hb dX7_cellsIn_51 (by decide) (fun c_11 => ?_) (fun c_11 => ?_)
      ·
        have i_11 : m_h.toInt > p_h.toInt := by have z := g5_gt (a := m_h.toInt) (b := p_h.toInt) (by rfl) (by rfl) c_11; omega
        refine lv_lconst (v := 0) hx hb dX7_cellsIn_65 (by decide) ?_
        refine lv_lstore_n (lv' := [(2, .long 0), (0, .ref a_th), (1, .int p_h)]) hx hb dX7_cellsIn_66 rfl hl (by decide) rfl (fun ls hl => ?_)
        refine lv_iconst (v := 0) hx hb dX7_cellsIn_67 (by decide) ?_
        refine lv_istore (lv' := [(4, .int 0), (2, .long 0), (0, .ref a_th), (1, .int p_h)]) hx hb dX7_cellsIn_68 hl (by decide) rfl (fun ls hl => ?_)
        refine g5_loop (α := (Int32) × (Int64)) (fun (q : (Int32) × (Int64)) (ls : Array Slot) (H : Heap) (locs : List Loc) => match q with | (n_i, n_x) => lv_has ls 5 [(2, .long n_x), (4, .int n_i), (0, .ref a_th), (1, .int p_h)] ∧ va_P G.1 vwCl [(a_hl, (arI G 64 m_f)), (a_lv, (arI G 64 m_g)), (a_th, (oc7 a_h a_k a_ba a_ad e_fu a_cn a_nx a_hp a_hl a_lv)), (a_ba, (arJ G 24 f_ba)), (a_ad, (arI G 1536 f_ad)), (a_hp, (arI G 1536 z3))] H ∧ va_D A [(a_hl, (arI G 64 m_f)), (a_lv, (arI G 64 m_g)), (a_th, (oc7 a_h a_k a_ba a_ad e_fu a_cn a_nx a_hp a_hl a_lv)), (a_ba, (arJ G 24 f_ba)), (a_ad, (arI G 1536 f_ad)), (a_hp, (arI G 1536 z3))] ∧ va_S A s.heap H locs ∧ (0 ≤ n_i.toInt ∧ n_i.toInt ≤ 64)) (fun (q : (Int32) × (Int64)) => match q with | (n_i, n_x) => Int.toNat (64 - n_i.toInt)) (0, 0) ⟨lv_sub hl [1, 0, 2, 3] rfl, hP, hD, hS, ⟨by decide, by decide⟩⟩ ?_
        rintro ⟨n_i, n_x⟩ ls H locs ⟨hl, hP, hD, hS, i_12⟩ ih_70_13
        have hl : lv_has ls 5 [(2, .long n_x), (4, .int n_i), (0, .ref a_th), (1, .int p_h)] := hl
        have i_12 : 0 ≤ n_i.toInt ∧ n_i.toInt ≤ 64 := i_12
        refine g5_rs [(a_hl, (arI G 64 m_f)), (a_lv, (arI G 64 m_g)), (a_th, (oc7 a_h a_k a_ba a_ad e_fu a_cn a_nx a_hp a_hl a_lv)), (a_ba, (arJ G 24 f_ba)), (a_ad, (arI G 1536 f_ad)), (a_hp, (arI G 1536 z3))] hP hD (fun hP hD => ?_)
        refine lv_iload hx hb dX7_cellsIn_70 (lv_at hl 1 rfl) ?_
        refine lv_bipush (v := 64) hx hb dX7_cellsIn_72 (by decide) ?_
        refine lv_icmp_ge (tgt := 113) hx hb dX7_cellsIn_74 (by decide) (fun c_14 => ?_) (fun c_14 => ?_)
        ·
          have i_14 : n_i.toInt ≥ 64 := by have z := g5_ge (a := n_i.toInt) (b := 64) (by rfl) (by decide) c_14; omega
          refine lv_lload_n hx hb dX7_cellsIn_113 rfl (lv_at hl 0 rfl) ?_
          exact W.lret (v := n_x) hx hb hr (fun t ht hW => ⟨⟨n_x, [(a_th, (oc7 a_h a_k a_ba a_ad e_fu a_cn a_nx a_hp a_hl a_lv)), (a_ba, (arJ G 24 f_ba)), (a_ad, (arI G 1536 f_ad)), (a_hp, (arI G 1536 z3)), (a_hl, (arI G 64 m_f)), (a_lv, (arI G 64 m_g))], rfl, ⟨n_x, z3, m_f, m_g, rfl, rfl⟩, by rw [ht]; exact hP.sub [2, 3, 4, 5, 0, 1] rfl, hD.sub [2, 3, 4, 5, 0, 1] (by decide) rfl⟩, hS.F ht⟩) hS.2.2 dX7_cellsIn_114
        ·
          have i_14 : n_i.toInt < 64 := by have z := g5_geN (a := n_i.toInt) (b := 64) (by rfl) (by decide) c_14; omega
          refine lv_aload_n hx hb dX7_cellsIn_77 rfl (lv_at hl 2 rfl) ?_
          refine va_get (D := G.1) (ci := 7) (v := .ref a_hl) (C := RX7) (T := TX7) (N := 10) hx hb hts inG_X7 hown hK hP 2 rfl rfl 8 (by decide) (hts _ fl_X7_28) (fun _ h9 => h9) rfl dX7_cellsIn_78 ?_
          refine lv_iload hx hb dX7_cellsIn_81 (lv_at hl 1 rfl) ?_
          refine va_iald hx hb hK hP 0 0 rfl rfl (i := n_i) (vp_in_iff.mpr ⟨by omega, by omega⟩) dX7_cellsIn_83 ?_
          refine lv_aload_n hx hb dX7_cellsIn_84 rfl (lv_at hl 2 rfl) ?_
          refine va_get (D := G.1) (ci := 7) (v := .ref a_hp) (C := RX7) (T := TX7) (N := 10) hx hb hts inG_X7 hown hK hP 2 rfl rfl 7 (by decide) (hts _ fl_X7_25) (fun _ h9 => h9) rfl dX7_cellsIn_85 ?_
          refine lv_iload_n hx hb dX7_cellsIn_88 rfl (lv_at hl 3 rfl) ?_
          refine lv_bipush (v := 64) hx hb dX7_cellsIn_89 (by decide) ?_
          refine lv_imul hx hb dX7_cellsIn_91 ?_
          have t_15 : (p_h * 64).toInt = p_h.toInt * 64 := g5_imul (a := p_h.toInt) (b := 64) (by rfl) (by decide) (by omega) (by omega)
          refine lv_iload hx hb dX7_cellsIn_92 (lv_at hl 1 rfl) ?_
          refine lv_iadd hx hb dX7_cellsIn_94 ?_
          have t_16 : ((p_h * 64) + n_i).toInt = (p_h * 64).toInt + n_i.toInt := g5_iadd (a := (p_h * 64).toInt) (b := n_i.toInt) (by rfl) (by rfl) (by omega) (by omega)
          refine va_iald hx hb hK hP 5 0 rfl rfl (i := ((p_h * 64) + n_i)) (vp_in_iff.mpr ⟨by omega, by omega⟩) dX7_cellsIn_95 ?_
          refine lv_iand hx hb dX7_cellsIn_96 ?_
          refine lv_if_eq (tgt := 107) hx hb dX7_cellsIn_97 (by decide) (fun c_17 => ?_) (fun c_17 => ?_)
          ·
            have i_17 : ((m_f n_i.toNatClampNeg) &&& (z3 ((p_h * 64) + n_i).toNatClampNeg)).toInt = 0 := by have z := g5_eq (a := ((m_f n_i.toNatClampNeg) &&& (z3 ((p_h * 64) + n_i).toNatClampNeg)).toInt) (b := 0) (by rfl) (by decide) c_17; omega
            refine lv_iinc (v := (n_i + 1)) (lv' := [(4, .int (n_i + 1)), (2, .long n_x), (0, .ref a_th), (1, .int p_h)]) hx hb dX7_cellsIn_107 hl (k := 1) rfl rfl (by decide) rfl (fun ls hl => ?_)
            have t_18 : (n_i + 1).toInt = n_i.toInt + 1 := g5_iadd (a := n_i.toInt) (b := 1) rfl (by decide) (by omega) (by omega)
            refine lv_goto (tgt := 70) hx hb dX7_cellsIn_110 (by decide) ?_
            exact ih_70_13 ((n_i + 1), n_x) ls H locs (show Int.toNat (64 - (n_i + 1).toInt) < Int.toNat (64 - n_i.toInt) from g_up (show n_i.toInt < (n_i + 1).toInt by omega) (show n_i.toInt < 64 by omega)) ⟨lv_sub hl [1, 0, 2, 3] rfl, hP, hD, hS, ⟨by omega, by omega⟩⟩
          ·
            have n_17 : gNe (((m_f n_i.toNatClampNeg) &&& (z3 ((p_h * 64) + n_i).toNatClampNeg)).toInt) (0) := by have z := g5_eqN (a := ((m_f n_i.toNatClampNeg) &&& (z3 ((p_h * 64) + n_i).toNatClampNeg)).toInt) (b := 0) (by rfl) (by decide) c_17; unfold gNe; omega
            refine lv_lload_n hx hb dX7_cellsIn_100 rfl (lv_at hl 0 rfl) ?_
            refine lv_lconst (v := 1) hx hb dX7_cellsIn_101 (by decide) ?_
            refine lv_iload hx hb dX7_cellsIn_102 (lv_at hl 1 rfl) ?_
            refine lv_lshl (v := ((1 : Int64) <<< (n_i.toInt64 &&& 63))) hx hb dX7_cellsIn_104 rfl ?_
            refine lv_lor hx hb dX7_cellsIn_105 ?_
            refine lv_lstore_n (lv' := [(2, .long (n_x ||| ((1 : Int64) <<< (n_i.toInt64 &&& 63)))), (4, .int n_i), (0, .ref a_th), (1, .int p_h)]) hx hb dX7_cellsIn_106 rfl hl (by decide) rfl (fun ls hl => ?_)
            refine lv_iinc (v := (n_i + 1)) (lv' := [(4, .int (n_i + 1)), (2, .long (n_x ||| ((1 : Int64) <<< (n_i.toInt64 &&& 63)))), (0, .ref a_th), (1, .int p_h)]) hx hb dX7_cellsIn_107 hl (k := 1) rfl rfl (by decide) rfl (fun ls hl => ?_)
            have t_19 : (n_i + 1).toInt = n_i.toInt + 1 := g5_iadd (a := n_i.toInt) (b := 1) rfl (by decide) (by omega) (by omega)
            refine lv_goto (tgt := 70) hx hb dX7_cellsIn_110 (by decide) ?_
            exact ih_70_13 ((n_i + 1), (n_x ||| ((1 : Int64) <<< (n_i.toInt64 &&& 63)))) ls H locs (show Int.toNat (64 - (n_i + 1).toInt) < Int.toNat (64 - n_i.toInt) from g_up (show n_i.toInt < (n_i + 1).toInt by omega) (show n_i.toInt < 64 by omega)) ⟨lv_sub hl [1, 0, 2, 3] rfl, hP, hD, hS, ⟨by omega, by omega⟩⟩
      ·
        have i_11 : m_h.toInt ≤ p_h.toInt := by have z := g5_gtN (a := m_h.toInt) (b := p_h.toInt) (by rfl) (by rfl) c_11; omega
        refine lv_aload_n hx hb dX7_cellsIn_54 rfl (lv_at hl 1 rfl) ?_
        refine lv_iload_n hx hb dX7_cellsIn_55 rfl (lv_at hl 0 rfl) ?_
        obtain ⟨hPc, hDc, hFc⟩ := g5_sub3 (wc := [(a_th, (oc7 a_h a_k a_ba a_ad e_fu a_cn a_nx a_hp a_hl a_lv)), (a_ba, (arJ G 24 f_ba)), (a_ad, (arI G 1536 f_ad)), (a_hl, (arI G 64 m_f)), (a_lv, (arI G 64 m_g))]) hP hD hS hA [2, 3, 4, 0, 1] (by decide) rfl
        refine va_callv (va_runV (As := [.int m_h]) (rest := []) ⟨hx, hb, hml, hown, hts⟩ (th_hold l G a_th a_ba a_ad a_hl a_lv a_h a_k a_cn a_nx a_hp H.size e_fu m_h f_ba f_ad m_f m_g ⟨by omega, by omega⟩) (cwV 1 hts gV_X7_121 rfl rfl rfl hv_X7_holdIn ⟨Nat.le_of_ble_eq_true rfl, Nat.le_of_ble_eq_true rfl⟩) (g5_preV hPc hK hDc hN hT hS hFc (ci := 7) (q0 := 0) rfl rfl) rfl rfl hl.1 rfl (lv_room (Nat.le_of_ble_eq_true rfl)) dX7_cellsIn_56 ⟨Nat.le_of_ble_eq_true rfl, Nat.le_of_ble_eq_true rfl⟩) hS (fun q _ h => hFc q h) hFc (fun u t H1 locs ht hvm hw hB hz1 hk1 hS => ?_)
        obtain ⟨hP1, hD1⟩ := hB
        rw [ht] at hP1
        obtain ⟨z20, z21, rfl⟩ := hw
        obtain ⟨hP, hD⟩ := va_join (wr := [(a_hp, (arI G 1536 z3))]) hP hD [2, 3, 4, 0, 1] [5] rfl rfl (by decide) (by decide) hk1 hFc hP1 hD1
        generalize H1 = H at hP hS ⊢
        refine g5_rs [(a_hp, (arI G 1536 z3)), (a_th, (oc7 a_h a_k a_ba a_ad e_fu a_cn a_nx a_hp a_hl a_lv)), (a_ba, (arJ G 24 f_ba)), (a_ad, (arI G 1536 f_ad)), (a_hl, (arI G 64 z20)), (a_lv, (arI G 64 z21))] hP hD (fun hP hD => ?_)
        refine lv_iinc (v := (m_h + 1)) (lv' := [(2, .int (m_h + 1)), (0, .ref a_th), (1, .int p_h)]) hx hb dX7_cellsIn_59 hl (k := 0) rfl rfl (by decide) rfl (fun ls hl => ?_)
        have t_22 : (m_h + 1).toInt = m_h.toInt + 1 := g5_iadd (a := m_h.toInt) (b := 1) rfl (by decide) (by omega) (by omega)
        refine lv_goto (tgt := 49) hx hb dX7_cellsIn_62 (by decide) ?_
        exact ih_49_10 ((m_h + 1), z20, z21) ls H locs (show Int.toNat (24 - (m_h + 1).toInt) < Int.toNat (24 - m_h.toInt) from g_up (show m_h.toInt < (m_h + 1).toInt by omega) (show m_h.toInt < 24 by omega)) ⟨lv_sub hl [0, 1, 2] rfl, hP.sub [4, 5, 1, 2, 3, 0] rfl, hD.sub [4, 5, 1, 2, 3, 0] (by decide) rfl, hS, ⟨by omega, by omega⟩⟩
    ·
      have i_8 : k_i.toInt < 64 := by have z := g5_geN (a := k_i.toInt) (b := 64) (by rfl) (by decide) c_8; omega
      refine lv_aload_n hx hb dX7_cellsIn_17 rfl (lv_at hl 1 rfl) ?_
      refine va_get (D := G.1) (ci := 7) (v := .ref a_hl) (C := RX7) (T := TX7) (N := 10) hx hb hts inG_X7 hown hK hP 2 rfl rfl 8 (by decide) (hts _ fl_X7_28) (fun _ h9 => h9) rfl dX7_cellsIn_18 ?_
      refine lv_iload_n hx hb dX7_cellsIn_21 rfl (lv_at hl 0 rfl) ?_
      refine lv_aload_n hx hb dX7_cellsIn_22 rfl (lv_at hl 1 rfl) ?_
      refine va_get (D := G.1) (ci := 7) (v := .ref a_ba) (C := RX7) (T := TX7) (N := 10) hx hb hts inG_X7 hown hK hP 2 rfl rfl 2 (by decide) (hts _ fl_X7_9) (fun _ h9 => h9) rfl dX7_cellsIn_23 ?_
      refine lv_iconst (v := 0) hx hb dX7_cellsIn_26 (by decide) ?_
      refine va_lald hx hb hK hP 3 1 rfl rfl (i := 0) (by unfold vp_in; decide) dX7_cellsIn_27 ?_
      refine g5_tl (v := (f_ba 0)) rfl ?_
      refine lv_iload_n hx hb dX7_cellsIn_28 rfl (lv_at hl 0 rfl) ?_
      obtain ⟨hPc, hDc, hFc⟩ := g5_sub3 (wc := []) hP hD hS hA [] (by decide) rfl
      refine va_calli (va_runSN (As := [.long (f_ba 0), .int k_i]) (rest := [.int k_i, .ref a_hl]) ⟨hx, hb, hml, hown, hts⟩ (k_isOn l G H.size k_i (f_ba 0) ⟨by omega, by omega⟩) ⟨va_cnB 2 hts gW_X11_isOn rfl rfl rfl (hN.1 _ g5_nw_X7_98) (hts _ ini_X11) hs_X11_isOn ⟨Nat.le_of_ble_eq_true rfl, Nat.le_of_ble_eq_true rfl⟩, hts _ st_X11_isOn, trivial⟩ (g5_preS hPc hK hDc hN hT hS hFc) rfl rfl hl.1 rfl (lv_room (Nat.le_of_ble_eq_true rfl)) dX7_cellsIn_29 ⟨Nat.le_of_ble_eq_true rfl, Nat.le_of_ble_eq_true rfl⟩) hS (fun q _ h => hFc q h) hFc (fun r u t H1 locs ht hvm hw hB hz1 hk1 hS => ?_)
      obtain ⟨hP1, hD1⟩ := hB
      rw [ht] at hP1
      rcases hw with ⟨i_23, rfl, rfl⟩ | ⟨i_24, rfl, rfl⟩
      ·
        have i_23 : onB (f_ba 0) k_i.toInt = false := i_23
        have hP := g5_same hP hk1
        generalize H1 = H at hP hS ⊢
        refine lv_if_eq (tgt := 39) hx hb dX7_cellsIn_32 (by decide) (fun c_25 => ?_) (fun c_25 => ?_)
        ·
          refine lv_iconst (v := 1) hx hb dX7_cellsIn_39 (by decide) ?_
          refine va_iast hx hb hK hP hD hS 0 0 rfl rfl (i := k_i) (x := 1) (vp_in_iff.mpr ⟨by omega, by omega⟩) dX7_cellsIn_40 (fun H locs hP hD hS => ?_)
          refine g5_rs [(a_hl, (arI G 64 (upd k_f k_i.toNatClampNeg 1))), (a_lv, (arI G 64 f_lv)), (a_th, (oc7 a_h a_k a_ba a_ad e_fu a_cn a_nx a_hp a_hl a_lv)), (a_ba, (arJ G 24 f_ba)), (a_ad, (arI G 1536 f_ad)), (a_hp, (arI G 1536 z3))] hP hD (fun hP hD => ?_)
          refine lv_iinc (v := (k_i + 1)) (lv' := [(2, .int (k_i + 1)), (0, .ref a_th), (1, .int p_h)]) hx hb dX7_cellsIn_41 hl (k := 0) rfl rfl (by decide) rfl (fun ls hl => ?_)
          have t_26 : (k_i + 1).toInt = k_i.toInt + 1 := g5_iadd (a := k_i.toInt) (b := 1) rfl (by decide) (by omega) (by omega)
          refine lv_goto (tgt := 11) hx hb dX7_cellsIn_44 (by decide) ?_
          exact ih_11_7 ((k_i + 1), (upd k_f k_i.toNatClampNeg 1)) ls H locs (show Int.toNat (64 - (k_i + 1).toInt) < Int.toNat (64 - k_i.toInt) from g_up (show k_i.toInt < (k_i + 1).toInt by omega) (show k_i.toInt < 64 by omega)) ⟨lv_sub hl [0, 1, 2] rfl, hP, hD, hS, ⟨by omega, by omega⟩⟩
        ·
          exact absurd c_25 (by decide)
      ·
        have i_24 : onB (f_ba 0) k_i.toInt = true := i_24
        have hP := g5_same hP hk1
        generalize H1 = H at hP hS ⊢
        refine lv_if_eq (tgt := 39) hx hb dX7_cellsIn_32 (by decide) (fun c_27 => ?_) (fun c_27 => ?_)
        ·
          exact absurd c_27 (by decide)
        ·
          refine lv_iconst (v := 0) hx hb dX7_cellsIn_35 (by decide) ?_
          refine lv_goto (tgt := 40) hx hb dX7_cellsIn_36 (by decide) ?_
          refine va_iast hx hb hK hP hD hS 0 0 rfl rfl (i := k_i) (x := 0) (vp_in_iff.mpr ⟨by omega, by omega⟩) dX7_cellsIn_40 (fun H locs hP hD hS => ?_)
          refine g5_rs [(a_hl, (arI G 64 (upd k_f k_i.toNatClampNeg 0))), (a_lv, (arI G 64 f_lv)), (a_th, (oc7 a_h a_k a_ba a_ad e_fu a_cn a_nx a_hp a_hl a_lv)), (a_ba, (arJ G 24 f_ba)), (a_ad, (arI G 1536 f_ad)), (a_hp, (arI G 1536 z3))] hP hD (fun hP hD => ?_)
          refine lv_iinc (v := (k_i + 1)) (lv' := [(2, .int (k_i + 1)), (0, .ref a_th), (1, .int p_h)]) hx hb dX7_cellsIn_41 hl (k := 0) rfl rfl (by decide) rfl (fun ls hl => ?_)
          have t_28 : (k_i + 1).toInt = k_i.toInt + 1 := g5_iadd (a := k_i.toInt) (b := 1) rfl (by decide) (by omega) (by omega)
          refine lv_goto (tgt := 11) hx hb dX7_cellsIn_44 (by decide) ?_
          exact ih_11_7 ((k_i + 1), (upd k_f k_i.toNatClampNeg 0)) ls H locs (show Int.toNat (64 - (k_i + 1).toInt) < Int.toNat (64 - k_i.toInt) from g_up (show k_i.toInt < (k_i + 1).toInt by omega) (show k_i.toInt < 64 by omega)) ⟨lv_sub hl [0, 1, 2] rfl, hP, hD, hS, ⟨by omega, by omega⟩⟩
  ·
    have i_5 : z2.toInt = 0 := by have z := g5_neN (a := z2.toInt) (b := 0) (by rfl) (by decide) c_5; omega
    refine lv_lconst (v := 0) hx hb dX7_cellsIn_7 (by decide) ?_
    exact W.lret (v := 0) hx hb hr (fun t ht hW => ⟨⟨0, [(a_th, (oc7 a_h a_k a_ba a_ad e_fu a_cn a_nx a_hp a_hl a_lv)), (a_ba, (arJ G 24 f_ba)), (a_ad, (arI G 1536 f_ad)), (a_hp, (arI G 1536 z3)), (a_hl, (arI G 64 f_hl)), (a_lv, (arI G 64 f_lv))], rfl, ⟨0, z3, f_hl, f_lv, rfl, rfl⟩, by rw [ht]; exact hP.sub [2, 3, 4, 5, 0, 1] rfl, hD.sub [2, 3, 4, 5, 0, 1] (by decide) rfl⟩, hS.F ht⟩) hS.2.2 dX7_cellsIn_8
