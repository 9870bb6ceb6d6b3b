set_option maxHeartbeats 4000000 in
set_option maxRecDepth 100000 in
theorem th_step (l : Launch) (G : g5_G) (a_th a_ba a_ad a_cn a_nx a_h a_k a_hp a_hl a_lv : Nat) (sz : Nat) (e_fu : Int32) (p_h : Int32) (f_ba : Nat → Int64) (f_ad : Nat → Int32) (f_cn : Nat → Int64) (f_nx : Nat → Int64) (h_p_h : 1 ≤ p_h.toInt ∧ p_h.toInt ≤ 23) (e_tk : TOK e_fu f_ad) : Met l yX7_stepTo (wsG yX7_stepTo cX7_stepTo 8 none) ({ frames := 1, cells := 0, slots := 0, locals := 22 }) (va_Pc [.ref a_th, .int p_h] (g5_P G [(a_th, (oc7 a_h a_k a_ba a_ad e_fu a_cn a_nx a_hp a_hl a_lv)), (a_ba, (arJ G 24 f_ba)), (a_ad, (arI G 1536 f_ad)), (a_cn, (arJ G 2048 f_cn)), (a_nx, (arJ G 2048 f_nx))] sz)) (va_Qv (fun (u : va_W) => (∃ (o_f : Nat → Int64), (u = [(a_th, (oc7 a_h a_k a_ba a_ad e_fu a_nx a_cn a_hp a_hl a_lv)), (a_ba, (arJ G 24 f_ba)), (a_ad, (arI G 1536 f_ad)), (a_cn, (arJ G 2048 f_cn)), (a_nx, (arJ G 2048 o_f))]))) (g5_B G (va_A [(a_th, (oc7 a_h a_k a_ba a_ad e_fu a_cn a_nx a_hp a_hl a_lv)), (a_ba, (arJ G 24 f_ba)), (a_ad, (arI G 1536 f_ad)), (a_cn, (arJ G 2048 f_cn)), (a_nx, (arJ G 2048 f_nx))] sz)) (va_A [(a_th, (oc7 a_h a_k a_ba a_ad e_fu a_cn a_nx a_hp a_hl a_lv)), (a_ba, (arJ G 24 f_ba)), (a_ad, (arI G 1536 f_ad)), (a_cn, (arJ G 2048 f_cn)), (a_nx, (arJ G 2048 f_nx))] sz)) 0 0 (va_A [(a_th, (oc7 a_h a_k a_ba a_ad e_fu a_cn a_nx a_hp a_hl a_lv)), (a_ba, (arJ G 24 f_ba)), (a_ad, (arI G 1536 f_ad)), (a_cn, (arJ G 2048 f_cn)), (a_nx, (arJ G 2048 f_nx))] sz) := by
  refine Met.ofW (cc := cX7_stepTo) (maxL := 8) (ret := none) (by decide) rfl ?_
  intro p e s m args below meth c s₁ B hml hv
  obtain ⟨rfl, hsz, hP, hK, hD0, hN, hT⟩ := hv
  have hx := B.exec
  have hb := B.bytes
  have hr := B.returns
  have hts : ∀ w ∈ tblG, w.before _ s = true := fun w h => atoms_spec (ws := (wsG yX7_stepTo cX7_stepTo 8 none)) B.pre w (List.mem_cons_of_mem _ h)
  have hown : s.vm.findClass RX7 = some m.cls := findClass_of_methodNamed B.named
  have hlocks := B.notSynchronized
  subst hsz
  have hD := hD0.self (sz := s.heap.size)
  generalize hAe : va_A [(a_th, (oc7 a_h a_k a_ba a_ad e_fu a_cn a_nx a_hp a_hl a_lv)), (a_ba, (arJ G 24 f_ba)), (a_ad, (arI G 1536 f_ad)), (a_cn, (arJ G 2048 f_cn)), (a_nx, (arJ G 2048 f_nx))] s.heap.size = A at hD hT ⊢
  have hA : ∀ q : Nat, s.heap.size ≤ q → A q := fun q h => by rw [← hAe]; exact Or.inr h
  have hS : va_S A s.heap s.heap [] := va_S.rf
  have hP : va_P G.1 vwCl [(a_th, (oc7 a_h a_k a_ba a_ad e_fu a_cn a_nx a_hp a_hl a_lv)), (a_ba, (arJ G 24 f_ba)), (a_ad, (arI G 1536 f_ad)), (a_cn, (arJ G 2048 f_cn)), (a_nx, (arJ G 2048 f_nx))] s.heap := hP
  have hl := lv_entry ([.ref a_th, .int p_h]) (n := 8) (Nat.le_of_ble_eq_true rfl)
  rw [lg_entry_eq]
  generalize (lg_sl ([.ref a_th, .int p_h]) ++ List.replicate (8 - (lg_sl ([.ref a_th, .int p_h])).length) Slot.unset).toArray = ls at hl ⊢
  have hl : lv_has ls 8 [(0, .ref a_th), (1, .int p_h)] := hl
  have hfu := tk_fu e_tk
  refine lv_aload_n hx hb dX7_stepTo_0 rfl (lv_at hl 0 rfl) ?_
  refine va_get (D := G.1) (ci := 7) (v := .int e_fu) (C := RX7) (T := TX7) (N := 10) hx hb hts inG_X7 hown hK hP 0 rfl rfl 4 (by decide) (hts _ fl_X7_89) (fun _ h9 => h9) rfl dX7_stepTo_1 ?_
  refine lv_iconst (v := 1) hx hb dX7_stepTo_4 (by decide) ?_
  refine lv_iadd hx hb dX7_stepTo_5 ?_
  have t_1 : (e_fu + 1).toInt = e_fu.toInt + 1 := g5_iadd (a := e_fu.toInt) (b := 1) (by rfl) (by decide) (by omega) (by omega)
  refine lv_istore_n (lv' := [(2, .int (e_fu + 1)), (0, .ref a_th), (1, .int p_h)]) hx hb dX7_stepTo_6 rfl hl (by decide) rfl (fun ls hl => ?_)
  refine lv_iconst (v := 0) hx hb dX7_stepTo_7 (by decide) ?_
  refine lv_istore_n (lv' := [(3, .int 0), (2, .int (e_fu + 1)), (0, .ref a_th), (1, .int p_h)]) hx hb dX7_stepTo_8 rfl hl (by decide) rfl (fun ls hl => ?_)
  refine g5_loop (α := (Int32) × (Nat → Int64)) (fun (q : (Int32) × (Nat → Int64)) (ls : Array Slot) (H : Heap) (locs : List Loc) => match q with | (k_c, k_f) => lv_has ls 8 [(3, .int k_c), (2, .int (e_fu + 1)), (0, .ref a_th), (1, .int p_h)] ∧ va_P G.1 vwCl [(a_th, (oc7 a_h a_k a_ba a_ad e_fu a_cn a_nx a_hp a_hl a_lv)), (a_ba, (arJ G 24 f_ba)), (a_ad, (arI G 1536 f_ad)), (a_cn, (arJ G 2048 f_cn)), (a_nx, (arJ G 2048 k_f))] H ∧ va_D A [(a_th, (oc7 a_h a_k a_ba a_ad e_fu a_cn a_nx a_hp a_hl a_lv)), (a_ba, (arJ G 24 f_ba)), (a_ad, (arI G 1536 f_ad)), (a_cn, (arJ G 2048 f_cn)), (a_nx, (arJ G 2048 k_f))] ∧ va_S A s.heap H locs ∧ (0 ≤ k_c.toInt ∧ k_c.toInt ≤ 64)) (fun (q : (Int32) × (Nat → Int64)) => match q with | (k_c, k_f) => Int.toNat (64 - k_c.toInt)) (0, f_nx) ⟨lv_sub hl [0, 1, 2, 3] rfl, hP, hD, hS, ⟨by decide, by decide⟩⟩ ?_
  rintro ⟨k_c, k_f⟩ ls H locs ⟨hl, hP, hD, hS, i_2⟩ ih_9_3
  have hl : lv_has ls 8 [(3, .int k_c), (2, .int (e_fu + 1)), (0, .ref a_th), (1, .int p_h)] := hl
  have i_2 : 0 ≤ k_c.toInt ∧ k_c.toInt ≤ 64 := i_2
  refine g5_rs [(a_th, (oc7 a_h a_k a_ba a_ad e_fu a_cn a_nx a_hp a_hl a_lv)), (a_ba, (arJ G 24 f_ba)), (a_ad, (arI G 1536 f_ad)), (a_cn, (arJ G 2048 f_cn)), (a_nx, (arJ G 2048 k_f))] hP hD (fun hP hD => ?_)
  refine lv_iload_n hx hb dX7_stepTo_9 rfl (lv_at hl 0 rfl) ?_
  refine lv_bipush (v := 64) hx hb dX7_stepTo_10 (by decide) ?_
  refine lv_icmp_ge (tgt := 147) hx hb dX7_stepTo_12 (by decide) (fun c_4 => ?_) (fun c_4 => ?_)
  ·
    have i_4 : k_c.toInt ≥ 64 := by have z := g5_ge (a := k_c.toInt) (b := 64) (by rfl) (by decide) c_4; omega
    refine lv_aload_n hx hb dX7_stepTo_147 rfl (lv_at hl 2 rfl) ?_
    refine va_get (D := G.1) (ci := 7) (v := .ref a_cn) (C := RX7) (T := TX7) (N := 10) hx hb hts inG_X7 hown hK hP 0 rfl rfl 5 (by decide) (hts _ fl_X7_19) (fun _ h9 => h9) rfl dX7_stepTo_148 ?_
    refine lv_astore_n (lv' := [(3, .ref a_cn), (2, .int (e_fu + 1)), (0, .ref a_th), (1, .int p_h)]) hx hb dX7_stepTo_151 rfl hl (by decide) rfl (fun ls hl => ?_)
    refine lv_aload_n hx hb dX7_stepTo_152 rfl (lv_at hl 2 rfl) ?_
    refine lv_aload_n hx hb dX7_stepTo_153 rfl (lv_at hl 2 rfl) ?_
    refine va_get (D := G.1) (ci := 7) (v := .ref a_nx) (C := RX7) (T := TX7) (N := 10) hx hb hts inG_X7 hown hK hP 0 rfl rfl 6 (by decide) (hts _ fl_X7_22) (fun _ h9 => h9) rfl dX7_stepTo_154 ?_
    refine va_put (D := G.1) (ci := 7) (v := .ref a_nx) (ty := .array .long) (C := RX7) (T := TX7) (N := 10) hx hb hts inG_X7 tyX7 tyX7_ok nmX7 hown hK hP hD hS 0 rfl rfl 5 (by decide) (hts _ fl_X7_19) (fun _ h9 => h9) rfl (by decide +kernel) rfl rfl (Nat.le_of_ble_eq_true rfl) dX7_stepTo_157 (fun H locs hP hD hS => ?_)
    refine g5_rs [(a_th, (oc7 a_h a_k a_ba a_ad e_fu a_nx a_nx a_hp a_hl a_lv)), (a_ba, (arJ G 24 f_ba)), (a_ad, (arI G 1536 f_ad)), (a_cn, (arJ G 2048 f_cn)), (a_nx, (arJ G 2048 k_f))] hP hD (fun hP hD => ?_)
    refine lv_aload_n hx hb dX7_stepTo_160 rfl (lv_at hl 2 rfl) ?_
    refine lv_aload_n hx hb dX7_stepTo_161 rfl (lv_at hl 0 rfl) ?_
    refine va_put (D := G.1) (ci := 7) (v := .ref a_cn) (ty := .array .long) (C := RX7) (T := TX7) (N := 10) hx hb hts inG_X7 tyX7 tyX7_ok nmX7 hown hK hP hD hS 0 rfl rfl 6 (by decide) (hts _ fl_X7_22) (fun _ h9 => h9) rfl (by decide +kernel) rfl rfl (Nat.le_of_ble_eq_true rfl) dX7_stepTo_162 (fun H locs hP hD hS => ?_)
    refine g5_rs [(a_th, (oc7 a_h a_k a_ba a_ad e_fu a_nx a_cn a_hp a_hl a_lv)), (a_ba, (arJ G 24 f_ba)), (a_ad, (arI G 1536 f_ad)), (a_cn, (arJ G 2048 f_cn)), (a_nx, (arJ G 2048 k_f))] hP hD (fun hP hD => ?_)
    exact W.vret hx hb hr (fun t ht hW => ⟨⟨[(a_th, (oc7 a_h a_k a_ba a_ad e_fu a_nx a_cn a_hp a_hl a_lv)), (a_ba, (arJ G 24 f_ba)), (a_ad, (arI G 1536 f_ad)), (a_cn, (arJ G 2048 f_cn)), (a_nx, (arJ G 2048 k_f))], rfl, ⟨k_f, rfl⟩, by rw [ht]; exact hP.sub [0, 1, 2, 3, 4] rfl, hD.sub [0, 1, 2, 3, 4] (by decide) rfl⟩, hS.F ht⟩) hS.2.2 dX7_stepTo_165
  ·
    have i_4 : k_c.toInt < 64 := by have z := g5_geN (a := k_c.toInt) (b := 64) (by rfl) (by decide) c_4; omega
    refine lv_iconst (v := 0) hx hb dX7_stepTo_15 (by decide) ?_
    refine lv_istore (lv' := [(4, .int 0), (3, .int k_c), (2, .int (e_fu + 1)), (0, .ref a_th), (1, .int p_h)]) hx hb dX7_stepTo_16 hl (by decide) rfl (fun ls hl => ?_)
    refine g5_loop (α := (Int32) × (Nat → Int64)) (fun (q : (Int32) × (Nat → Int64)) (ls : Array Slot) (H : Heap) (locs : List Loc) => match q with | (m_m, m_f) => lv_has ls 8 [(4, .int m_m), (3, .int k_c), (2, .int (e_fu + 1)), (0, .ref a_th), (1, .int p_h)] ∧ va_P G.1 vwCl [(a_th, (oc7 a_h a_k a_ba a_ad e_fu a_cn a_nx a_hp a_hl a_lv)), (a_ba, (arJ G 24 f_ba)), (a_ad, (arI G 1536 f_ad)), (a_cn, (arJ G 2048 f_cn)), (a_nx, (arJ G 2048 m_f))] H ∧ va_D A [(a_th, (oc7 a_h a_k a_ba a_ad e_fu a_cn a_nx a_hp a_hl a_lv)), (a_ba, (arJ G 24 f_ba)), (a_ad, (arI G 1536 f_ad)), (a_cn, (arJ G 2048 f_cn)), (a_nx, (arJ G 2048 m_f))] ∧ va_S A s.heap H locs ∧ (0 ≤ m_m.toInt ∧ m_m.toInt ≤ 32)) (fun (q : (Int32) × (Nat → Int64)) => match q with | (m_m, m_f) => Int.toNat (32 - m_m.toInt)) (0, k_f) ⟨lv_sub hl [0, 1, 2, 3, 4] rfl, hP, hD, hS, ⟨by decide, by decide⟩⟩ ?_
    rintro ⟨m_m, m_f⟩ ls H locs ⟨hl, hP, hD, hS, i_5⟩ ih_18_6
    have hl : lv_has ls 8 [(4, .int m_m), (3, .int k_c), (2, .int (e_fu + 1)), (0, .ref a_th), (1, .int p_h)] := hl
    have i_5 : 0 ≤ m_m.toInt ∧ m_m.toInt ≤ 32 := i_5
    refine g5_rs [(a_th, (oc7 a_h a_k a_ba a_ad e_fu a_cn a_nx a_hp a_hl a_lv)), (a_ba, (arJ G 24 f_ba)), (a_ad, (arI G 1536 f_ad)), (a_cn, (arJ G 2048 f_cn)), (a_nx, (arJ G 2048 m_f))] hP hD (fun hP hD => ?_)
    refine lv_iload hx hb dX7_stepTo_18 (lv_at hl 0 rfl) ?_
    refine lv_iload_n hx hb dX7_stepTo_20 rfl (lv_at hl 2 rfl) ?_
    refine lv_icmp_ge (tgt := 42) hx hb dX7_stepTo_21 (by decide) (fun c_7 => ?_) (fun c_7 => ?_)
    ·
      have i_7 : m_m.toInt ≥ (e_fu.toInt + 1) := by have z := g5_ge (a := m_m.toInt) (b := (e_fu + 1).toInt) (by rfl) (by rfl) c_7; omega
      refine lv_aload_n hx hb dX7_stepTo_42 rfl (lv_at hl 3 rfl) ?_
      refine va_get (D := G.1) (ci := 7) (v := .ref a_ad) (C := RX7) (T := TX7) (N := 10) hx hb hts inG_X7 hown hK hP 0 rfl rfl 3 (by decide) (hts _ fl_X7_15) (fun _ h9 => h9) rfl dX7_stepTo_43 ?_
      refine lv_iload_n hx hb dX7_stepTo_46 rfl (lv_at hl 4 rfl) ?_
      refine lv_bipush (v := 64) hx hb dX7_stepTo_47 (by decide) ?_
      refine lv_imul hx hb dX7_stepTo_49 ?_
      have t_8 : (p_h * 64).toInt = p_h.toInt * 64 := g5_imul (a := p_h.toInt) (b := 64) (by rfl) (by decide) (by omega) (by omega)
      refine lv_iload_n hx hb dX7_stepTo_50 rfl (lv_at hl 1 rfl) ?_
      refine lv_iadd hx hb dX7_stepTo_51 ?_
      have t_9 : ((p_h * 64) + k_c).toInt = (p_h * 64).toInt + k_c.toInt := g5_iadd (a := (p_h * 64).toInt) (b := k_c.toInt) (by rfl) (by rfl) (by omega) (by omega)
      refine va_iald hx hb hK hP 2 0 rfl rfl (i := ((p_h * 64) + k_c)) (vp_in_iff.mpr ⟨by omega, by omega⟩) dX7_stepTo_52 ?_
      have hp_10 : 0 ≤ (f_ad ((p_h * 64) + k_c).toNatClampNeg).toInt ∧ (f_ad ((p_h * 64) + k_c).toNatClampNeg).toInt ≤ e_fu.toInt := tk_ad e_tk (by have zz := g5_clamp ((p_h * 64) + k_c); omega)
      refine lv_istore (lv' := [(4, .int (f_ad ((p_h * 64) + k_c).toNatClampNeg)), (3, .int k_c), (2, .int (e_fu + 1)), (0, .ref a_th), (1, .int p_h)]) hx hb dX7_stepTo_53 hl (by decide) rfl (fun ls hl => ?_)
      refine lv_iconst (v := 0) hx hb dX7_stepTo_55 (by decide) ?_
      refine lv_istore (lv' := [(5, .int 0), (4, .int (f_ad ((p_h * 64) + k_c).toNatClampNeg)), (3, .int k_c), (2, .int (e_fu + 1)), (0, .ref a_th), (1, .int p_h)]) hx hb dX7_stepTo_56 hl (by decide) rfl (fun ls hl => ?_)
      refine g5_loop (α := (Int32) × (Nat → Int64)) (fun (q : (Int32) × (Nat → Int64)) (ls : Array Slot) (H : Heap) (locs : List Loc) => match q with | (n_w, n_f) => lv_has ls 8 [(5, .int n_w), (4, .int (f_ad ((p_h * 64) + k_c).toNatClampNeg)), (3, .int k_c), (2, .int (e_fu + 1)), (0, .ref a_th), (1, .int p_h)] ∧ va_P G.1 vwCl [(a_th, (oc7 a_h a_k a_ba a_ad e_fu a_cn a_nx a_hp a_hl a_lv)), (a_ba, (arJ G 24 f_ba)), (a_ad, (arI G 1536 f_ad)), (a_cn, (arJ G 2048 f_cn)), (a_nx, (arJ G 2048 n_f))] H ∧ va_D A [(a_th, (oc7 a_h a_k a_ba a_ad e_fu a_cn a_nx a_hp a_hl a_lv)), (a_ba, (arJ G 24 f_ba)), (a_ad, (arI G 1536 f_ad)), (a_cn, (arJ G 2048 f_cn)), (a_nx, (arJ G 2048 n_f))] ∧ va_S A s.heap H locs ∧ (0 ≤ n_w.toInt ∧ n_w.toInt ≤ 5)) (fun (q : (Int32) × (Nat → Int64)) => match q with | (n_w, n_f) => Int.toNat (5 - n_w.toInt)) (0, m_f) ⟨lv_sub hl [0, 1, 2, 3, 4, 5] rfl, hP, hD, hS, ⟨by decide, by decide⟩⟩ ?_
      rintro ⟨n_w, n_f⟩ ls H locs ⟨hl, hP, hD, hS, i_11⟩ ih_58_12
      have hl : lv_has ls 8 [(5, .int n_w), (4, .int (f_ad ((p_h * 64) + k_c).toNatClampNeg)), (3, .int k_c), (2, .int (e_fu + 1)), (0, .ref a_th), (1, .int p_h)] := hl
      have i_11 : 0 ≤ n_w.toInt ∧ n_w.toInt ≤ 5 := i_11
      refine g5_rs [(a_th, (oc7 a_h a_k a_ba a_ad e_fu a_cn a_nx a_hp a_hl a_lv)), (a_ba, (arJ G 24 f_ba)), (a_ad, (arI G 1536 f_ad)), (a_cn, (arJ G 2048 f_cn)), (a_nx, (arJ G 2048 n_f))] hP hD (fun hP hD => ?_)
      refine lv_iload hx hb dX7_stepTo_58 (lv_at hl 0 rfl) ?_
      refine lv_iconst (v := 4) hx hb dX7_stepTo_60 (by decide) ?_
      refine lv_icmp_gt (tgt := 141) hx hb dX7_stepTo_61 (by decide) (fun c_13 => ?_) (fun c_13 => ?_)
      ·
        have i_13 : n_w.toInt > 4 := by have z := g5_gt (a := n_w.toInt) (b := 4) (by rfl) (by decide) c_13; omega
        refine lv_iinc (v := (k_c + 1)) (lv' := [(3, .int (k_c + 1)), (5, .int n_w), (4, .int (f_ad ((p_h * 64) + k_c).toNatClampNeg)), (2, .int (e_fu + 1)), (0, .ref a_th), (1, .int p_h)]) hx hb dX7_stepTo_141 hl (k := 2) rfl rfl (by decide) rfl (fun ls hl => ?_)
        have t_14 : (k_c + 1).toInt = k_c.toInt + 1 := g5_iadd (a := k_c.toInt) (b := 1) rfl (by decide) (by omega) (by omega)
        refine lv_goto (tgt := 9) hx hb dX7_stepTo_144 (by decide) ?_
        exact ih_9_3 ((k_c + 1), n_f) ls H locs (show Int.toNat (64 - (k_c + 1).toInt) < Int.toNat (64 - k_c.toInt) from g_up (show k_c.toInt < (k_c + 1).toInt by omega) (show k_c.toInt < 64 by omega)) ⟨lv_sub hl [0, 3, 4, 5] rfl, hP, hD, hS, ⟨by omega, by omega⟩⟩
      ·
        have i_13 : n_w.toInt ≤ 4 := by have z := g5_gtN (a := n_w.toInt) (b := 4) (by rfl) (by decide) c_13; omega
        refine lv_aload_n hx hb dX7_stepTo_64 rfl (lv_at hl 4 rfl) ?_
        refine va_get (D := G.1) (ci := 7) (v := .ref a_ba) (C := RX7) (T := TX7) (N := 10) hx hb hts inG_X7 hown hK hP 0 rfl rfl 2 (by decide) (hts _ fl_X7_9) (fun _ h9 => h9) rfl dX7_stepTo_65 ?_
        refine lv_iload_n hx hb dX7_stepTo_68 rfl (lv_at hl 5 rfl) ?_
        refine va_lald hx hb hK hP 1 1 rfl rfl (i := p_h) (vp_in_iff.mpr ⟨by omega, by omega⟩) dX7_stepTo_69 ?_
        refine lv_iload_n hx hb dX7_stepTo_70 rfl (lv_at hl 2 rfl) ?_
        obtain ⟨hPc, hDc, hFc⟩ := g5_sub3 (wc := []) hP hD hS hA [] (by decide) rfl
        refine va_calli (va_runSN (As := [.long (f_ba p_h.toNatClampNeg), .int k_c]) (rest := []) ⟨hx, hb, hml, hown, hts⟩ (k_isOn l G H.size k_c (f_ba p_h.toNatClampNeg) ⟨by omega, by omega⟩) ⟨va_cnB 2 hts gW_X11_isOn rfl rfl rfl (hN.1 _ g5_nw_X7_98) (hts _ ini_X11) hs_X11_isOn ⟨Nat.le_of_ble_eq_true rfl, Nat.le_of_ble_eq_true rfl⟩, hts _ st_X11_isOn, trivial⟩ (g5_preS hPc hK hDc hN hT hS hFc) rfl rfl hl.1 rfl (lv_room (Nat.le_of_ble_eq_true rfl)) dX7_stepTo_71 ⟨Nat.le_of_ble_eq_true rfl, Nat.le_of_ble_eq_true rfl⟩) hS (fun q _ h => hFc q h) hFc (fun r u t H1 locs ht hvm hw hB hz1 hk1 hS => ?_)
        obtain ⟨hP1, hD1⟩ := hB
        rw [ht] at hP1
        rcases hw with ⟨i_15, rfl, rfl⟩ | ⟨i_16, rfl, rfl⟩
        ·
          have i_15 : onB (f_ba p_h.toNatClampNeg) k_c.toInt = false := i_15
          have hP := g5_same hP hk1
          generalize H1 = H at hP hS ⊢
          refine lv_if_ne (tgt := 141) hx hb dX7_stepTo_74 (by decide) (fun c_17 => ?_) (fun c_17 => ?_)
          ·
            exact absurd c_17 (by decide)
          ·
            refine lv_iload_n hx hb dX7_stepTo_77 rfl (lv_at hl 2 rfl) ?_
            refine lv_iload hx hb dX7_stepTo_78 (lv_at hl 0 rfl) ?_
            obtain ⟨hPc, hDc, hFc⟩ := g5_sub3 (wc := []) hP hD hS hA [] (by decide) rfl
            refine va_calli (va_runSN (As := [.int k_c, .int n_w]) (rest := []) ⟨hx, hb, hml, hown, hts⟩ (k_beside l G H.size k_c n_w ⟨by omega, by omega⟩) ⟨va_cnB 2 hts gW_X11_beside rfl rfl rfl (hN.1 _ g5_nw_X7_105) (hts _ ini_X11) hs_X11_beside ⟨Nat.le_of_ble_eq_true rfl, Nat.le_of_ble_eq_true rfl⟩, hts _ st_X11_beside, trivial⟩ (g5_preS hPc hK hDc hN hT hS hFc) rfl rfl hl.1 rfl (lv_room (Nat.le_of_ble_eq_true rfl)) dX7_stepTo_80 ⟨Nat.le_of_ble_eq_true rfl, Nat.le_of_ble_eq_true rfl⟩) hS (fun q _ h => hFc q h) hFc (fun r u t H1 locs ht hvm hw hB hz1 hk1 hS => ?_)
            obtain ⟨hP1, hD1⟩ := hB
            rw [ht] at hP1
            obtain ⟨z20, i_18, i_19, y21, rfl⟩ := hw
            have i_18 : z20.toInt = bs k_c.toInt n_w.toInt := i_18
            have i_19 : -1 ≤ z20.toInt ∧ z20.toInt ≤ 63 := i_19
            have hP := g5_same hP hk1
            generalize H1 = H at hP hS ⊢
            refine g5_ti (v := z20) y21 ?_
            refine lv_istore (lv' := [(6, .int z20), (5, .int n_w), (4, .int (f_ad ((p_h * 64) + k_c).toNatClampNeg)), (3, .int k_c), (2, .int (e_fu + 1)), (0, .ref a_th), (1, .int p_h)]) hx hb dX7_stepTo_83 hl (by decide) rfl (fun ls hl => ?_)
            refine lv_iconst (v := 0) hx hb dX7_stepTo_85 (by decide) ?_
            refine lv_istore (lv' := [(7, .int 0), (6, .int z20), (5, .int n_w), (4, .int (f_ad ((p_h * 64) + k_c).toNatClampNeg)), (3, .int k_c), (2, .int (e_fu + 1)), (0, .ref a_th), (1, .int p_h)]) hx hb dX7_stepTo_86 hl (by decide) rfl (fun ls hl => ?_)
            refine g5_loop (α := (Int32) × (Nat → Int64)) (fun (q : (Int32) × (Nat → Int64)) (ls : Array Slot) (H : Heap) (locs : List Loc) => match q with | (q_m, q_f) => lv_has ls 8 [(7, .int q_m), (6, .int z20), (5, .int n_w), (4, .int (f_ad ((p_h * 64) + k_c).toNatClampNeg)), (3, .int k_c), (2, .int (e_fu + 1)), (0, .ref a_th), (1, .int p_h)] ∧ va_P G.1 vwCl [(a_th, (oc7 a_h a_k a_ba a_ad e_fu a_cn a_nx a_hp a_hl a_lv)), (a_ba, (arJ G 24 f_ba)), (a_ad, (arI G 1536 f_ad)), (a_cn, (arJ G 2048 f_cn)), (a_nx, (arJ G 2048 q_f))] H ∧ va_D A [(a_th, (oc7 a_h a_k a_ba a_ad e_fu a_cn a_nx a_hp a_hl a_lv)), (a_ba, (arJ G 24 f_ba)), (a_ad, (arI G 1536 f_ad)), (a_cn, (arJ G 2048 f_cn)), (a_nx, (arJ G 2048 q_f))] ∧ va_S A s.heap H locs ∧ (0 ≤ q_m.toInt ∧ q_m.toInt ≤ 32)) (fun (q : (Int32) × (Nat → Int64)) => match q with | (q_m, q_f) => Int.toNat (32 - q_m.toInt)) (0, n_f) ⟨lv_sub hl [0, 1, 2, 3, 4, 5, 6, 7] rfl, hP, hD, hS, ⟨by decide, by decide⟩⟩ ?_
            rintro ⟨q_m, q_f⟩ ls H locs ⟨hl, hP, hD, hS, i_22⟩ ih_88_23
            have hl : lv_has ls 8 [(7, .int q_m), (6, .int z20), (5, .int n_w), (4, .int (f_ad ((p_h * 64) + k_c).toNatClampNeg)), (3, .int k_c), (2, .int (e_fu + 1)), (0, .ref a_th), (1, .int p_h)] := hl
            have i_22 : 0 ≤ q_m.toInt ∧ q_m.toInt ≤ 32 := i_22
            refine g5_rs [(a_th, (oc7 a_h a_k a_ba a_ad e_fu a_cn a_nx a_hp a_hl a_lv)), (a_ba, (arJ G 24 f_ba)), (a_ad, (arI G 1536 f_ad)), (a_cn, (arJ G 2048 f_cn)), (a_nx, (arJ G 2048 q_f))] hP hD (fun hP hD => ?_)
            refine lv_iload hx hb dX7_stepTo_88 (lv_at hl 0 rfl) ?_
            refine lv_iload_n hx hb dX7_stepTo_90 rfl (lv_at hl 5 rfl) ?_
            refine lv_icmp_ge (tgt := 135) hx hb dX7_stepTo_91 (by decide) (fun c_24 => ?_) (fun c_24 => ?_)
            ·
              have i_24 : q_m.toInt ≥ (e_fu.toInt + 1) := by have z := g5_ge (a := q_m.toInt) (b := (e_fu + 1).toInt) (by rfl) (by rfl) c_24; omega
              refine lv_iinc (v := (n_w + 1)) (lv' := [(5, .int (n_w + 1)), (7, .int q_m), (6, .int z20), (4, .int (f_ad ((p_h * 64) + k_c).toNatClampNeg)), (3, .int k_c), (2, .int (e_fu + 1)), (0, .ref a_th), (1, .int p_h)]) hx hb dX7_stepTo_135 hl (k := 2) rfl rfl (by decide) rfl (fun ls hl => ?_)
              have t_25 : (n_w + 1).toInt = n_w.toInt + 1 := g5_iadd (a := n_w.toInt) (b := 1) rfl (by decide) (by omega) (by omega)
              refine lv_goto (tgt := 58) hx hb dX7_stepTo_138 (by decide) ?_
              exact ih_58_12 ((n_w + 1), q_f) ls H locs (show Int.toNat (5 - (n_w + 1).toInt) < Int.toNat (5 - n_w.toInt) from g_up (show n_w.toInt < (n_w + 1).toInt by omega) (show n_w.toInt < 5 by omega)) ⟨lv_sub hl [0, 3, 4, 5, 6, 7] rfl, hP, hD, hS, ⟨by omega, by omega⟩⟩
            ·
              have i_24 : q_m.toInt < (e_fu.toInt + 1) := by have z := g5_geN (a := q_m.toInt) (b := (e_fu + 1).toInt) (by rfl) (by rfl) c_24; omega
              refine lv_iload hx hb dX7_stepTo_94 (lv_at hl 1 rfl) ?_
              refine lv_iconst (v := (-1)) hx hb dX7_stepTo_96 (by decide) ?_
              refine lv_icmp_eq (tgt := 135) hx hb dX7_stepTo_97 (by decide) (fun c_26 => ?_) (fun c_26 => ?_)
              ·
                have i_26 : z20.toInt = (-1) := by have z := g5_eq (a := z20.toInt) (b := (-1)) (by rfl) (by decide) c_26; omega
                refine lv_iinc (v := (n_w + 1)) (lv' := [(5, .int (n_w + 1)), (7, .int q_m), (6, .int z20), (4, .int (f_ad ((p_h * 64) + k_c).toNatClampNeg)), (3, .int k_c), (2, .int (e_fu + 1)), (0, .ref a_th), (1, .int p_h)]) hx hb dX7_stepTo_135 hl (k := 2) rfl rfl (by decide) rfl (fun ls hl => ?_)
                have t_27 : (n_w + 1).toInt = n_w.toInt + 1 := g5_iadd (a := n_w.toInt) (b := 1) rfl (by decide) (by omega) (by omega)
                refine lv_goto (tgt := 58) hx hb dX7_stepTo_138 (by decide) ?_
                exact ih_58_12 ((n_w + 1), q_f) ls H locs (show Int.toNat (5 - (n_w + 1).toInt) < Int.toNat (5 - n_w.toInt) from g_up (show n_w.toInt < (n_w + 1).toInt by omega) (show n_w.toInt < 5 by omega)) ⟨lv_sub hl [0, 3, 4, 5, 6, 7] rfl, hP, hD, hS, ⟨by omega, by omega⟩⟩
              ·
                have n_26 : gNe (z20.toInt) ((-1)) := by have z := g5_eqN (a := z20.toInt) (b := (-1)) (by rfl) (by decide) c_26; unfold gNe; omega
                have i_26 : z20.toInt ≥ 0 := by have z := g5_eqN (a := z20.toInt) (b := (-1)) (by rfl) (by decide) c_26; omega
                refine lv_aload_n hx hb dX7_stepTo_100 rfl (lv_at hl 6 rfl) ?_
                refine va_get (D := G.1) (ci := 7) (v := .ref a_nx) (C := RX7) (T := TX7) (N := 10) hx hb hts inG_X7 hown hK hP 0 rfl rfl 6 (by decide) (hts _ fl_X7_22) (fun _ h9 => h9) rfl dX7_stepTo_101 ?_
                refine lv_iload_n hx hb dX7_stepTo_104 rfl (lv_at hl 4 rfl) ?_
                refine lv_iload_n hx hb dX7_stepTo_105 rfl (lv_at hl 5 rfl) ?_
                refine lv_imul hx hb dX7_stepTo_106 ?_
                have hm_28 := g_mulc (c := k_c) (m := (e_fu + 1)) ⟨by omega, by omega⟩ ⟨by omega, by omega⟩
                refine lv_iload hx hb dX7_stepTo_107 (lv_at hl 0 rfl) ?_
                refine lv_iload hx hb dX7_stepTo_109 (lv_at hl 3 rfl) ?_
                refine lv_ior hx hb dX7_stepTo_111 ?_
                have ho_29 : 0 ≤ (q_m ||| (f_ad ((p_h * 64) + k_c).toNatClampNeg)).toInt ∧ (q_m ||| (f_ad ((p_h * 64) + k_c).toNatClampNeg)).toInt ≤ e_fu.toInt := tk_or e_tk ⟨by omega, by omega⟩ ⟨by omega, by omega⟩
                refine lv_iadd hx hb dX7_stepTo_112 ?_
                have t_30 : ((k_c * (e_fu + 1)) + (q_m ||| (f_ad ((p_h * 64) + k_c).toNatClampNeg))).toInt = (k_c * (e_fu + 1)).toInt + (q_m ||| (f_ad ((p_h * 64) + k_c).toNatClampNeg)).toInt := g5_iadd (a := (k_c * (e_fu + 1)).toInt) (b := (q_m ||| (f_ad ((p_h * 64) + k_c).toNatClampNeg)).toInt) (by rfl) (by rfl) (by omega) (by omega)
                refine lv_dup2_11 hx hb dX7_stepTo_113 rfl rfl ?_
                refine va_lald hx hb hK hP 4 1 rfl rfl (i := ((k_c * (e_fu + 1)) + (q_m ||| (f_ad ((p_h * 64) + k_c).toNatClampNeg)))) (vp_in_iff.mpr ⟨by omega, by omega⟩) dX7_stepTo_114 ?_
                refine lv_aload_n hx hb dX7_stepTo_115 rfl (lv_at hl 6 rfl) ?_
                refine va_get (D := G.1) (ci := 7) (v := .ref a_cn) (C := RX7) (T := TX7) (N := 10) hx hb hts inG_X7 hown hK hP 0 rfl rfl 5 (by decide) (hts _ fl_X7_19) (fun _ h9 => h9) rfl dX7_stepTo_116 ?_
                refine lv_iload hx hb dX7_stepTo_119 (lv_at hl 1 rfl) ?_
                refine lv_iload_n hx hb dX7_stepTo_121 rfl (lv_at hl 5 rfl) ?_
                refine lv_imul hx hb dX7_stepTo_122 ?_
                have hm_31 := g_mulc (c := z20) (m := (e_fu + 1)) ⟨by omega, by omega⟩ ⟨by omega, by omega⟩
                refine lv_iload hx hb dX7_stepTo_123 (lv_at hl 0 rfl) ?_
                refine lv_iadd hx hb dX7_stepTo_125 ?_
                have t_32 : ((z20 * (e_fu + 1)) + q_m).toInt = (z20 * (e_fu + 1)).toInt + q_m.toInt := g5_iadd (a := (z20 * (e_fu + 1)).toInt) (b := q_m.toInt) (by rfl) (by rfl) (by omega) (by omega)
                refine va_lald hx hb hK hP 3 1 rfl rfl (i := ((z20 * (e_fu + 1)) + q_m)) (vp_in_iff.mpr ⟨by omega, by omega⟩) dX7_stepTo_126 ?_
                refine lv_ladd hx hb dX7_stepTo_127 ?_
                refine va_last hx hb hK hP hD hS 4 1 rfl rfl (i := ((k_c * (e_fu + 1)) + (q_m ||| (f_ad ((p_h * 64) + k_c).toNatClampNeg)))) (x := ((q_f ((k_c * (e_fu + 1)) + (q_m ||| (f_ad ((p_h * 64) + k_c).toNatClampNeg))).toNatClampNeg) + (f_cn ((z20 * (e_fu + 1)) + q_m).toNatClampNeg))) (vp_in_iff.mpr ⟨by omega, by omega⟩) dX7_stepTo_128 (fun H locs hP hD hS => ?_)
                refine g5_rs [(a_th, (oc7 a_h a_k a_ba a_ad e_fu a_cn a_nx a_hp a_hl a_lv)), (a_ba, (arJ G 24 f_ba)), (a_ad, (arI G 1536 f_ad)), (a_cn, (arJ G 2048 f_cn)), (a_nx, (arJ G 2048 (vp_updL q_f ((k_c * (e_fu + 1)) + (q_m ||| (f_ad ((p_h * 64) + k_c).toNatClampNeg))).toNatClampNeg ((q_f ((k_c * (e_fu + 1)) + (q_m ||| (f_ad ((p_h * 64) + k_c).toNatClampNeg))).toNatClampNeg) + (f_cn ((z20 * (e_fu + 1)) + q_m).toNatClampNeg)))))] hP hD (fun hP hD => ?_)
                refine lv_iinc (v := (q_m + 1)) (lv' := [(7, .int (q_m + 1)), (6, .int z20), (5, .int n_w), (4, .int (f_ad ((p_h * 64) + k_c).toNatClampNeg)), (3, .int k_c), (2, .int (e_fu + 1)), (0, .ref a_th), (1, .int p_h)]) hx hb dX7_stepTo_129 hl (k := 0) rfl rfl (by decide) rfl (fun ls hl => ?_)
                have t_33 : (q_m + 1).toInt = q_m.toInt + 1 := g5_iadd (a := q_m.toInt) (b := 1) rfl (by decide) (by omega) (by omega)
                refine lv_goto (tgt := 88) hx hb dX7_stepTo_132 (by decide) ?_
                exact ih_88_23 ((q_m + 1), (vp_updL q_f ((k_c * (e_fu + 1)) + (q_m ||| (f_ad ((p_h * 64) + k_c).toNatClampNeg))).toNatClampNeg ((q_f ((k_c * (e_fu + 1)) + (q_m ||| (f_ad ((p_h * 64) + k_c).toNatClampNeg))).toNatClampNeg) + (f_cn ((z20 * (e_fu + 1)) + q_m).toNatClampNeg)))) ls H locs (show Int.toNat (32 - (q_m + 1).toInt) < Int.toNat (32 - q_m.toInt) from g_up (show q_m.toInt < (q_m + 1).toInt by omega) (show q_m.toInt < 32 by omega)) ⟨lv_sub hl [0, 1, 2, 3, 4, 5, 6, 7] rfl, hP, hD, hS, ⟨by omega, by omega⟩⟩
        ·
          have i_16 : onB (f_ba p_h.toNatClampNeg) k_c.toInt = true := i_16
          have hP := g5_same hP hk1
          generalize H1 = H at hP hS ⊢
          refine lv_if_ne (tgt := 141) hx hb dX7_stepTo_74 (by decide) (fun c_34 => ?_) (fun c_34 => ?_)
          ·
            refine lv_iinc (v := (k_c + 1)) (lv' := [(3, .int (k_c + 1)), (5, .int n_w), (4, .int (f_ad ((p_h * 64) + k_c).toNatClampNeg)), (2, .int (e_fu + 1)), (0, .ref a_th), (1, .int p_h)]) hx hb dX7_stepTo_141 hl (k := 2) rfl rfl (by decide) rfl (fun ls hl => ?_)
            have t_35 : (k_c + 1).toInt = k_c.toInt + 1 := g5_iadd (a := k_c.toInt) (b := 1) rfl (by decide) (by omega) (by omega)
            refine lv_goto (tgt := 9) hx hb dX7_stepTo_144 (by decide) ?_
            exact ih_9_3 ((k_c + 1), n_f) ls H locs (show Int.toNat (64 - (k_c + 1).toInt) < Int.toNat (64 - k_c.toInt) from g_up (show k_c.toInt < (k_c + 1).toInt by omega) (show k_c.toInt < 64 by omega)) ⟨lv_sub hl [0, 3, 4, 5] rfl, hP, hD, hS, ⟨by omega, by omega⟩⟩
          ·
            exact absurd c_34 (by decide)
    ·
      have i_7 : m_m.toInt < (e_fu.toInt + 1) := by have z := g5_geN (a := m_m.toInt) (b := (e_fu + 1).toInt) (by rfl) (by rfl) c_7; omega
      refine lv_aload_n hx hb dX7_stepTo_24 rfl (lv_at hl 3 rfl) ?_
      refine va_get (D := G.1) (ci := 7) (v := .ref a_nx) (C := RX7) (T := TX7) (N := 10) hx hb hts inG_X7 hown hK hP 0 rfl rfl 6 (by decide) (hts _ fl_X7_22) (fun _ h9 => h9) rfl dX7_stepTo_25 ?_
      refine lv_iload_n hx hb dX7_stepTo_28 rfl (lv_at hl 1 rfl) ?_
      refine lv_iload_n hx hb dX7_stepTo_29 rfl (lv_at hl 2 rfl) ?_
      refine lv_imul hx hb dX7_stepTo_30 ?_
      have hm_36 := g_mulc (c := k_c) (m := (e_fu + 1)) ⟨by omega, by omega⟩ ⟨by omega, by omega⟩
      refine lv_iload hx hb dX7_stepTo_31 (lv_at hl 0 rfl) ?_
      refine lv_iadd hx hb dX7_stepTo_33 ?_
      have t_37 : ((k_c * (e_fu + 1)) + m_m).toInt = (k_c * (e_fu + 1)).toInt + m_m.toInt := g5_iadd (a := (k_c * (e_fu + 1)).toInt) (b := m_m.toInt) (by rfl) (by rfl) (by omega) (by omega)
      refine lv_lconst (v := 0) hx hb dX7_stepTo_34 (by decide) ?_
      refine va_last hx hb hK hP hD hS 4 1 rfl rfl (i := ((k_c * (e_fu + 1)) + m_m)) (x := 0) (vp_in_iff.mpr ⟨by omega, by omega⟩) dX7_stepTo_35 (fun H locs hP hD hS => ?_)
      refine g5_rs [(a_th, (oc7 a_h a_k a_ba a_ad e_fu a_cn a_nx a_hp a_hl a_lv)), (a_ba, (arJ G 24 f_ba)), (a_ad, (arI G 1536 f_ad)), (a_cn, (arJ G 2048 f_cn)), (a_nx, (arJ G 2048 (vp_updL m_f ((k_c * (e_fu + 1)) + m_m).toNatClampNeg 0)))] hP hD (fun hP hD => ?_)
      refine lv_iinc (v := (m_m + 1)) (lv' := [(4, .int (m_m + 1)), (3, .int k_c), (2, .int (e_fu + 1)), (0, .ref a_th), (1, .int p_h)]) hx hb dX7_stepTo_36 hl (k := 0) rfl rfl (by decide) rfl (fun ls hl => ?_)
      have t_38 : (m_m + 1).toInt = m_m.toInt + 1 := g5_iadd (a := m_m.toInt) (b := 1) rfl (by decide) (by omega) (by omega)
      refine lv_goto (tgt := 18) hx hb dX7_stepTo_39 (by decide) ?_
      exact ih_18_6 ((m_m + 1), (vp_updL m_f ((k_c * (e_fu + 1)) + m_m).toNatClampNeg 0)) ls H locs (show Int.toNat (32 - (m_m + 1).toInt) < Int.toNat (32 - m_m.toInt) from g_up (show m_m.toInt < (m_m + 1).toInt by omega) (show m_m.toInt < 32 by omega)) ⟨lv_sub hl [0, 1, 2, 3, 4] rfl, hP, hD, hS, ⟨by omega, by omega⟩⟩
theorem dgX7_countRows_0 : ∀ r ∈ ([(0, (.aload_n 0, 1)), (1, (.getfield 89, 3)), (4, (.iconst 1, 1)), (5, (.iadd, 1)), (6, (.istore_n 1, 1)), (7, (.aload_n 0, 1)), (8, (.getfield 19, 3)), (11, (.lconst 0, 1)), (12, (.invokestatic 58, 3)), (15, (.iconst 0, 1)), (16, (.istore_n 2, 1)), (17, (.iload_n 2, 1)), (18, (.bipush 64, 2)), (20, (.if_icmp .ge 42, 3)), (23, (.aload_n 0, 1)), (24, (.getfield 19, 3)), (27, (.iload_n 2, 1)), (28, (.iload_n 1, 1)), (29, (.imul, 1)), (30, (.aload_n 0, 1)), (31, (.getfield 15, 3)), (34, (.iload_n 2, 1)), (35, (.iaload, 1)), (36, (.iadd, 1)), (37, (.aload_n 0, 1)), (38, (.getfield 9, 3)), (41, (.iconst 0, 1)), (42, (.laload, 1)), (43, (.iload_n 2, 1)), (44, (.invokestatic 98, 3)), (47, (.ifCond .eq 7, 3)), (50, (.lconst 0, 1)), (51, (.goto 4, 3)), (54, (.lconst 1, 1)), (55, (.lastore, 1)), (56, (.iinc 2 1, 3)), (59, (.goto (-42), 3)), (62, (.iconst 1, 1)), (63, (.istore_n 2, 1)), (64, (.iload_n 2, 1))] : List (Nat × (Instr × Nat))), decode cX7_countRows r.1 = .ok r.2 := by decide +kernel
theorem dX7_countRows_0 : decode cX7_countRows 0 = .ok (.aload_n 0, 1) := dgX7_countRows_0 (0, (.aload_n 0, 1)) (List.mem_of_getElem? (i := 0) rfl)
theorem dX7_countRows_1 : decode cX7_countRows 1 = .ok (.getfield 89, 3) := dgX7_countRows_0 (1, (.getfield 89, 3)) (List.mem_of_getElem? (i := 1) rfl)
theorem dX7_countRows_4 : decode cX7_countRows 4 = .ok (.iconst 1, 1) := dgX7_countRows_0 (4, (.iconst 1, 1)) (List.mem_of_getElem? (i := 2) rfl)
theorem dX7_countRows_5 : decode cX7_countRows 5 = .ok (.iadd, 1) := dgX7_countRows_0 (5, (.iadd, 1)) (List.mem_of_getElem? (i := 3) rfl)
theorem dX7_countRows_6 : decode cX7_countRows 6 = .ok (.istore_n 1, 1) := dgX7_countRows_0 (6, (.istore_n 1, 1)) (List.mem_of_getElem? (i := 4) rfl)
theorem dX7_countRows_7 : decode cX7_countRows 7 = .ok (.aload_n 0, 1) := dgX7_countRows_0 (7, (.aload_n 0, 1)) (List.mem_of_getElem? (i := 5) rfl)
theorem dX7_countRows_8 : decode cX7_countRows 8 = .ok (.getfield 19, 3) := dgX7_countRows_0 (8, (.getfield 19, 3)) (List.mem_of_getElem? (i := 6) rfl)
theorem dX7_countRows_11 : decode cX7_countRows 11 = .ok (.lconst 0, 1) := dgX7_countRows_0 (11, (.lconst 0, 1)) (List.mem_of_getElem? (i := 7) rfl)
theorem dX7_countRows_12 : decode cX7_countRows 12 = .ok (.invokestatic 58, 3) := dgX7_countRows_0 (12, (.invokestatic 58, 3)) (List.mem_of_getElem? (i := 8) rfl)
theorem dX7_countRows_15 : decode cX7_countRows 15 = .ok (.iconst 0, 1) := dgX7_countRows_0 (15, (.iconst 0, 1)) (List.mem_of_getElem? (i := 9) rfl)
theorem dX7_countRows_16 : decode cX7_countRows 16 = .ok (.istore_n 2, 1) := dgX7_countRows_0 (16, (.istore_n 2, 1)) (List.mem_of_getElem? (i := 10) rfl)
theorem dX7_countRows_17 : decode cX7_countRows 17 = .ok (.iload_n 2, 1) := dgX7_countRows_0 (17, (.iload_n 2, 1)) (List.mem_of_getElem? (i := 11) rfl)
theorem dX7_countRows_18 : decode cX7_countRows 18 = .ok (.bipush 64, 2) := dgX7_countRows_0 (18, (.bipush 64, 2)) (List.mem_of_getElem? (i := 12) rfl)
theorem dX7_countRows_20 : decode cX7_countRows 20 = .ok (.if_icmp .ge 42, 3) := dgX7_countRows_0 (20, (.if_icmp .ge 42, 3)) (List.mem_of_getElem? (i := 13) rfl)
theorem dX7_countRows_23 : decode cX7_countRows 23 = .ok (.aload_n 0, 1) := dgX7_countRows_0 (23, (.aload_n 0, 1)) (List.mem_of_getElem? (i := 14) rfl)
theorem dX7_countRows_24 : decode cX7_countRows 24 = .ok (.getfield 19, 3) := dgX7_countRows_0 (24, (.getfield 19, 3)) (List.mem_of_getElem? (i := 15) rfl)
theorem dX7_countRows_27 : decode cX7_countRows 27 = .ok (.iload_n 2, 1) := dgX7_countRows_0 (27, (.iload_n 2, 1)) (List.mem_of_getElem? (i := 16) rfl)
theorem dX7_countRows_28 : decode cX7_countRows 28 = .ok (.iload_n 1, 1) := dgX7_countRows_0 (28, (.iload_n 1, 1)) (List.mem_of_getElem? (i := 17) rfl)
theorem dX7_countRows_29 : decode cX7_countRows 29 = .ok (.imul, 1) := dgX7_countRows_0 (29, (.imul, 1)) (List.mem_of_getElem? (i := 18) rfl)
theorem dX7_countRows_30 : decode cX7_countRows 30 = .ok (.aload_n 0, 1) := dgX7_countRows_0 (30, (.aload_n 0, 1)) (List.mem_of_getElem? (i := 19) rfl)
theorem dX7_countRows_31 : decode cX7_countRows 31 = .ok (.getfield 15, 3) := dgX7_countRows_0 (31, (.getfield 15, 3)) (List.mem_of_getElem? (i := 20) rfl)
theorem dX7_countRows_34 : decode cX7_countRows 34 = .ok (.iload_n 2, 1) := dgX7_countRows_0 (34, (.iload_n 2, 1)) (List.mem_of_getElem? (i := 21) rfl)
theorem dX7_countRows_35 : decode cX7_countRows 35 = .ok (.iaload, 1) := dgX7_countRows_0 (35, (.iaload, 1)) (List.mem_of_getElem? (i := 22) rfl)
theorem dX7_countRows_36 : decode cX7_countRows 36 = .ok (.iadd, 1) := dgX7_countRows_0 (36, (.iadd, 1)) (List.mem_of_getElem? (i := 23) rfl)
theorem dX7_countRows_37 : decode cX7_countRows 37 = .ok (.aload_n 0, 1) := dgX7_countRows_0 (37, (.aload_n 0, 1)) (List.mem_of_getElem? (i := 24) rfl)
theorem dX7_countRows_38 : decode cX7_countRows 38 = .ok (.getfield 9, 3) := dgX7_countRows_0 (38, (.getfield 9, 3)) (List.mem_of_getElem? (i := 25) rfl)
theorem dX7_countRows_41 : decode cX7_countRows 41 = .ok (.iconst 0, 1) := dgX7_countRows_0 (41, (.iconst 0, 1)) (List.mem_of_getElem? (i := 26) rfl)
theorem dX7_countRows_42 : decode cX7_countRows 42 = .ok (.laload, 1) := dgX7_countRows_0 (42, (.laload, 1)) (List.mem_of_getElem? (i := 27) rfl)
theorem dX7_countRows_43 : decode cX7_countRows 43 = .ok (.iload_n 2, 1) := dgX7_countRows_0 (43, (.iload_n 2, 1)) (List.mem_of_getElem? (i := 28) rfl)
theorem dX7_countRows_44 : decode cX7_countRows 44 = .ok (.invokestatic 98, 3) := dgX7_countRows_0 (44, (.invokestatic 98, 3)) (List.mem_of_getElem? (i := 29) rfl)
theorem dX7_countRows_47 : decode cX7_countRows 47 = .ok (.ifCond .eq 7, 3) := dgX7_countRows_0 (47, (.ifCond .eq 7, 3)) (List.mem_of_getElem? (i := 30) rfl)
theorem dX7_countRows_50 : decode cX7_countRows 50 = .ok (.lconst 0, 1) := dgX7_countRows_0 (50, (.lconst 0, 1)) (List.mem_of_getElem? (i := 31) rfl)
theorem dX7_countRows_51 : decode cX7_countRows 51 = .ok (.goto 4, 3) := dgX7_countRows_0 (51, (.goto 4, 3)) (List.mem_of_getElem? (i := 32) rfl)
theorem dX7_countRows_54 : decode cX7_countRows 54 = .ok (.lconst 1, 1) := dgX7_countRows_0 (54, (.lconst 1, 1)) (List.mem_of_getElem? (i := 33) rfl)
theorem dX7_countRows_55 : decode cX7_countRows 55 = .ok (.lastore, 1) := dgX7_countRows_0 (55, (.lastore, 1)) (List.mem_of_getElem? (i := 34) rfl)
theorem dX7_countRows_56 : decode cX7_countRows 56 = .ok (.iinc 2 1, 3) := dgX7_countRows_0 (56, (.iinc 2 1, 3)) (List.mem_of_getElem? (i := 35) rfl)
theorem dX7_countRows_59 : decode cX7_countRows 59 = .ok (.goto (-42), 3) := dgX7_countRows_0 (59, (.goto (-42), 3)) (List.mem_of_getElem? (i := 36) rfl)
theorem dX7_countRows_62 : decode cX7_countRows 62 = .ok (.iconst 1, 1) := dgX7_countRows_0 (62, (.iconst 1, 1)) (List.mem_of_getElem? (i := 37) rfl)
theorem dX7_countRows_63 : decode cX7_countRows 63 = .ok (.istore_n 2, 1) := dgX7_countRows_0 (63, (.istore_n 2, 1)) (List.mem_of_getElem? (i := 38) rfl)
theorem dX7_countRows_64 : decode cX7_countRows 64 = .ok (.iload_n 2, 1) := dgX7_countRows_0 (64, (.iload_n 2, 1)) (List.mem_of_getElem? (i := 39) rfl)
theorem dgX7_countRows_1 : ∀ r ∈ ([(65, (.bipush 24, 2)), (67, (.if_icmp .ge 14, 3)), (70, (.aload_n 0, 1)), (71, (.iload_n 2, 1)), (72, (.invokevirtual 102, 3)), (75, (.iinc 2 1, 3)), (78, (.goto (-14), 3)), (81, (.lconst 0, 1)), (82, (.lstore_n 2, 1)), (83, (.iconst 0, 1)), (84, (.istore 4, 2)), (86, (.iload 4, 2)), (88, (.bipush 64, 2)), (90, (.if_icmp .ge 26, 3)), (93, (.lload_n 2, 1)), (94, (.aload_n 0, 1)), (95, (.getfield 19, 3)), (98, (.iload 4, 2)), (100, (.iload_n 1, 1)), (101, (.imul, 1)), (102, (.aload_n 0, 1)), (103, (.getfield 89, 3)), (106, (.iadd, 1)), (107, (.laload, 1)), (108, (.ladd, 1)), (109, (.lstore_n 2, 1)), (110, (.iinc 4 1, 3)), (113, (.goto (-27), 3)), (116, (.lload_n 2, 1)), (117, (.lreturn, 1))] : List (Nat × (Instr × Nat))), decode cX7_countRows r.1 = .ok r.2 := by decide +kernel
theorem dX7_countRows_65 : decode cX7_countRows 65 = .ok (.bipush 24, 2) := dgX7_countRows_1 (65, (.bipush 24, 2)) (List.mem_of_getElem? (i := 0) rfl)
theorem dX7_countRows_67 : decode cX7_countRows 67 = .ok (.if_icmp .ge 14, 3) := dgX7_countRows_1 (67, (.if_icmp .ge 14, 3)) (List.mem_of_getElem? (i := 1) rfl)
theorem dX7_countRows_70 : decode cX7_countRows 70 = .ok (.aload_n 0, 1) := dgX7_countRows_1 (70, (.aload_n 0, 1)) (List.mem_of_getElem? (i := 2) rfl)
theorem dX7_countRows_71 : decode cX7_countRows 71 = .ok (.iload_n 2, 1) := dgX7_countRows_1 (71, (.iload_n 2, 1)) (List.mem_of_getElem? (i := 3) rfl)
theorem dX7_countRows_72 : decode cX7_countRows 72 = .ok (.invokevirtual 102, 3) := dgX7_countRows_1 (72, (.invokevirtual 102, 3)) (List.mem_of_getElem? (i := 4) rfl)
theorem dX7_countRows_75 : decode cX7_countRows 75 = .ok (.iinc 2 1, 3) := dgX7_countRows_1 (75, (.iinc 2 1, 3)) (List.mem_of_getElem? (i := 5) rfl)
theorem dX7_countRows_78 : decode cX7_countRows 78 = .ok (.goto (-14), 3) := dgX7_countRows_1 (78, (.goto (-14), 3)) (List.mem_of_getElem? (i := 6) rfl)
theorem dX7_countRows_81 : decode cX7_countRows 81 = .ok (.lconst 0, 1) := dgX7_countRows_1 (81, (.lconst 0, 1)) (List.mem_of_getElem? (i := 7) rfl)
theorem dX7_countRows_82 : decode cX7_countRows 82 = .ok (.lstore_n 2, 1) := dgX7_countRows_1 (82, (.lstore_n 2, 1)) (List.mem_of_getElem? (i := 8) rfl)
theorem dX7_countRows_83 : decode cX7_countRows 83 = .ok (.iconst 0, 1) := dgX7_countRows_1 (83, (.iconst 0, 1)) (List.mem_of_getElem? (i := 9) rfl)
theorem dX7_countRows_84 : decode cX7_countRows 84 = .ok (.istore 4, 2) := dgX7_countRows_1 (84, (.istore 4, 2)) (List.mem_of_getElem? (i := 10) rfl)
theorem dX7_countRows_86 : decode cX7_countRows 86 = .ok (.iload 4, 2) := dgX7_countRows_1 (86, (.iload 4, 2)) (List.mem_of_getElem? (i := 11) rfl)
theorem dX7_countRows_88 : decode cX7_countRows 88 = .ok (.bipush 64, 2) := dgX7_countRows_1 (88, (.bipush 64, 2)) (List.mem_of_getElem? (i := 12) rfl)
theorem dX7_countRows_90 : decode cX7_countRows 90 = .ok (.if_icmp .ge 26, 3) := dgX7_countRows_1 (90, (.if_icmp .ge 26, 3)) (List.mem_of_getElem? (i := 13) rfl)
theorem dX7_countRows_93 : decode cX7_countRows 93 = .ok (.lload_n 2, 1) := dgX7_countRows_1 (93, (.lload_n 2, 1)) (List.mem_of_getElem? (i := 14) rfl)
theorem dX7_countRows_94 : decode cX7_countRows 94 = .ok (.aload_n 0, 1) := dgX7_countRows_1 (94, (.aload_n 0, 1)) (List.mem_of_getElem? (i := 15) rfl)
theorem dX7_countRows_95 : decode cX7_countRows 95 = .ok (.getfield 19, 3) := dgX7_countRows_1 (95, (.getfield 19, 3)) (List.mem_of_getElem? (i := 16) rfl)
theorem dX7_countRows_98 : decode cX7_countRows 98 = .ok (.iload 4, 2) := dgX7_countRows_1 (98, (.iload 4, 2)) (List.mem_of_getElem? (i := 17) rfl)
theorem dX7_countRows_100 : decode cX7_countRows 100 = .ok (.iload_n 1, 1) := dgX7_countRows_1 (100, (.iload_n 1, 1)) (List.mem_of_getElem? (i := 18) rfl)
theorem dX7_countRows_101 : decode cX7_countRows 101 = .ok (.imul, 1) := dgX7_countRows_1 (101, (.imul, 1)) (List.mem_of_getElem? (i := 19) rfl)
theorem dX7_countRows_102 : decode cX7_countRows 102 = .ok (.aload_n 0, 1) := dgX7_countRows_1 (102, (.aload_n 0, 1)) (List.mem_of_getElem? (i := 20) rfl)
theorem dX7_countRows_103 : decode cX7_countRows 103 = .ok (.getfield 89, 3) := dgX7_countRows_1 (103, (.getfield 89, 3)) (List.mem_of_getElem? (i := 21) rfl)
theorem dX7_countRows_106 : decode cX7_countRows 106 = .ok (.iadd, 1) := dgX7_countRows_1 (106, (.iadd, 1)) (List.mem_of_getElem? (i := 22) rfl)
theorem dX7_countRows_107 : decode cX7_countRows 107 = .ok (.laload, 1) := dgX7_countRows_1 (107, (.laload, 1)) (List.mem_of_getElem? (i := 23) rfl)
theorem dX7_countRows_108 : decode cX7_countRows 108 = .ok (.ladd, 1) := dgX7_countRows_1 (108, (.ladd, 1)) (List.mem_of_getElem? (i := 24) rfl)
theorem dX7_countRows_109 : decode cX7_countRows 109 = .ok (.lstore_n 2, 1) := dgX7_countRows_1 (109, (.lstore_n 2, 1)) (List.mem_of_getElem? (i := 25) rfl)
theorem dX7_countRows_110 : decode cX7_countRows 110 = .ok (.iinc 4 1, 3) := dgX7_countRows_1 (110, (.iinc 4 1, 3)) (List.mem_of_getElem? (i := 26) rfl)
theorem dX7_countRows_113 : decode cX7_countRows 113 = .ok (.goto (-27), 3) := dgX7_countRows_1 (113, (.goto (-27), 3)) (List.mem_of_getElem? (i := 27) rfl)
theorem dX7_countRows_116 : decode cX7_countRows 116 = .ok (.lload_n 2, 1) := dgX7_countRows_1 (116, (.lload_n 2, 1)) (List.mem_of_getElem? (i := 28) rfl)
theorem dX7_countRows_117 : decode cX7_countRows 117 = .ok (.lreturn, 1) := dgX7_countRows_1 (117, (.lreturn, 1)) (List.mem_of_getElem? (i := 29) rfl)
theorem ml_X7_102 : Cond.methodLink RX7 102 yX7_stepTo ∈ tblG := tg 983 (by decide +kernel) (by decide +kernel)
theorem im_X7_stepTo : Cond.instanceMethod yX7_stepTo ∈ tblG := tg 985 (by decide +kernel) (by decide +kernel)
theorem se_X7_stepTo : Cond.selects RX7 yX7_stepTo yX7_stepTo ∈ tblG := tg 21 (by decide +kernel) (by decide +kernel)
theorem cd_X7_stepTo : Cond.code yX7_stepTo cX7_stepTo 8 none ∈ tblG := tg 986 (by decide +kernel) (by decide +kernel)
theorem gW_X7_stepTo : GoodIn tblG (wsG yX7_stepTo cX7_stepTo 8 none) := tgi cd_X7_stepTo
theorem gV_X7_102 : GoodIn tblG (wsV RX7 102 RX7 yX7_stepTo (wsG yX7_stepTo cX7_stepTo 8 none)) := tgV ml_X7_102 im_X7_stepTo se_X7_stepTo ini_X7 gW_X7_stepTo
theorem hv_X7_stepTo : yX7_stepTo.cls = RX7 ∧ yX7_stepTo.cls ≠ "java/lang/invoke/MethodHandle" ∧ yX7_stepTo.cls ≠ "java/lang/invoke/VarHandle" ∧ (parseMethodDescriptor yX7_stepTo.desc).map (fun d => d.parameters.length) = some 1 := by decide +kernel
