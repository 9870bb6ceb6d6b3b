set_option maxHeartbeats 4000000 in
set_option maxRecDepth 100000 in
theorem th_anyFits (l : Launch) (G : g5_G) (a_th a_ba a_ad a_hp a_h a_k a_cn a_nx a_hl a_lv : Nat) (sz : Nat) (e_fu : Int32) (f_ba : Nat → Int64) (f_ad : Nat → Int32) (f_hp : Nat → Int32) : Met l yX7_anyFits (wsG yX7_anyFits cX7_anyFits 5 (some .boolean)) ({ frames := 2, cells := 0, slots := 0, locals := 46 }) (va_Pc [.ref a_th] (g5_P G [(a_th, .inr (7, [.ref a_h, .ref a_k, .ref a_ba, .ref a_ad, .int e_fu, .ref a_cn, .ref a_nx, .ref a_hp, .ref a_hl, .ref a_lv])), (a_ba, .inl (G.2 1, 24, .inr (.inl f_ba))), (a_ad, .inl (G.2 0, 1536, .inl f_ad)), (a_hp, .inl (G.2 0, 1536, .inl f_hp))] sz)) (va_Qi (fun (r : Int32) (u : va_W) => (∃ (o_r : Int32) (o_f : Nat → Int32), (0 ≤ o_r.toInt ∧ o_r.toInt ≤ 1) ∧ (r = o_r) ∧ (u = [(a_th, .inr (7, [.ref a_h, .ref a_k, .ref a_ba, .ref a_ad, .int e_fu, .ref a_cn, .ref a_nx, .ref a_hp, .ref a_hl, .ref a_lv])), (a_ba, .inl (G.2 1, 24, .inr (.inl f_ba))), (a_ad, .inl (G.2 0, 1536, .inl f_ad)), (a_hp, .inl (G.2 0, 1536, .inl o_f))]))) (g5_B G (va_A [(a_th, .inr (7, [.ref a_h, .ref a_k, .ref a_ba, .ref a_ad, .int e_fu, .ref a_cn, .ref a_nx, .ref a_hp, .ref a_hl, .ref a_lv])), (a_ba, .inl (G.2 1, 24, .inr (.inl f_ba))), (a_ad, .inl (G.2 0, 1536, .inl f_ad)), (a_hp, .inl (G.2 0, 1536, .inl f_hp))] sz)) (va_A [(a_th, .inr (7, [.ref a_h, .ref a_k, .ref a_ba, .ref a_ad, .int e_fu, .ref a_cn, .ref a_nx, .ref a_hp, .ref a_hl, .ref a_lv])), (a_ba, .inl (G.2 1, 24, .inr (.inl f_ba))), (a_ad, .inl (G.2 0, 1536, .inl f_ad)), (a_hp, .inl (G.2 0, 1536, .inl f_hp))] sz)) 0 0 (va_A [(a_th, .inr (7, [.ref a_h, .ref a_k, .ref a_ba, .ref a_ad, .int e_fu, .ref a_cn, .ref a_nx, .ref a_hp, .ref a_hl, .ref a_lv])), (a_ba, .inl (G.2 1, 24, .inr (.inl f_ba))), (a_ad, .inl (G.2 0, 1536, .inl f_ad)), (a_hp, .inl (G.2 0, 1536, .inl f_hp))] sz) := by
  refine Met.ofW (cc := cX7_anyFits) (maxL := 5) (ret := (some .boolean)) (by decide) rfl ?_
  intro p e s m args below meth c s₁ B hml hv
  obtain ⟨rfl, hsz, hP, hK, hD0, hN, hT⟩ := hv
  have hx := B.exec
  have hb := B.bytes
  have hr := B.returns
  have hts : ∀ w ∈ tblG, w.before _ s = true := fun w h => atoms_spec (ws := (wsG yX7_anyFits cX7_anyFits 5 (some .boolean))) B.pre w (List.mem_cons_of_mem _ h)
  have hown : s.vm.findClass RX7 = some m.cls := findClass_of_methodNamed B.named
  have hlocks := B.notSynchronized
  subst hsz
  have hD := hD0.self (sz := s.heap.size)
  generalize hAe : va_A [(a_th, .inr (7, [.ref a_h, .ref a_k, .ref a_ba, .ref a_ad, .int e_fu, .ref a_cn, .ref a_nx, .ref a_hp, .ref a_hl, .ref a_lv])), (a_ba, .inl (G.2 1, 24, .inr (.inl f_ba))), (a_ad, .inl (G.2 0, 1536, .inl f_ad)), (a_hp, .inl (G.2 0, 1536, .inl f_hp))] s.heap.size = A at hD hT ⊢
  have hA : ∀ q : Nat, s.heap.size ≤ q → A q := fun q h => by rw [← hAe]; exact Or.inr h
  have hS : va_S A s.heap s.heap [] := va_S.rf
  have hP : va_P G.1 vwCl [(a_th, .inr (7, [.ref a_h, .ref a_k, .ref a_ba, .ref a_ad, .int e_fu, .ref a_cn, .ref a_nx, .ref a_hp, .ref a_hl, .ref a_lv])), (a_ba, .inl (G.2 1, 24, .inr (.inl f_ba))), (a_ad, .inl (G.2 0, 1536, .inl f_ad)), (a_hp, .inl (G.2 0, 1536, .inl f_hp))] s.heap := hP
  have hl := lv_entry ([.ref a_th]) (n := 5) (Nat.le_of_ble_eq_true rfl)
  rw [lg_entry_eq]
  generalize (lg_sl ([.ref a_th]) ++ List.replicate (5 - (lg_sl ([.ref a_th])).length) Slot.unset).toArray = ls at hl ⊢
  have hl : lv_has ls 5 [(0, .ref a_th)] := hl
  refine lv_bipush (v := 23) hx hb dX7_anyFits_0 (by decide) ?_
  refine lv_istore_n (lv' := [(1, .int 23), (0, .ref a_th)]) hx hb dX7_anyFits_2 rfl hl (by decide) rfl (fun ls hl => ?_)
  refine g5_loop (α := (Int32) × (Nat → Int32)) (fun (q : (Int32) × (Nat → Int32)) (ls : Array Slot) (H : Heap) (locs : List Loc) => match q with | (k_h, k_f) => lv_has ls 5 [(1, .int k_h), (0, .ref a_th)] ∧ va_P G.1 vwCl [(a_th, .inr (7, [.ref a_h, .ref a_k, .ref a_ba, .ref a_ad, .int e_fu, .ref a_cn, .ref a_nx, .ref a_hp, .ref a_hl, .ref a_lv])), (a_ba, .inl (G.2 1, 24, .inr (.inl f_ba))), (a_ad, .inl (G.2 0, 1536, .inl f_ad)), (a_hp, .inl (G.2 0, 1536, .inl k_f))] H ∧ va_D A [(a_th, .inr (7, [.ref a_h, .ref a_k, .ref a_ba, .ref a_ad, .int e_fu, .ref a_cn, .ref a_nx, .ref a_hp, .ref a_hl, .ref a_lv])), (a_ba, .inl (G.2 1, 24, .inr (.inl f_ba))), (a_ad, .inl (G.2 0, 1536, .inl f_ad)), (a_hp, .inl (G.2 0, 1536, .inl k_f))] ∧ va_S A s.heap H locs ∧ ((-1) ≤ k_h.toInt ∧ k_h.toInt ≤ 23)) (fun (q : (Int32) × (Nat → Int32)) => match q with | (k_h, k_f) => Int.toNat (k_h.toInt + 1)) (23, f_hp) ⟨lv_sub hl [0, 1] rfl, hP, hD, hS, ⟨by decide, by decide⟩⟩ ?_
  rintro ⟨k_h, k_f⟩ ls H locs ⟨hl, hP, hD, hS, i_1⟩ ih_3_2
  have hl : lv_has ls 5 [(1, .int k_h), (0, .ref a_th)] := hl
  have i_1 : (-1) ≤ k_h.toInt ∧ k_h.toInt ≤ 23 := i_1
  have hP : va_P G.1 vwCl [(a_th, .inr (7, [.ref a_h, .ref a_k, .ref a_ba, .ref a_ad, .int e_fu, .ref a_cn, .ref a_nx, .ref a_hp, .ref a_hl, .ref a_lv])), (a_ba, .inl (G.2 1, 24, .inr (.inl f_ba))), (a_ad, .inl (G.2 0, 1536, .inl f_ad)), (a_hp, .inl (G.2 0, 1536, .inl k_f))] H := hP
  have hD : va_D A [(a_th, .inr (7, [.ref a_h, .ref a_k, .ref a_ba, .ref a_ad, .int e_fu, .ref a_cn, .ref a_nx, .ref a_hp, .ref a_hl, .ref a_lv])), (a_ba, .inl (G.2 1, 24, .inr (.inl f_ba))), (a_ad, .inl (G.2 0, 1536, .inl f_ad)), (a_hp, .inl (G.2 0, 1536, .inl k_f))] := hD
  refine lv_iload_n hx hb dX7_anyFits_3 rfl (lv_at hl 0 rfl) ?_
  refine lv_if_lt (tgt := 76) hx hb dX7_anyFits_4 (by decide) (fun c_3 => ?_) (fun c_3 => ?_)
  ·
    have i_3 : k_h.toInt < 0 := by have z := g5_lt (a := k_h.toInt) (b := 0) (by rfl) (by decide) c_3; omega
    refine lv_iconst (v := 0) hx hb dX7_anyFits_76 (by decide) ?_
    refine lv_istore_n (lv' := [(1, .int 0), (0, .ref a_th)]) hx hb dX7_anyFits_77 rfl hl (by decide) rfl (fun ls hl => ?_)
    refine g5_loop (α := (Int32)) (fun (n_i : (Int32)) (ls : Array Slot) (H : Heap) (locs : List Loc) => lv_has ls 5 [(1, .int n_i), (0, .ref a_th)] ∧ va_P G.1 vwCl [(a_th, .inr (7, [.ref a_h, .ref a_k, .ref a_ba, .ref a_ad, .int e_fu, .ref a_cn, .ref a_nx, .ref a_hp, .ref a_hl, .ref a_lv])), (a_ba, .inl (G.2 1, 24, .inr (.inl f_ba))), (a_ad, .inl (G.2 0, 1536, .inl f_ad)), (a_hp, .inl (G.2 0, 1536, .inl k_f))] H ∧ va_D A [(a_th, .inr (7, [.ref a_h, .ref a_k, .ref a_ba, .ref a_ad, .int e_fu, .ref a_cn, .ref a_nx, .ref a_hp, .ref a_hl, .ref a_lv])), (a_ba, .inl (G.2 1, 24, .inr (.inl f_ba))), (a_ad, .inl (G.2 0, 1536, .inl f_ad)), (a_hp, .inl (G.2 0, 1536, .inl k_f))] ∧ va_S A s.heap H locs ∧ (0 ≤ n_i.toInt ∧ n_i.toInt ≤ 64)) (fun (n_i : (Int32)) => Int.toNat (64 - n_i.toInt)) 0 ⟨lv_sub hl [0, 1] rfl, hP, hD, hS, ⟨by decide, by decide⟩⟩ ?_
    rintro n_i ls H locs ⟨hl, hP, hD, hS, i_4⟩ ih_78_5
    have hl : lv_has ls 5 [(1, .int n_i), (0, .ref a_th)] := hl
    have i_4 : 0 ≤ n_i.toInt ∧ n_i.toInt ≤ 64 := i_4
    have hP : va_P G.1 vwCl [(a_th, .inr (7, [.ref a_h, .ref a_k, .ref a_ba, .ref a_ad, .int e_fu, .ref a_cn, .ref a_nx, .ref a_hp, .ref a_hl, .ref a_lv])), (a_ba, .inl (G.2 1, 24, .inr (.inl f_ba))), (a_ad, .inl (G.2 0, 1536, .inl f_ad)), (a_hp, .inl (G.2 0, 1536, .inl k_f))] H := hP
    have hD : va_D A [(a_th, .inr (7, [.ref a_h, .ref a_k, .ref a_ba, .ref a_ad, .int e_fu, .ref a_cn, .ref a_nx, .ref a_hp, .ref a_hl, .ref a_lv])), (a_ba, .inl (G.2 1, 24, .inr (.inl f_ba))), (a_ad, .inl (G.2 0, 1536, .inl f_ad)), (a_hp, .inl (G.2 0, 1536, .inl k_f))] := hD
    refine lv_iload_n hx hb dX7_anyFits_78 rfl (lv_at hl 0 rfl) ?_
    refine lv_bipush (v := 64) hx hb dX7_anyFits_79 (by decide) ?_
    refine lv_icmp_ge (tgt := 103) hx hb dX7_anyFits_81 (by decide) (fun c_6 => ?_) (fun c_6 => ?_)
    ·
      have i_6 : n_i.toInt ≥ 64 := by have z := g5_ge (a := n_i.toInt) (b := 64) (by rfl) (by decide) c_6; omega
      refine lv_iconst (v := 0) hx hb dX7_anyFits_103 (by decide) ?_
      exact W.zret (v := 0) hx hb hr rfl (fun t ht hW => ⟨⟨0, [(a_th, .inr (7, [.ref a_h, .ref a_k, .ref a_ba, .ref a_ad, .int e_fu, .ref a_cn, .ref a_nx, .ref a_hp, .ref a_hl, .ref a_lv])), (a_ba, .inl (G.2 1, 24, .inr (.inl f_ba))), (a_ad, .inl (G.2 0, 1536, .inl f_ad)), (a_hp, .inl (G.2 0, 1536, .inl k_f))], rfl, ⟨0, k_f, ⟨by have zc_o_r : (0 : Int32).toInt = 0 := (by decide); omega, by have zc_o_r : (0 : Int32).toInt = 0 := (by decide); omega⟩, rfl, rfl⟩, by rw [ht]; exact hP.sub [0, 1, 2, 3] rfl, hD.sub [0, 1, 2, 3] (by decide) rfl⟩, hS.F ht⟩) hS.2.2 dX7_anyFits_104
    ·
      have i_6 : n_i.toInt < 64 := by have z := g5_geN (a := n_i.toInt) (b := 64) (by rfl) (by decide) c_6; omega
      refine lv_aload_n hx hb dX7_anyFits_84 rfl (lv_at hl 1 rfl) ?_
      refine va_get (D := G.1) (ci := 7) (v := .ref a_hp) (C := RX7) (T := TX7) (N := 10) hx hb hts inG_X7 hown hK hP 0 rfl rfl 7 (by decide) (hts _ fl_X7_25) (fun _ h9 => h9) rfl dX7_anyFits_85 ?_
      refine lv_iload_n hx hb dX7_anyFits_88 rfl (lv_at hl 0 rfl) ?_
      refine va_iald hx hb hK hP 3 0 rfl rfl (i := n_i) (vp_in_iff.mpr ⟨by omega, by omega⟩) dX7_anyFits_89 ?_
      refine lv_iconst (v := 1) hx hb dX7_anyFits_90 (by decide) ?_
      refine lv_iand hx hb dX7_anyFits_91 ?_
      refine lv_if_eq (tgt := 97) hx hb dX7_anyFits_92 (by decide) (fun c_7 => ?_) (fun c_7 => ?_)
      ·
        have i_7 : ((k_f n_i.toNatClampNeg) &&& 1).toInt = 0 := by have z := g5_eq (a := ((k_f n_i.toNatClampNeg) &&& 1).toInt) (b := 0) (by rfl) (by decide) c_7; omega
        refine lv_iinc (v := (n_i + 1)) (lv' := [(1, .int (n_i + 1)), (0, .ref a_th)]) hx hb dX7_anyFits_97 hl (k := 0) rfl rfl (by decide) rfl (fun ls hl => ?_)
        have t_8 : (n_i + 1).toInt = n_i.toInt + 1 := g5_iadd (a := n_i.toInt) (b := 1) rfl (by decide) (by omega) (by omega)
        refine lv_goto (tgt := 78) hx hb dX7_anyFits_100 (by decide) ?_
        exact ih_78_5 (n_i + 1) ls H locs (show Int.toNat (64 - (n_i + 1).toInt) < Int.toNat (64 - n_i.toInt) from g_up (show n_i.toInt < (n_i + 1).toInt by omega) (show n_i.toInt < 64 by omega)) ⟨lv_sub hl [0, 1] rfl, hP, hD, hS, ⟨by omega, by omega⟩⟩
      ·
        have n_7 : gNe (((k_f n_i.toNatClampNeg) &&& 1).toInt) (0) := by have z := g5_eqN (a := ((k_f n_i.toNatClampNeg) &&& 1).toInt) (b := 0) (by rfl) (by decide) c_7; unfold gNe; omega
        refine lv_iconst (v := 1) hx hb dX7_anyFits_95 (by decide) ?_
        exact W.zret (v := 1) hx hb hr rfl (fun t ht hW => ⟨⟨1, [(a_th, .inr (7, [.ref a_h, .ref a_k, .ref a_ba, .ref a_ad, .int e_fu, .ref a_cn, .ref a_nx, .ref a_hp, .ref a_hl, .ref a_lv])), (a_ba, .inl (G.2 1, 24, .inr (.inl f_ba))), (a_ad, .inl (G.2 0, 1536, .inl f_ad)), (a_hp, .inl (G.2 0, 1536, .inl k_f))], rfl, ⟨1, k_f, ⟨by have zc_o_r : (1 : Int32).toInt = 1 := (by decide); omega, by have zc_o_r : (1 : Int32).toInt = 1 := (by decide); omega⟩, rfl, rfl⟩, by rw [ht]; exact hP.sub [0, 1, 2, 3] rfl, hD.sub [0, 1, 2, 3] (by decide) rfl⟩, hS.F ht⟩) hS.2.2 dX7_anyFits_96
  ·
    have i_3 : k_h.toInt ≥ 0 := by have z := g5_ltN (a := k_h.toInt) (b := 0) (by rfl) (by decide) c_3; omega
    refine lv_iconst (v := 0) hx hb dX7_anyFits_7 (by decide) ?_
    refine lv_istore_n (lv' := [(2, .int 0), (1, .int k_h), (0, .ref a_th)]) hx hb dX7_anyFits_8 rfl hl (by decide) rfl (fun ls hl => ?_)
    refine g5_loop (α := (Int32) × (Nat → Int32)) (fun (q : (Int32) × (Nat → Int32)) (ls : Array Slot) (H : Heap) (locs : List Loc) => match q with | (m_c, m_f) => lv_has ls 5 [(2, .int m_c), (1, .int k_h), (0, .ref a_th)] ∧ va_P G.1 vwCl [(a_th, .inr (7, [.ref a_h, .ref a_k, .ref a_ba, .ref a_ad, .int e_fu, .ref a_cn, .ref a_nx, .ref a_hp, .ref a_hl, .ref a_lv])), (a_ba, .inl (G.2 1, 24, .inr (.inl f_ba))), (a_ad, .inl (G.2 0, 1536, .inl f_ad)), (a_hp, .inl (G.2 0, 1536, .inl m_f))] H ∧ va_D A [(a_th, .inr (7, [.ref a_h, .ref a_k, .ref a_ba, .ref a_ad, .int e_fu, .ref a_cn, .ref a_nx, .ref a_hp, .ref a_hl, .ref a_lv])), (a_ba, .inl (G.2 1, 24, .inr (.inl f_ba))), (a_ad, .inl (G.2 0, 1536, .inl f_ad)), (a_hp, .inl (G.2 0, 1536, .inl m_f))] ∧ va_S A s.heap H locs ∧ (0 ≤ m_c.toInt ∧ m_c.toInt ≤ 64)) (fun (q : (Int32) × (Nat → Int32)) => match q with | (m_c, m_f) => Int.toNat (64 - m_c.toInt)) (0, k_f) ⟨lv_sub hl [0, 1, 2] rfl, hP, hD, hS, ⟨by decide, by decide⟩⟩ ?_
    rintro ⟨m_c, m_f⟩ ls H locs ⟨hl, hP, hD, hS, i_9⟩ ih_9_10
    have hl : lv_has ls 5 [(2, .int m_c), (1, .int k_h), (0, .ref a_th)] := hl
    have i_9 : 0 ≤ m_c.toInt ∧ m_c.toInt ≤ 64 := i_9
    have hP : va_P G.1 vwCl [(a_th, .inr (7, [.ref a_h, .ref a_k, .ref a_ba, .ref a_ad, .int e_fu, .ref a_cn, .ref a_nx, .ref a_hp, .ref a_hl, .ref a_lv])), (a_ba, .inl (G.2 1, 24, .inr (.inl f_ba))), (a_ad, .inl (G.2 0, 1536, .inl f_ad)), (a_hp, .inl (G.2 0, 1536, .inl m_f))] H := hP
    have hD : va_D A [(a_th, .inr (7, [.ref a_h, .ref a_k, .ref a_ba, .ref a_ad, .int e_fu, .ref a_cn, .ref a_nx, .ref a_hp, .ref a_hl, .ref a_lv])), (a_ba, .inl (G.2 1, 24, .inr (.inl f_ba))), (a_ad, .inl (G.2 0, 1536, .inl f_ad)), (a_hp, .inl (G.2 0, 1536, .inl m_f))] := hD
    refine lv_iload_n hx hb dX7_anyFits_9 rfl (lv_at hl 0 rfl) ?_
    refine lv_bipush (v := 64) hx hb dX7_anyFits_10 (by decide) ?_
    refine lv_icmp_ge (tgt := 70) hx hb dX7_anyFits_12 (by decide) (fun c_11 => ?_) (fun c_11 => ?_)
    ·
      have i_11 : m_c.toInt ≥ 64 := by have z := g5_ge (a := m_c.toInt) (b := 64) (by rfl) (by decide) c_11; omega
      obtain ⟨y12, hy_12, t_12⟩ := g_incN k_h (-1) (by decide) (by omega) (by omega)
      have t_12 : y12.toInt = k_h.toInt + (-1) := t_12
      refine lv_iinc (v := y12) (lv' := [(1, .int y12), (2, .int m_c), (0, .ref a_th)]) hx hb dX7_anyFits_70 hl (k := 1) rfl hy_12 (by decide) rfl (fun ls hl => ?_)
      refine lv_goto (tgt := 3) hx hb dX7_anyFits_73 (by decide) ?_
      exact ih_3_2 (y12, m_f) ls H locs (show Int.toNat (y12.toInt + 1) < Int.toNat (k_h.toInt + 1) from g_dn (show y12.toInt < k_h.toInt by omega) (show 0 ≤ k_h.toInt by omega)) ⟨lv_sub hl [0, 2] rfl, hP, hD, hS, ⟨by omega, by omega⟩⟩
    ·
      have i_11 : m_c.toInt < 64 := by have z := g5_geN (a := m_c.toInt) (b := 64) (by rfl) (by decide) c_11; omega
      refine lv_iload_n hx hb dX7_anyFits_15 rfl (lv_at hl 1 rfl) ?_
      refine lv_bipush (v := 64) hx hb dX7_anyFits_16 (by decide) ?_
      refine lv_imul hx hb dX7_anyFits_18 ?_
      have t_13 : (k_h * 64).toInt = k_h.toInt * 64 := g5_imul (a := k_h.toInt) (b := 64) (by rfl) (by decide) (by omega) (by omega)
      refine lv_iload_n hx hb dX7_anyFits_19 rfl (lv_at hl 0 rfl) ?_
      refine lv_iadd hx hb dX7_anyFits_20 ?_
      have t_14 : ((k_h * 64) + m_c).toInt = (k_h * 64).toInt + m_c.toInt := g5_iadd (a := (k_h * 64).toInt) (b := m_c.toInt) (by rfl) (by rfl) (by omega) (by omega)
      refine lv_istore_n (lv' := [(3, .int ((k_h * 64) + m_c)), (2, .int m_c), (1, .int k_h), (0, .ref a_th)]) hx hb dX7_anyFits_21 rfl hl (by decide) rfl (fun ls hl => ?_)
      refine lv_aload_n hx hb dX7_anyFits_22 rfl (lv_at hl 3 rfl) ?_
      refine va_get (D := G.1) (ci := 7) (v := .ref a_ba) (C := RX7) (T := TX7) (N := 10) hx hb hts inG_X7 hown hK hP 0 rfl rfl 2 (by decide) (hts _ fl_X7_9) (fun _ h9 => h9) rfl dX7_anyFits_23 ?_
      refine lv_iload_n hx hb dX7_anyFits_26 rfl (lv_at hl 2 rfl) ?_
      refine va_lald hx hb hK hP 1 1 rfl rfl (i := k_h) (vp_in_iff.mpr ⟨by omega, by omega⟩) dX7_anyFits_27 ?_
      refine lv_iload_n hx hb dX7_anyFits_28 rfl (lv_at hl 1 rfl) ?_
      have hPc := hP.sub (ws' := []) [] rfl
      have hDc := hD.sub (ws' := []) [] (by decide) rfl
      have hFc := va_free (wc := []) hD hS hA [] rfl
      refine va_calli (va_runSN (As := [.long (f_ba k_h.toNatClampNeg), .int m_c]) (rest := []) ⟨hx, hb, hml, hown, hts⟩ (k_isOn l G H.size m_c (f_ba k_h.toNatClampNeg) ⟨by omega, by omega⟩) ⟨va_cnB 2 hts gW_X11_isOn rfl rfl rfl (hN.1 _ g5_nw_X7_98) (hts _ ini_X11) hs_X11_isOn ⟨Nat.le_of_ble_eq_true rfl, Nat.le_of_ble_eq_true rfl⟩, hts _ st_X11_isOn, trivial⟩ (g5_preS hPc hK hDc hN hT hS hFc) rfl rfl hl.1 rfl (lv_room (Nat.le_of_ble_eq_true rfl)) dX7_anyFits_29 ⟨Nat.le_of_ble_eq_true rfl, Nat.le_of_ble_eq_true rfl⟩) hS (fun q _ h => hFc q h) hFc (fun r u t H1 locs ht hvm hw hB hz1 hk1 hS => ?_)
      obtain ⟨hP1, hD1⟩ := hB
      rw [ht] at hP1
      rcases hw with ⟨i_15, rfl, rfl⟩ | ⟨i_16, rfl, rfl⟩
      ·
        have i_15 : onB (f_ba k_h.toNatClampNeg) m_c.toInt = false := i_15
        have hP := g5_same hP hk1
        generalize H1 = H at hP hS ⊢
        refine lv_if_eq (tgt := 39) hx hb dX7_anyFits_32 (by decide) (fun c_17 => ?_) (fun c_17 => ?_)
        ·
          refine lv_aload_n hx hb dX7_anyFits_39 rfl (lv_at hl 3 rfl) ?_
          refine lv_iload_n hx hb dX7_anyFits_40 rfl (lv_at hl 2 rfl) ?_
          refine lv_iload_n hx hb dX7_anyFits_41 rfl (lv_at hl 1 rfl) ?_
          have hPc := hP.sub (ws' := [(a_th, .inr (7, [.ref a_h, .ref a_k, .ref a_ba, .ref a_ad, .int e_fu, .ref a_cn, .ref a_nx, .ref a_hp, .ref a_hl, .ref a_lv])), (a_hp, .inl (G.2 0, 1536, .inl m_f))]) [0, 3] rfl
          have hDc := hD.sub (ws' := [(a_th, .inr (7, [.ref a_h, .ref a_k, .ref a_ba, .ref a_ad, .int e_fu, .ref a_cn, .ref a_nx, .ref a_hp, .ref a_hl, .ref a_lv])), (a_hp, .inl (G.2 0, 1536, .inl m_f))]) [0, 3] (by decide) rfl
          have hFc := va_free (wc := [(a_th, .inr (7, [.ref a_h, .ref a_k, .ref a_ba, .ref a_ad, .int e_fu, .ref a_cn, .ref a_nx, .ref a_hp, .ref a_hl, .ref a_lv])), (a_hp, .inl (G.2 0, 1536, .inl m_f))]) hD hS hA [0, 3] rfl
          refine va_calli (va_runV (As := [.int k_h, .int m_c]) (rest := []) ⟨hx, hb, hml, hown, hts⟩ (th_behind l G a_th a_hp a_h a_k a_ba a_ad a_cn a_nx a_hl a_lv H.size e_fu k_h m_c m_f ⟨by omega, by omega⟩ ⟨by omega, by omega⟩) (cwV 2 hts gV_X7_108 rfl rfl rfl hv_X7_hopesBehind ⟨Nat.le_of_ble_eq_true rfl, Nat.le_of_ble_eq_true rfl⟩) (g5_preV hPc hK hDc hN hT hS hFc (ci := 7) (q0 := 0) rfl rfl) rfl rfl hl.1 rfl (lv_room (Nat.le_of_ble_eq_true rfl)) dX7_anyFits_42 ⟨Nat.le_of_ble_eq_true rfl, Nat.le_of_ble_eq_true rfl⟩) hS (fun q _ h => hFc q h) hFc (fun r u t H1 locs ht hvm hw hB hz1 hk1 hS => ?_)
          obtain ⟨hP1, hD1⟩ := hB
          rw [ht] at hP1
          obtain ⟨z18, y19, rfl⟩ := hw
          obtain ⟨hP, hD⟩ := va_join (wr := [(a_ba, .inl (G.2 1, 24, .inr (.inl f_ba))), (a_ad, .inl (G.2 0, 1536, .inl f_ad))]) (w1 := [(a_th, .inr (7, [.ref a_h, .ref a_k, .ref a_ba, .ref a_ad, .int e_fu, .ref a_cn, .ref a_nx, .ref a_hp, .ref a_hl, .ref a_lv])), (a_hp, .inl (G.2 0, 1536, .inl m_f))]) hP hD [0, 3] [1, 2] rfl rfl (by decide) (by decide) hk1 hFc hP1 hD1
          generalize H1 = H at hP hS ⊢
          have hP : va_P G.1 vwCl [(a_ba, .inl (G.2 1, 24, .inr (.inl f_ba))), (a_ad, .inl (G.2 0, 1536, .inl f_ad)), (a_th, .inr (7, [.ref a_h, .ref a_k, .ref a_ba, .ref a_ad, .int e_fu, .ref a_cn, .ref a_nx, .ref a_hp, .ref a_hl, .ref a_lv])), (a_hp, .inl (G.2 0, 1536, .inl m_f))] H := hP
          have hD : va_D A [(a_ba, .inl (G.2 1, 24, .inr (.inl f_ba))), (a_ad, .inl (G.2 0, 1536, .inl f_ad)), (a_th, .inr (7, [.ref a_h, .ref a_k, .ref a_ba, .ref a_ad, .int e_fu, .ref a_cn, .ref a_nx, .ref a_hp, .ref a_hl, .ref a_lv])), (a_hp, .inl (G.2 0, 1536, .inl m_f))] := hD
          refine g5_ti (v := z18) y19 ?_
          refine lv_istore (lv' := [(4, .int z18), (3, .int ((k_h * 64) + m_c)), (2, .int m_c), (1, .int k_h), (0, .ref a_th)]) hx hb dX7_anyFits_45 hl (by decide) rfl (fun ls hl => ?_)
          refine lv_aload_n hx hb dX7_anyFits_47 rfl (lv_at hl 4 rfl) ?_
          refine va_get (D := G.1) (ci := 7) (v := .ref a_hp) (C := RX7) (T := TX7) (N := 10) hx hb hts inG_X7 hown hK hP 2 rfl rfl 7 (by decide) (hts _ fl_X7_25) (fun _ h9 => h9) rfl dX7_anyFits_48 ?_
          refine lv_iload_n hx hb dX7_anyFits_51 rfl (lv_at hl 1 rfl) ?_
          refine lv_iload hx hb dX7_anyFits_52 (lv_at hl 0 rfl) ?_
          refine lv_aload_n hx hb dX7_anyFits_54 rfl (lv_at hl 4 rfl) ?_
          refine va_get (D := G.1) (ci := 7) (v := .ref a_ad) (C := RX7) (T := TX7) (N := 10) hx hb hts inG_X7 hown hK hP 2 rfl rfl 3 (by decide) (hts _ fl_X7_15) (fun _ h9 => h9) rfl dX7_anyFits_55 ?_
          refine lv_iload_n hx hb dX7_anyFits_58 rfl (lv_at hl 1 rfl) ?_
          refine va_iald hx hb hK hP 1 0 rfl rfl (i := ((k_h * 64) + m_c)) (vp_in_iff.mpr ⟨by omega, by omega⟩) dX7_anyFits_59 ?_
          have hPc := hP.sub (ws' := []) [] rfl
          have hDc := hD.sub (ws' := []) [] (by decide) rfl
          have hFc := va_free (wc := []) hD hS hA [] rfl
          refine va_calli (va_runS (As := [.int z18, .int (f_ad ((k_h * 64) + m_c).toNatClampNeg)]) (rest := [.int ((k_h * 64) + m_c), .ref a_hp]) ⟨hx, hb, hml, hown, hts⟩ (th_masksBefore l G H.size z18 (f_ad ((k_h * 64) + m_c).toNatClampNeg)) (va_cwS 2 hts gS_X7_111 rfl rfl rfl hs_X7_masksBefore ⟨Nat.le_of_ble_eq_true rfl, Nat.le_of_ble_eq_true rfl⟩) (g5_preS hPc hK hDc hN hT hS hFc) rfl rfl hl.1 rfl (lv_room (Nat.le_of_ble_eq_true rfl)) dX7_anyFits_60 ⟨Nat.le_of_ble_eq_true rfl, Nat.le_of_ble_eq_true rfl⟩) hS (fun q _ h => hFc q h) hFc (fun r u t H1 locs ht hvm hw hB hz1 hk1 hS => ?_)
          obtain ⟨hP1, hD1⟩ := hB
          rw [ht] at hP1
          obtain ⟨z20, y21, rfl⟩ := hw
          have hP := g5_same hP hk1
          generalize H1 = H at hP hS ⊢
          refine g5_ti (v := z20) y21 ?_
          refine va_iast hx hb hK hP hD hS 3 0 rfl rfl (i := ((k_h * 64) + m_c)) (x := z20) (vp_in_iff.mpr ⟨by omega, by omega⟩) dX7_anyFits_63 (fun H locs hP hD hS => ?_)
          have hP : va_P G.1 vwCl [(a_ba, .inl (G.2 1, 24, .inr (.inl f_ba))), (a_ad, .inl (G.2 0, 1536, .inl f_ad)), (a_th, .inr (7, [.ref a_h, .ref a_k, .ref a_ba, .ref a_ad, .int e_fu, .ref a_cn, .ref a_nx, .ref a_hp, .ref a_hl, .ref a_lv])), (a_hp, .inl (G.2 0, 1536, .inl (upd m_f ((k_h * 64) + m_c).toNatClampNeg z20)))] H := hP
          have hD : va_D A [(a_ba, .inl (G.2 1, 24, .inr (.inl f_ba))), (a_ad, .inl (G.2 0, 1536, .inl f_ad)), (a_th, .inr (7, [.ref a_h, .ref a_k, .ref a_ba, .ref a_ad, .int e_fu, .ref a_cn, .ref a_nx, .ref a_hp, .ref a_hl, .ref a_lv])), (a_hp, .inl (G.2 0, 1536, .inl (upd m_f ((k_h * 64) + m_c).toNatClampNeg z20)))] := hD
          refine lv_iinc (v := (m_c + 1)) (lv' := [(2, .int (m_c + 1)), (4, .int z18), (3, .int ((k_h * 64) + m_c)), (1, .int k_h), (0, .ref a_th)]) hx hb dX7_anyFits_64 hl (k := 2) rfl rfl (by decide) rfl (fun ls hl => ?_)
          have t_22 : (m_c + 1).toInt = m_c.toInt + 1 := g5_iadd (a := m_c.toInt) (b := 1) rfl (by decide) (by omega) (by omega)
          refine lv_goto (tgt := 9) hx hb dX7_anyFits_67 (by decide) ?_
          exact ih_9_10 ((m_c + 1), (upd m_f ((k_h * 64) + m_c).toNatClampNeg z20)) ls H locs (show Int.toNat (64 - (m_c + 1).toInt) < Int.toNat (64 - m_c.toInt) from g_up (show m_c.toInt < (m_c + 1).toInt by omega) (show m_c.toInt < 64 by omega)) ⟨lv_sub hl [0, 3, 4] rfl, hP.sub [2, 0, 1, 3] rfl, hD.sub [2, 0, 1, 3] (by decide) rfl, hS, ⟨by omega, by omega⟩⟩
        ·
          exact absurd c_17 (by decide)
      ·
        have i_16 : onB (f_ba k_h.toNatClampNeg) m_c.toInt = true := i_16
        have hP := g5_same hP hk1
        generalize H1 = H at hP hS ⊢
        refine lv_if_eq (tgt := 39) hx hb dX7_anyFits_32 (by decide) (fun c_23 => ?_) (fun c_23 => ?_)
        ·
          exact absurd c_23 (by decide)
        ·
          refine lv_iconst (v := 0) hx hb dX7_anyFits_35 (by decide) ?_
          refine lv_goto (tgt := 45) hx hb dX7_anyFits_36 (by decide) ?_
          refine lv_istore (lv' := [(4, .int 0), (3, .int ((k_h * 64) + m_c)), (2, .int m_c), (1, .int k_h), (0, .ref a_th)]) hx hb dX7_anyFits_45 hl (by decide) rfl (fun ls hl => ?_)
          refine lv_aload_n hx hb dX7_anyFits_47 rfl (lv_at hl 4 rfl) ?_
          refine va_get (D := G.1) (ci := 7) (v := .ref a_hp) (C := RX7) (T := TX7) (N := 10) hx hb hts inG_X7 hown hK hP 0 rfl rfl 7 (by decide) (hts _ fl_X7_25) (fun _ h9 => h9) rfl dX7_anyFits_48 ?_
          refine lv_iload_n hx hb dX7_anyFits_51 rfl (lv_at hl 1 rfl) ?_
          refine lv_iload hx hb dX7_anyFits_52 (lv_at hl 0 rfl) ?_
          refine lv_aload_n hx hb dX7_anyFits_54 rfl (lv_at hl 4 rfl) ?_
          refine va_get (D := G.1) (ci := 7) (v := .ref a_ad) (C := RX7) (T := TX7) (N := 10) hx hb hts inG_X7 hown hK hP 0 rfl rfl 3 (by decide) (hts _ fl_X7_15) (fun _ h9 => h9) rfl dX7_anyFits_55 ?_
          refine lv_iload_n hx hb dX7_anyFits_58 rfl (lv_at hl 1 rfl) ?_
          refine va_iald hx hb hK hP 2 0 rfl rfl (i := ((k_h * 64) + m_c)) (vp_in_iff.mpr ⟨by omega, by omega⟩) dX7_anyFits_59 ?_
          have hPc := hP.sub (ws' := []) [] rfl
          have hDc := hD.sub (ws' := []) [] (by decide) rfl
          have hFc := va_free (wc := []) hD hS hA [] rfl
          refine va_calli (va_runS (As := [.int 0, .int (f_ad ((k_h * 64) + m_c).toNatClampNeg)]) (rest := [.int ((k_h * 64) + m_c), .ref a_hp]) ⟨hx, hb, hml, hown, hts⟩ (th_masksBefore l G H.size 0 (f_ad ((k_h * 64) + m_c).toNatClampNeg)) (va_cwS 2 hts gS_X7_111 rfl rfl rfl hs_X7_masksBefore ⟨Nat.le_of_ble_eq_true rfl, Nat.le_of_ble_eq_true rfl⟩) (g5_preS hPc hK hDc hN hT hS hFc) rfl rfl hl.1 rfl (lv_room (Nat.le_of_ble_eq_true rfl)) dX7_anyFits_60 ⟨Nat.le_of_ble_eq_true rfl, Nat.le_of_ble_eq_true rfl⟩) hS (fun q _ h => hFc q h) hFc (fun r u t H1 locs ht hvm hw hB hz1 hk1 hS => ?_)
          obtain ⟨hP1, hD1⟩ := hB
          rw [ht] at hP1
          obtain ⟨z24, y25, rfl⟩ := hw
          have hP := g5_same hP hk1
          generalize H1 = H at hP hS ⊢
          refine g5_ti (v := z24) y25 ?_
          refine va_iast hx hb hK hP hD hS 3 0 rfl rfl (i := ((k_h * 64) + m_c)) (x := z24) (vp_in_iff.mpr ⟨by omega, by omega⟩) dX7_anyFits_63 (fun H locs hP hD hS => ?_)
          have hP : va_P G.1 vwCl [(a_th, .inr (7, [.ref a_h, .ref a_k, .ref a_ba, .ref a_ad, .int e_fu, .ref a_cn, .ref a_nx, .ref a_hp, .ref a_hl, .ref a_lv])), (a_ba, .inl (G.2 1, 24, .inr (.inl f_ba))), (a_ad, .inl (G.2 0, 1536, .inl f_ad)), (a_hp, .inl (G.2 0, 1536, .inl (upd m_f ((k_h * 64) + m_c).toNatClampNeg z24)))] H := hP
          have hD : va_D A [(a_th, .inr (7, [.ref a_h, .ref a_k, .ref a_ba, .ref a_ad, .int e_fu, .ref a_cn, .ref a_nx, .ref a_hp, .ref a_hl, .ref a_lv])), (a_ba, .inl (G.2 1, 24, .inr (.inl f_ba))), (a_ad, .inl (G.2 0, 1536, .inl f_ad)), (a_hp, .inl (G.2 0, 1536, .inl (upd m_f ((k_h * 64) + m_c).toNatClampNeg z24)))] := hD
          refine lv_iinc (v := (m_c + 1)) (lv' := [(2, .int (m_c + 1)), (4, .int 0), (3, .int ((k_h * 64) + m_c)), (1, .int k_h), (0, .ref a_th)]) hx hb dX7_anyFits_64 hl (k := 2) rfl rfl (by decide) rfl (fun ls hl => ?_)
          have t_26 : (m_c + 1).toInt = m_c.toInt + 1 := g5_iadd (a := m_c.toInt) (b := 1) rfl (by decide) (by omega) (by omega)
          refine lv_goto (tgt := 9) hx hb dX7_anyFits_67 (by decide) ?_
          exact ih_9_10 ((m_c + 1), (upd m_f ((k_h * 64) + m_c).toNatClampNeg z24)) ls H locs (show Int.toNat (64 - (m_c + 1).toInt) < Int.toNat (64 - m_c.toInt) from g_up (show m_c.toInt < (m_c + 1).toInt by omega) (show m_c.toInt < 64 by omega)) ⟨lv_sub hl [0, 3, 4] rfl, hP, hD, hS, ⟨by omega, by omega⟩⟩
theorem dX7_lowestNext_0 : decode cX7_lowestNext 0 = .ok (.iconst 0, 1) := by decide +kernel
theorem dX7_lowestNext_1 : decode cX7_lowestNext 1 = .ok (.istore 4, 2) := by decide +kernel
theorem dX7_lowestNext_3 : decode cX7_lowestNext 3 = .ok (.iload 4, 2) := by decide +kernel
theorem dX7_lowestNext_5 : decode cX7_lowestNext 5 = .ok (.getstatic 131, 3) := by decide +kernel
theorem dX7_lowestNext_8 : decode cX7_lowestNext 8 = .ok (.arraylength, 1) := by decide +kernel
theorem dX7_lowestNext_9 : decode cX7_lowestNext 9 = .ok (.if_icmp .ge 49, 3) := by decide +kernel
theorem dX7_lowestNext_12 : decode cX7_lowestNext 12 = .ok (.iload_n 1, 1) := by decide +kernel
theorem dX7_lowestNext_13 : decode cX7_lowestNext 13 = .ok (.getstatic 131, 3) := by decide +kernel
theorem dX7_lowestNext_16 : decode cX7_lowestNext 16 = .ok (.iload 4, 2) := by decide +kernel
theorem dX7_lowestNext_18 : decode cX7_lowestNext 18 = .ok (.iaload, 1) := by decide +kernel
theorem dX7_lowestNext_19 : decode cX7_lowestNext 19 = .ok (.invokestatic 105, 3) := by decide +kernel
theorem dX7_lowestNext_22 : decode cX7_lowestNext 22 = .ok (.istore 5, 2) := by decide +kernel
theorem dX7_lowestNext_24 : decode cX7_lowestNext 24 = .ok (.iload 5, 2) := by decide +kernel
theorem dX7_lowestNext_26 : decode cX7_lowestNext 26 = .ok (.iconst (-1), 1) := by decide +kernel
theorem dX7_lowestNext_27 : decode cX7_lowestNext 27 = .ok (.if_icmp .eq 25, 3) := by decide +kernel
theorem dX7_lowestNext_30 : decode cX7_lowestNext 30 = .ok (.aload_n 0, 1) := by decide +kernel
theorem dX7_lowestNext_31 : decode cX7_lowestNext 31 = .ok (.getfield 25, 3) := by decide +kernel
theorem dX7_lowestNext_34 : decode cX7_lowestNext 34 = .ok (.iload_n 2, 1) := by decide +kernel
theorem dX7_lowestNext_35 : decode cX7_lowestNext 35 = .ok (.bipush 64, 2) := by decide +kernel
theorem dX7_lowestNext_37 : decode cX7_lowestNext 37 = .ok (.imul, 1) := by decide +kernel
theorem dX7_lowestNext_38 : decode cX7_lowestNext 38 = .ok (.iload 5, 2) := by decide +kernel
theorem dX7_lowestNext_40 : decode cX7_lowestNext 40 = .ok (.iadd, 1) := by decide +kernel
theorem dX7_lowestNext_41 : decode cX7_lowestNext 41 = .ok (.iaload, 1) := by decide +kernel
theorem dX7_lowestNext_42 : decode cX7_lowestNext 42 = .ok (.iload_n 3, 1) := by decide +kernel
theorem dX7_lowestNext_43 : decode cX7_lowestNext 43 = .ok (.iushr, 1) := by decide +kernel
theorem dX7_lowestNext_44 : decode cX7_lowestNext 44 = .ok (.iconst 1, 1) := by decide +kernel
theorem dX7_lowestNext_45 : decode cX7_lowestNext 45 = .ok (.iand, 1) := by decide +kernel
theorem dX7_lowestNext_46 : decode cX7_lowestNext 46 = .ok (.ifCond .eq 6, 3) := by decide +kernel
theorem dX7_lowestNext_49 : decode cX7_lowestNext 49 = .ok (.iload 5, 2) := by decide +kernel
theorem dX7_lowestNext_51 : decode cX7_lowestNext 51 = .ok (.ireturn, 1) := by decide +kernel
theorem dX7_lowestNext_52 : decode cX7_lowestNext 52 = .ok (.iinc 4 1, 3) := by decide +kernel
theorem dX7_lowestNext_55 : decode cX7_lowestNext 55 = .ok (.goto (-52), 3) := by decide +kernel
theorem dX7_lowestNext_58 : decode cX7_lowestNext 58 = .ok (.iload_n 1, 1) := by decide +kernel
theorem dX7_lowestNext_59 : decode cX7_lowestNext 59 = .ok (.ireturn, 1) := by decide +kernel
set_option maxHeartbeats 4000000 in
set_option maxRecDepth 100000 in
theorem th_next (l : Launch) (G : g5_G) (a_th a_hp a_h a_k a_ba a_ad a_cn a_nx a_hl a_lv : Nat) (sz : Nat) (e_fu : Int32) (p_c : Int32) (p_h : Int32) (p_m : Int32) (f_hp : Nat → Int32) (h_p_c : 0 ≤ p_c.toInt ∧ p_c.toInt ≤ 63) (h_p_h : 0 ≤ p_h.toInt ∧ p_h.toInt ≤ 23) : Met l yX7_lowestNext (wsG yX7_lowestNext cX7_lowestNext 6 (some .int)) ({ frames := 1, cells := 0, slots := 0, locals := 21 }) (va_Pc [.ref a_th, .int p_c, .int p_h, .int p_m] (g5_P G [(a_th, .inr (7, [.ref a_h, .ref a_k, .ref a_ba, .ref a_ad, .int e_fu, .ref a_cn, .ref a_nx, .ref a_hp, .ref a_hl, .ref a_lv])), (a_hp, .inl (G.2 0, 1536, .inl f_hp))] sz)) (va_Qi (fun (r : Int32) (u : va_W) => (∃ (o_r : Int32), (0 ≤ o_r.toInt ∧ o_r.toInt ≤ 63) ∧ (r = o_r) ∧ (u = [(a_th, .inr (7, [.ref a_h, .ref a_k, .ref a_ba, .ref a_ad, .int e_fu, .ref a_cn, .ref a_nx, .ref a_hp, .ref a_hl, .ref a_lv])), (a_hp, .inl (G.2 0, 1536, .inl f_hp))]))) (g5_B G (va_A [(a_th, .inr (7, [.ref a_h, .ref a_k, .ref a_ba, .ref a_ad, .int e_fu, .ref a_cn, .ref a_nx, .ref a_hp, .ref a_hl, .ref a_lv])), (a_hp, .inl (G.2 0, 1536, .inl f_hp))] sz)) (va_A [(a_th, .inr (7, [.ref a_h, .ref a_k, .ref a_ba, .ref a_ad, .int e_fu, .ref a_cn, .ref a_nx, .ref a_hp, .ref a_hl, .ref a_lv])), (a_hp, .inl (G.2 0, 1536, .inl f_hp))] sz)) 0 0 (va_A [(a_th, .inr (7, [.ref a_h, .ref a_k, .ref a_ba, .ref a_ad, .int e_fu, .ref a_cn, .ref a_nx, .ref a_hp, .ref a_hl, .ref a_lv])), (a_hp, .inl (G.2 0, 1536, .inl f_hp))] sz) := by
  refine Met.ofW (cc := cX7_lowestNext) (maxL := 6) (ret := (some .int)) (by decide) rfl ?_
  intro p e s m args below meth c s₁ B hml hv
  obtain ⟨rfl, hsz, hP, hK, hD0, hN, hT⟩ := hv
  have hx := B.exec
  have hb := B.bytes
  have hr := B.returns
  have hts : ∀ w ∈ tblG, w.before _ s = true := fun w h => atoms_spec (ws := (wsG yX7_lowestNext cX7_lowestNext 6 (some .int))) B.pre w (List.mem_cons_of_mem _ h)
  have hown : s.vm.findClass RX7 = some m.cls := findClass_of_methodNamed B.named
  have hlocks := B.notSynchronized
  subst hsz
  have hD := hD0.self (sz := s.heap.size)
  generalize hAe : va_A [(a_th, .inr (7, [.ref a_h, .ref a_k, .ref a_ba, .ref a_ad, .int e_fu, .ref a_cn, .ref a_nx, .ref a_hp, .ref a_hl, .ref a_lv])), (a_hp, .inl (G.2 0, 1536, .inl f_hp))] s.heap.size = A at hD hT ⊢
  have hA : ∀ q : Nat, s.heap.size ≤ q → A q := fun q h => by rw [← hAe]; exact Or.inr h
  have hS : va_S A s.heap s.heap [] := va_S.rf
  have hP : va_P G.1 vwCl [(a_th, .inr (7, [.ref a_h, .ref a_k, .ref a_ba, .ref a_ad, .int e_fu, .ref a_cn, .ref a_nx, .ref a_hp, .ref a_hl, .ref a_lv])), (a_hp, .inl (G.2 0, 1536, .inl f_hp))] s.heap := hP
  have hl := lv_entry ([.ref a_th, .int p_c, .int p_h, .int p_m]) (n := 6) (Nat.le_of_ble_eq_true rfl)
  rw [lg_entry_eq]
  generalize (lg_sl ([.ref a_th, .int p_c, .int p_h, .int p_m]) ++ List.replicate (6 - (lg_sl ([.ref a_th, .int p_c, .int p_h, .int p_m])).length) Slot.unset).toArray = ls at hl ⊢
  have hl : lv_has ls 6 [(0, .ref a_th), (1, .int p_c), (2, .int p_h), (3, .int p_m)] := hl
  refine lv_iconst (v := 0) hx hb dX7_lowestNext_0 (by decide) ?_
  refine lv_istore (lv' := [(4, .int 0), (0, .ref a_th), (1, .int p_c), (2, .int p_h), (3, .int p_m)]) hx hb dX7_lowestNext_1 hl (by decide) rfl (fun ls hl => ?_)
  refine g5_loop (α := (Int32)) (fun (k_i : (Int32)) (ls : Array Slot) (H : Heap) (locs : List Loc) => lv_has ls 6 [(4, .int k_i), (0, .ref a_th), (1, .int p_c), (2, .int p_h), (3, .int p_m)] ∧ va_P G.1 vwCl [(a_th, .inr (7, [.ref a_h, .ref a_k, .ref a_ba, .ref a_ad, .int e_fu, .ref a_cn, .ref a_nx, .ref a_hp, .ref a_hl, .ref a_lv])), (a_hp, .inl (G.2 0, 1536, .inl f_hp))] H ∧ va_D A [(a_th, .inr (7, [.ref a_h, .ref a_k, .ref a_ba, .ref a_ad, .int e_fu, .ref a_cn, .ref a_nx, .ref a_hp, .ref a_hl, .ref a_lv])), (a_hp, .inl (G.2 0, 1536, .inl f_hp))] ∧ va_S A s.heap H locs ∧ (0 ≤ k_i.toInt ∧ k_i.toInt ≤ 5)) (fun (k_i : (Int32)) => Int.toNat (5 - k_i.toInt)) 0 ⟨lv_sub hl [0, 1, 2, 3, 4] rfl, hP, hD, hS, ⟨by decide, by decide⟩⟩ ?_
  rintro k_i ls H locs ⟨hl, hP, hD, hS, i_1⟩ ih_3_2
  have hl : lv_has ls 6 [(4, .int k_i), (0, .ref a_th), (1, .int p_c), (2, .int p_h), (3, .int p_m)] := hl
  have i_1 : 0 ≤ k_i.toInt ∧ k_i.toInt ≤ 5 := i_1
  have hP : va_P G.1 vwCl [(a_th, .inr (7, [.ref a_h, .ref a_k, .ref a_ba, .ref a_ad, .int e_fu, .ref a_cn, .ref a_nx, .ref a_hp, .ref a_hl, .ref a_lv])), (a_hp, .inl (G.2 0, 1536, .inl f_hp))] H := hP
  have hD : va_D A [(a_th, .inr (7, [.ref a_h, .ref a_k, .ref a_ba, .ref a_ad, .int e_fu, .ref a_cn, .ref a_nx, .ref a_hp, .ref a_hl, .ref a_lv])), (a_hp, .inl (G.2 0, 1536, .inl f_hp))] := hD
  refine lv_iload hx hb dX7_lowestNext_3 (lv_at hl 0 rfl) ?_
  obtain ⟨tH, tL, tK, tV, tF, hZH, hTH, hZL, hTL, -⟩ := id hT
  refine va_getsN hx hb hZL hS hown (hN.1 _ g5_nw_X7_131) (fun _ h9 => h9) dX7_lowestNext_5 ?_
  refine va_tlen hx hb hTL hS (v := 5) (by decide) dX7_lowestNext_8 ?_
  refine lv_icmp_ge (tgt := 58) hx hb dX7_lowestNext_9 (by decide) (fun c_3 => ?_) (fun c_3 => ?_)
  ·
    have i_3 : k_i.toInt ≥ 5 := by have z := g5_ge (a := k_i.toInt) (b := 5) (by rfl) (by decide) c_3; omega
    refine lv_iload_n hx hb dX7_lowestNext_58 rfl (lv_at hl 2 rfl) ?_
    exact W.iret (v := p_c) hx hb hr (fun t ht hW => ⟨⟨p_c, [(a_th, .inr (7, [.ref a_h, .ref a_k, .ref a_ba, .ref a_ad, .int e_fu, .ref a_cn, .ref a_nx, .ref a_hp, .ref a_hl, .ref a_lv])), (a_hp, .inl (G.2 0, 1536, .inl f_hp))], rfl, ⟨p_c, ⟨by omega, by omega⟩, rfl, rfl⟩, by rw [ht]; exact hP.sub [0, 1] rfl, hD.sub [0, 1] (by decide) rfl⟩, hS.F ht⟩) hS.2.2 dX7_lowestNext_59
  ·
    have i_3 : k_i.toInt < 5 := by have z := g5_geN (a := k_i.toInt) (b := 5) (by rfl) (by decide) c_3; omega
    refine lv_iload_n hx hb dX7_lowestNext_12 rfl (lv_at hl 2 rfl) ?_
    obtain ⟨tH, tL, tK, tV, tF, hZH, hTH, hZL, hTL, -⟩ := id hT
    refine va_getsN hx hb hZL hS hown (hN.1 _ g5_nw_X7_131) (fun _ h9 => h9) dX7_lowestNext_13 ?_
    refine lv_iload hx hb dX7_lowestNext_16 (lv_at hl 0 rfl) ?_
    refine va_ti hx hb hTL hS (i := k_i) (vp_in_iff.mpr ⟨by omega, by omega⟩) (v := .int (g_low k_i.toNatClampNeg)) (g_low_eq _) dX7_lowestNext_18 ?_
    have hPc := hP.sub (ws' := []) [] rfl
    have hDc := hD.sub (ws' := []) [] (by decide) rfl
    have hFc := va_free (wc := []) hD hS hA [] rfl
    refine va_calli (va_runSN (As := [.int p_c, .int (g_low k_i.toNatClampNeg)]) (rest := []) ⟨hx, hb, hml, hown, hts⟩ (k_beside l G H.size p_c (g_low k_i.toNatClampNeg) ⟨by omega, by omega⟩) ⟨va_cnB 2 hts gW_X11_beside rfl rfl rfl (hN.1 _ g5_nw_X7_105) (hts _ ini_X11) hs_X11_beside ⟨Nat.le_of_ble_eq_true rfl, Nat.le_of_ble_eq_true rfl⟩, hts _ st_X11_beside, trivial⟩ (g5_preS hPc hK hDc hN hT hS hFc) rfl rfl hl.1 rfl (lv_room (Nat.le_of_ble_eq_true rfl)) dX7_lowestNext_19 ⟨Nat.le_of_ble_eq_true rfl, Nat.le_of_ble_eq_true rfl⟩) hS (fun q _ h => hFc q h) hFc (fun r u t H1 locs ht hvm hw hB hz1 hk1 hS => ?_)
    obtain ⟨hP1, hD1⟩ := hB
    rw [ht] at hP1
    obtain ⟨z6, i_4, i_5, y7, rfl⟩ := hw
    have i_4 : z6.toInt = bs p_c.toInt (g_low k_i.toNatClampNeg).toInt := i_4
    have i_5 : -1 ≤ z6.toInt ∧ z6.toInt ≤ 63 := i_5
    have hP := g5_same hP hk1
    generalize H1 = H at hP hS ⊢
    refine g5_ti (v := z6) y7 ?_
    refine lv_istore (lv' := [(5, .int z6), (4, .int k_i), (0, .ref a_th), (1, .int p_c), (2, .int p_h), (3, .int p_m)]) hx hb dX7_lowestNext_22 hl (by decide) rfl (fun ls hl => ?_)
    refine lv_iload hx hb dX7_lowestNext_24 (lv_at hl 0 rfl) ?_
    refine lv_iconst (v := (-1)) hx hb dX7_lowestNext_26 (by decide) ?_
    refine lv_icmp_eq (tgt := 52) hx hb dX7_lowestNext_27 (by decide) (fun c_8 => ?_) (fun c_8 => ?_)
    ·
      have i_8 : z6.toInt = (-1) := by have z := g5_eq (a := z6.toInt) (b := (-1)) (by rfl) (by decide) c_8; omega
      refine lv_iinc (v := (k_i + 1)) (lv' := [(4, .int (k_i + 1)), (5, .int z6), (0, .ref a_th), (1, .int p_c), (2, .int p_h), (3, .int p_m)]) hx hb dX7_lowestNext_52 hl (k := 1) rfl rfl (by decide) rfl (fun ls hl => ?_)
      have t_9 : (k_i + 1).toInt = k_i.toInt + 1 := g5_iadd (a := k_i.toInt) (b := 1) rfl (by decide) (by omega) (by omega)
      refine lv_goto (tgt := 3) hx hb dX7_lowestNext_55 (by decide) ?_
      exact ih_3_2 (k_i + 1) ls H locs (show Int.toNat (5 - (k_i + 1).toInt) < Int.toNat (5 - k_i.toInt) from g_up (show k_i.toInt < (k_i + 1).toInt by omega) (show k_i.toInt < 5 by omega)) ⟨lv_sub hl [0, 2, 3, 4, 5] rfl, hP, hD, hS, ⟨by omega, by omega⟩⟩
    ·
      have n_8 : gNe (z6.toInt) ((-1)) := by have z := g5_eqN (a := z6.toInt) (b := (-1)) (by rfl) (by decide) c_8; unfold gNe; omega
      have i_8 : z6.toInt ≥ 0 := by have z := g5_eqN (a := z6.toInt) (b := (-1)) (by rfl) (by decide) c_8; omega
      refine lv_aload_n hx hb dX7_lowestNext_30 rfl (lv_at hl 2 rfl) ?_
      refine va_get (D := G.1) (ci := 7) (v := .ref a_hp) (C := RX7) (T := TX7) (N := 10) hx hb hts inG_X7 hown hK hP 0 rfl rfl 7 (by decide) (hts _ fl_X7_25) (fun _ h9 => h9) rfl dX7_lowestNext_31 ?_
      refine lv_iload_n hx hb dX7_lowestNext_34 rfl (lv_at hl 4 rfl) ?_
      refine lv_bipush (v := 64) hx hb dX7_lowestNext_35 (by decide) ?_
      refine lv_imul hx hb dX7_lowestNext_37 ?_
      have t_10 : (p_h * 64).toInt = p_h.toInt * 64 := g5_imul (a := p_h.toInt) (b := 64) (by rfl) (by decide) (by omega) (by omega)
      refine lv_iload hx hb dX7_lowestNext_38 (lv_at hl 0 rfl) ?_
      refine lv_iadd hx hb dX7_lowestNext_40 ?_
      have t_11 : ((p_h * 64) + z6).toInt = (p_h * 64).toInt + z6.toInt := g5_iadd (a := (p_h * 64).toInt) (b := z6.toInt) (by rfl) (by rfl) (by omega) (by omega)
      refine va_iald hx hb hK hP 1 0 rfl rfl (i := ((p_h * 64) + z6)) (vp_in_iff.mpr ⟨by omega, by omega⟩) dX7_lowestNext_41 ?_
      refine lv_iload_n hx hb dX7_lowestNext_42 rfl (lv_at hl 5 rfl) ?_
      refine lv_iushr (v := (((f_hp ((p_h * 64) + z6).toNatClampNeg).toUInt32 >>> (p_m.toUInt32 &&& Int32.toUInt32 31)).toInt32)) hx hb dX7_lowestNext_43 rfl ?_
      refine lv_iconst (v := 1) hx hb dX7_lowestNext_44 (by decide) ?_
      refine lv_iand hx hb dX7_lowestNext_45 ?_
      refine lv_if_eq (tgt := 52) hx hb dX7_lowestNext_46 (by decide) (fun c_12 => ?_) (fun c_12 => ?_)
      ·
        have i_12 : ((((f_hp ((p_h * 64) + z6).toNatClampNeg).toUInt32 >>> (p_m.toUInt32 &&& Int32.toUInt32 31)).toInt32) &&& 1).toInt = 0 := by have z := g5_eq (a := ((((f_hp ((p_h * 64) + z6).toNatClampNeg).toUInt32 >>> (p_m.toUInt32 &&& Int32.toUInt32 31)).toInt32) &&& 1).toInt) (b := 0) (by rfl) (by decide) c_12; omega
        refine lv_iinc (v := (k_i + 1)) (lv' := [(4, .int (k_i + 1)), (5, .int z6), (0, .ref a_th), (1, .int p_c), (2, .int p_h), (3, .int p_m)]) hx hb dX7_lowestNext_52 hl (k := 1) rfl rfl (by decide) rfl (fun ls hl => ?_)
        have t_13 : (k_i + 1).toInt = k_i.toInt + 1 := g5_iadd (a := k_i.toInt) (b := 1) rfl (by decide) (by omega) (by omega)
        refine lv_goto (tgt := 3) hx hb dX7_lowestNext_55 (by decide) ?_
        exact ih_3_2 (k_i + 1) ls H locs (show Int.toNat (5 - (k_i + 1).toInt) < Int.toNat (5 - k_i.toInt) from g_up (show k_i.toInt < (k_i + 1).toInt by omega) (show k_i.toInt < 5 by omega)) ⟨lv_sub hl [0, 2, 3, 4, 5] rfl, hP, hD, hS, ⟨by omega, by omega⟩⟩
      ·
        have n_12 : gNe (((((f_hp ((p_h * 64) + z6).toNatClampNeg).toUInt32 >>> (p_m.toUInt32 &&& Int32.toUInt32 31)).toInt32) &&& 1).toInt) (0) := by have z := g5_eqN (a := ((((f_hp ((p_h * 64) + z6).toNatClampNeg).toUInt32 >>> (p_m.toUInt32 &&& Int32.toUInt32 31)).toInt32) &&& 1).toInt) (b := 0) (by rfl) (by decide) c_12; unfold gNe; omega
        refine lv_iload hx hb dX7_lowestNext_49 (lv_at hl 0 rfl) ?_
        exact W.iret (v := z6) hx hb hr (fun t ht hW => ⟨⟨z6, [(a_th, .inr (7, [.ref a_h, .ref a_k, .ref a_ba, .ref a_ad, .int e_fu, .ref a_cn, .ref a_nx, .ref a_hp, .ref a_hl, .ref a_lv])), (a_hp, .inl (G.2 0, 1536, .inl f_hp))], rfl, ⟨z6, ⟨by omega, by omega⟩, rfl, rfl⟩, by rw [ht]; exact hP.sub [0, 1] rfl, hD.sub [0, 1] (by decide) rfl⟩, hS.F ht⟩) hS.2.2 dX7_lowestNext_51
theorem dX7_firstRowAt_0 : decode cX7_firstRowAt 0 = .ok (.aload_n 0, 1) := by decide +kernel
theorem dX7_firstRowAt_1 : decode cX7_firstRowAt 1 = .ok (.invokevirtual 117, 3) := by decide +kernel
theorem dX7_firstRowAt_4 : decode cX7_firstRowAt 4 = .ok (.ifCond .ne 5, 3) := by decide +kernel
theorem dX7_firstRowAt_7 : decode cX7_firstRowAt 7 = .ok (.iconst (-1), 1) := by decide +kernel
theorem dX7_firstRowAt_8 : decode cX7_firstRowAt 8 = .ok (.ireturn, 1) := by decide +kernel
theorem dX7_firstRowAt_9 : decode cX7_firstRowAt 9 = .ok (.iconst 0, 1) := by decide +kernel
theorem dX7_firstRowAt_10 : decode cX7_firstRowAt 10 = .ok (.istore_n 2, 1) := by decide +kernel
theorem dX7_firstRowAt_11 : decode cX7_firstRowAt 11 = .ok (.iload_n 2, 1) := by decide +kernel
theorem dX7_firstRowAt_12 : decode cX7_firstRowAt 12 = .ok (.bipush 63, 2) := by decide +kernel
theorem dX7_firstRowAt_14 : decode cX7_firstRowAt 14 = .ok (.if_icmp .ge 20, 3) := by decide +kernel
theorem dX7_firstRowAt_17 : decode cX7_firstRowAt 17 = .ok (.aload_n 0, 1) := by decide +kernel
theorem dX7_firstRowAt_18 : decode cX7_firstRowAt 18 = .ok (.getfield 25, 3) := by decide +kernel
theorem dX7_firstRowAt_21 : decode cX7_firstRowAt 21 = .ok (.iload_n 2, 1) := by decide +kernel
theorem dX7_firstRowAt_22 : decode cX7_firstRowAt 22 = .ok (.iaload, 1) := by decide +kernel
theorem dX7_firstRowAt_23 : decode cX7_firstRowAt 23 = .ok (.iconst 1, 1) := by decide +kernel
theorem dX7_firstRowAt_24 : decode cX7_firstRowAt 24 = .ok (.iand, 1) := by decide +kernel
theorem dX7_firstRowAt_25 : decode cX7_firstRowAt 25 = .ok (.ifCond .ne 9, 3) := by decide +kernel
theorem dX7_firstRowAt_28 : decode cX7_firstRowAt 28 = .ok (.iinc 2 1, 3) := by decide +kernel
theorem dX7_firstRowAt_31 : decode cX7_firstRowAt 31 = .ok (.goto (-20), 3) := by decide +kernel
theorem dX7_firstRowAt_34 : decode cX7_firstRowAt 34 = .ok (.aload_n 0, 1) := by decide +kernel
theorem dX7_firstRowAt_35 : decode cX7_firstRowAt 35 = .ok (.getfield 15, 3) := by decide +kernel
theorem dX7_firstRowAt_38 : decode cX7_firstRowAt 38 = .ok (.iload_n 2, 1) := by decide +kernel
theorem dX7_firstRowAt_39 : decode cX7_firstRowAt 39 = .ok (.iaload, 1) := by decide +kernel
theorem dX7_firstRowAt_40 : decode cX7_firstRowAt 40 = .ok (.istore_n 3, 1) := by decide +kernel
theorem dX7_firstRowAt_41 : decode cX7_firstRowAt 41 = .ok (.iconst 1, 1) := by decide +kernel
theorem dX7_firstRowAt_42 : decode cX7_firstRowAt 42 = .ok (.istore 4, 2) := by decide +kernel
theorem dX7_firstRowAt_44 : decode cX7_firstRowAt 44 = .ok (.iload 4, 2) := by decide +kernel
theorem dX7_firstRowAt_46 : decode cX7_firstRowAt 46 = .ok (.iload_n 1, 1) := by decide +kernel
theorem dX7_firstRowAt_47 : decode cX7_firstRowAt 47 = .ok (.if_icmp .gt 33, 3) := by decide +kernel
theorem dX7_firstRowAt_50 : decode cX7_firstRowAt 50 = .ok (.aload_n 0, 1) := by decide +kernel
theorem dX7_firstRowAt_51 : decode cX7_firstRowAt 51 = .ok (.iload_n 2, 1) := by decide +kernel
theorem dX7_firstRowAt_52 : decode cX7_firstRowAt 52 = .ok (.iload 4, 2) := by decide +kernel
theorem dX7_firstRowAt_54 : decode cX7_firstRowAt 54 = .ok (.iload_n 3, 1) := by decide +kernel
theorem dX7_firstRowAt_55 : decode cX7_firstRowAt 55 = .ok (.invokevirtual 127, 3) := by decide +kernel
theorem dX7_firstRowAt_58 : decode cX7_firstRowAt 58 = .ok (.istore_n 2, 1) := by decide +kernel
theorem dX7_firstRowAt_59 : decode cX7_firstRowAt 59 = .ok (.iload_n 3, 1) := by decide +kernel
theorem dX7_firstRowAt_60 : decode cX7_firstRowAt 60 = .ok (.aload_n 0, 1) := by decide +kernel
theorem dX7_firstRowAt_61 : decode cX7_firstRowAt 61 = .ok (.getfield 15, 3) := by decide +kernel
theorem dX7_firstRowAt_64 : decode cX7_firstRowAt 64 = .ok (.iload 4, 2) := by decide +kernel
theorem dX7_firstRowAt_66 : decode cX7_firstRowAt 66 = .ok (.bipush 64, 2) := by decide +kernel
theorem dX7_firstRowAt_68 : decode cX7_firstRowAt 68 = .ok (.imul, 1) := by decide +kernel
theorem dX7_firstRowAt_69 : decode cX7_firstRowAt 69 = .ok (.iload_n 2, 1) := by decide +kernel
theorem dX7_firstRowAt_70 : decode cX7_firstRowAt 70 = .ok (.iadd, 1) := by decide +kernel
theorem dX7_firstRowAt_71 : decode cX7_firstRowAt 71 = .ok (.iaload, 1) := by decide +kernel
theorem dX7_firstRowAt_72 : decode cX7_firstRowAt 72 = .ok (.ior, 1) := by decide +kernel
theorem dX7_firstRowAt_73 : decode cX7_firstRowAt 73 = .ok (.istore_n 3, 1) := by decide +kernel
theorem dX7_firstRowAt_74 : decode cX7_firstRowAt 74 = .ok (.iinc 4 1, 3) := by decide +kernel
theorem dX7_firstRowAt_77 : decode cX7_firstRowAt 77 = .ok (.goto (-33), 3) := by decide +kernel
theorem dX7_firstRowAt_80 : decode cX7_firstRowAt 80 = .ok (.iload_n 2, 1) := by decide +kernel
theorem dX7_firstRowAt_81 : decode cX7_firstRowAt 81 = .ok (.ireturn, 1) := by decide +kernel
theorem ml_X7_117 : Cond.methodLink RX7 117 yX7_anyFits ∈ tblG := tg 996 (by decide +kernel) (by decide +kernel)
theorem im_X7_anyFits : Cond.instanceMethod yX7_anyFits ∈ tblG := tg 998 (by decide +kernel) (by decide +kernel)
theorem se_X7_anyFits : Cond.selects RX7 yX7_anyFits yX7_anyFits ∈ tblG := tg 22 (by decide +kernel) (by decide +kernel)
theorem cd_X7_anyFits : Cond.code yX7_anyFits cX7_anyFits 5 (some .boolean) ∈ tblG := tg 999 (by decide +kernel) (by decide +kernel)
theorem gW_X7_anyFits : GoodIn tblG (wsG yX7_anyFits cX7_anyFits 5 (some .boolean)) := tgi cd_X7_anyFits
theorem gV_X7_117 : GoodIn tblG (wsV RX7 117 RX7 yX7_anyFits (wsG yX7_anyFits cX7_anyFits 5 (some .boolean))) := tgV ml_X7_117 im_X7_anyFits se_X7_anyFits ini_X7 gW_X7_anyFits
theorem hv_X7_anyFits : yX7_anyFits.cls = RX7 ∧ yX7_anyFits.cls ≠ "java/lang/invoke/MethodHandle" ∧ yX7_anyFits.cls ≠ "java/lang/invoke/VarHandle" ∧ (parseMethodDescriptor yX7_anyFits.desc).map (fun d => d.parameters.length) = some 0 := by decide +kernel
theorem ml_X7_127 : Cond.methodLink RX7 127 yX7_lowestNext ∈ tblG := tg 1024 (by decide +kernel) (by decide +kernel)
theorem im_X7_lowestNext : Cond.instanceMethod yX7_lowestNext ∈ tblG := tg 1026 (by decide +kernel) (by decide +kernel)
theorem se_X7_lowestNext : Cond.selects RX7 yX7_lowestNext yX7_lowestNext ∈ tblG := tg 25 (by decide +kernel) (by decide +kernel)
theorem cd_X7_lowestNext : Cond.code yX7_lowestNext cX7_lowestNext 6 (some .int) ∈ tblG := tg 1027 (by decide +kernel) (by decide +kernel)
theorem gW_X7_lowestNext : GoodIn tblG (wsG yX7_lowestNext cX7_lowestNext 6 (some .int)) := tgi cd_X7_lowestNext
theorem gV_X7_127 : GoodIn tblG (wsV RX7 127 RX7 yX7_lowestNext (wsG yX7_lowestNext cX7_lowestNext 6 (some .int))) := tgV ml_X7_127 im_X7_lowestNext se_X7_lowestNext ini_X7 gW_X7_lowestNext
theorem hv_X7_lowestNext : yX7_lowestNext.cls = RX7 ∧ yX7_lowestNext.cls ≠ "java/lang/invoke/MethodHandle" ∧ yX7_lowestNext.cls ≠ "java/lang/invoke/VarHandle" ∧ (parseMethodDescriptor yX7_lowestNext.desc).map (fun d => d.parameters.length) = some 3 := by decide +kernel
set_option maxHeartbeats 4000000 in
set_option maxRecDepth 100000 in
theorem th_row (l : Launch) (G : g5_G) (a_th a_ba a_ad a_hp a_h a_k a_cn a_nx a_hl a_lv : Nat) (sz : Nat) (e_fu : Int32) (p_h : Int32) (f_ba : Nat → Int64) (f_ad : Nat → Int32) (f_hp : Nat → Int32) (h_p_h : 0 ≤ p_h.toInt ∧ p_h.toInt ≤ 23) : Met l yX7_firstRowAt (wsG yX7_firstRowAt cX7_firstRowAt 5 (some .int)) ({ frames := 3, cells := 0, slots := 0, locals := 70 }) (va_Pc [.ref a_th, .int p_h] (g5_P G [(a_th, .inr (7, [.ref a_h, .ref a_k, .ref a_ba, .ref a_ad, .int e_fu, .ref a_cn, .ref a_nx, .ref a_hp, .ref a_hl, .ref a_lv])), (a_ba, .inl (G.2 1, 24, .inr (.inl f_ba))), (a_ad, .inl (G.2 0, 1536, .inl f_ad)), (a_hp, .inl (G.2 0, 1536, .inl f_hp))] sz)) (va_Qi (fun (r : Int32) (u : va_W) => (∃ (o_r : Int32) (o_f : Nat → Int32), (-1 ≤ o_r.toInt ∧ o_r.toInt ≤ 63) ∧ (r = o_r) ∧ (u = [(a_th, .inr (7, [.ref a_h, .ref a_k, .ref a_ba, .ref a_ad, .int e_fu, .ref a_cn, .ref a_nx, .ref a_hp, .ref a_hl, .ref a_lv])), (a_ba, .inl (G.2 1, 24, .inr (.inl f_ba))), (a_ad, .inl (G.2 0, 1536, .inl f_ad)), (a_hp, .inl (G.2 0, 1536, .inl o_f))]))) (g5_B G (va_A [(a_th, .inr (7, [.ref a_h, .ref a_k, .ref a_ba, .ref a_ad, .int e_fu, .ref a_cn, .ref a_nx, .ref a_hp, .ref a_hl, .ref a_lv])), (a_ba, .inl (G.2 1, 24, .inr (.inl f_ba))), (a_ad, .inl (G.2 0, 1536, .inl f_ad)), (a_hp, .inl (G.2 0, 1536, .inl f_hp))] sz)) (va_A [(a_th, .inr (7, [.ref a_h, .ref a_k, .ref a_ba, .ref a_ad, .int e_fu, .ref a_cn, .ref a_nx, .ref a_hp, .ref a_hl, .ref a_lv])), (a_ba, .inl (G.2 1, 24, .inr (.inl f_ba))), (a_ad, .inl (G.2 0, 1536, .inl f_ad)), (a_hp, .inl (G.2 0, 1536, .inl f_hp))] sz)) 0 0 (va_A [(a_th, .inr (7, [.ref a_h, .ref a_k, .ref a_ba, .ref a_ad, .int e_fu, .ref a_cn, .ref a_nx, .ref a_hp, .ref a_hl, .ref a_lv])), (a_ba, .inl (G.2 1, 24, .inr (.inl f_ba))), (a_ad, .inl (G.2 0, 1536, .inl f_ad)), (a_hp, .inl (G.2 0, 1536, .inl f_hp))] sz) := by
  refine Met.ofW (cc := cX7_firstRowAt) (maxL := 5) (ret := (some .int)) (by decide) rfl ?_
  intro p e s m args below meth c s₁ B hml hv
  obtain ⟨rfl, hsz, hP, hK, hD0, hN, hT⟩ := hv
  have hx := B.exec
  have hb := B.bytes
  have hr := B.returns
  have hts : ∀ w ∈ tblG, w.before _ s = true := fun w h => atoms_spec (ws := (wsG yX7_firstRowAt cX7_firstRowAt 5 (some .int))) B.pre w (List.mem_cons_of_mem _ h)
  have hown : s.vm.findClass RX7 = some m.cls := findClass_of_methodNamed B.named
  have hlocks := B.notSynchronized
  subst hsz
  have hD := hD0.self (sz := s.heap.size)
  generalize hAe : va_A [(a_th, .inr (7, [.ref a_h, .ref a_k, .ref a_ba, .ref a_ad, .int e_fu, .ref a_cn, .ref a_nx, .ref a_hp, .ref a_hl, .ref a_lv])), (a_ba, .inl (G.2 1, 24, .inr (.inl f_ba))), (a_ad, .inl (G.2 0, 1536, .inl f_ad)), (a_hp, .inl (G.2 0, 1536, .inl f_hp))] s.heap.size = A at hD hT ⊢
  have hA : ∀ q : Nat, s.heap.size ≤ q → A q := fun q h => by rw [← hAe]; exact Or.inr h
  have hS : va_S A s.heap s.heap [] := va_S.rf
  have hP : va_P G.1 vwCl [(a_th, .inr (7, [.ref a_h, .ref a_k, .ref a_ba, .ref a_ad, .int e_fu, .ref a_cn, .ref a_nx, .ref a_hp, .ref a_hl, .ref a_lv])), (a_ba, .inl (G.2 1, 24, .inr (.inl f_ba))), (a_ad, .inl (G.2 0, 1536, .inl f_ad)), (a_hp, .inl (G.2 0, 1536, .inl f_hp))] s.heap := hP
  have hl := lv_entry ([.ref a_th, .int p_h]) (n := 5) (Nat.le_of_ble_eq_true rfl)
  rw [lg_entry_eq]
  generalize (lg_sl ([.ref a_th, .int p_h]) ++ List.replicate (5 - (lg_sl ([.ref a_th, .int p_h])).length) Slot.unset).toArray = ls at hl ⊢
  have hl : lv_has ls 5 [(0, .ref a_th), (1, .int p_h)] := hl
  refine lv_aload_n hx hb dX7_firstRowAt_0 rfl (lv_at hl 0 rfl) ?_
  have hPc := hP.sub (ws' := [(a_th, .inr (7, [.ref a_h, .ref a_k, .ref a_ba, .ref a_ad, .int e_fu, .ref a_cn, .ref a_nx, .ref a_hp, .ref a_hl, .ref a_lv])), (a_ba, .inl (G.2 1, 24, .inr (.inl f_ba))), (a_ad, .inl (G.2 0, 1536, .inl f_ad)), (a_hp, .inl (G.2 0, 1536, .inl f_hp))]) [0, 1, 2, 3] rfl
  have hDc := hD.sub (ws' := [(a_th, .inr (7, [.ref a_h, .ref a_k, .ref a_ba, .ref a_ad, .int e_fu, .ref a_cn, .ref a_nx, .ref a_hp, .ref a_hl, .ref a_lv])), (a_ba, .inl (G.2 1, 24, .inr (.inl f_ba))), (a_ad, .inl (G.2 0, 1536, .inl f_ad)), (a_hp, .inl (G.2 0, 1536, .inl f_hp))]) [0, 1, 2, 3] (by decide) rfl
  have hFc := va_free (wc := [(a_th, .inr (7, [.ref a_h, .ref a_k, .ref a_ba, .ref a_ad, .int e_fu, .ref a_cn, .ref a_nx, .ref a_hp, .ref a_hl, .ref a_lv])), (a_ba, .inl (G.2 1, 24, .inr (.inl f_ba))), (a_ad, .inl (G.2 0, 1536, .inl f_ad)), (a_hp, .inl (G.2 0, 1536, .inl f_hp))]) hD hS hA [0, 1, 2, 3] rfl
  refine va_calli (va_runV (As := []) (rest := []) ⟨hx, hb, hml, hown, hts⟩ (th_anyFits l G a_th a_ba a_ad a_hp a_h a_k a_cn a_nx a_hl a_lv s.heap.size e_fu f_ba f_ad f_hp) (cwV 0 hts gV_X7_117 rfl rfl rfl hv_X7_anyFits ⟨Nat.le_of_ble_eq_true rfl, Nat.le_of_ble_eq_true rfl⟩) (g5_preV hPc hK hDc hN hT hS hFc (ci := 7) (q0 := 0) rfl rfl) rfl rfl hl.1 rfl (lv_room (Nat.le_of_ble_eq_true rfl)) dX7_firstRowAt_1 ⟨Nat.le_of_ble_eq_true rfl, Nat.le_of_ble_eq_true rfl⟩) hS (fun q _ h => hFc q h) hFc (fun r u t H1 locs ht hvm hw hB hz1 hk1 hS => ?_)
  obtain ⟨hP1, hD1⟩ := hB
  rw [ht] at hP1
  obtain ⟨z2, z3, i_1, y4, rfl⟩ := hw
  have i_1 : 0 ≤ z2.toInt ∧ z2.toInt ≤ 1 := i_1
  obtain ⟨hP, hD⟩ := va_join (wr := []) (w1 := [(a_th, .inr (7, [.ref a_h, .ref a_k, .ref a_ba, .ref a_ad, .int e_fu, .ref a_cn, .ref a_nx, .ref a_hp, .ref a_hl, .ref a_lv])), (a_ba, .inl (G.2 1, 24, .inr (.inl f_ba))), (a_ad, .inl (G.2 0, 1536, .inl f_ad)), (a_hp, .inl (G.2 0, 1536, .inl z3))]) hP hD [0, 1, 2, 3] [] rfl rfl (by decide) (by decide) hk1 hFc hP1 hD1
  generalize H1 = H at hP hS ⊢
  have hP : va_P G.1 vwCl [(a_th, .inr (7, [.ref a_h, .ref a_k, .ref a_ba, .ref a_ad, .int e_fu, .ref a_cn, .ref a_nx, .ref a_hp, .ref a_hl, .ref a_lv])), (a_ba, .inl (G.2 1, 24, .inr (.inl f_ba))), (a_ad, .inl (G.2 0, 1536, .inl f_ad)), (a_hp, .inl (G.2 0, 1536, .inl z3))] H := hP
  have hD : va_D A [(a_th, .inr (7, [.ref a_h, .ref a_k, .ref a_ba, .ref a_ad, .int e_fu, .ref a_cn, .ref a_nx, .ref a_hp, .ref a_hl, .ref a_lv])), (a_ba, .inl (G.2 1, 24, .inr (.inl f_ba))), (a_ad, .inl (G.2 0, 1536, .inl f_ad)), (a_hp, .inl (G.2 0, 1536, .inl z3))] := hD
  refine g5_ti (v := z2) y4 ?_
  refine lv_if_ne (tgt := 9) hx hb dX7_firstRowAt_4 (by decide) (fun c_5 => ?_) (fun c_5 => ?_)
  ·
    have n_5 : gNe (z2.toInt) (0) := by have z := g5_ne (a := z2.toInt) (b := 0) (by rfl) (by decide) c_5; unfold gNe; omega
    have i_5 : z2.toInt ≥ 1 := by have z := g5_ne (a := z2.toInt) (b := 0) (by rfl) (by decide) c_5; omega
    refine lv_iconst (v := 0) hx hb dX7_firstRowAt_9 (by decide) ?_
    refine lv_istore_n (lv' := [(2, .int 0), (0, .ref a_th), (1, .int p_h)]) hx hb dX7_firstRowAt_10 rfl hl (by decide) rfl (fun ls hl => ?_)
    refine g5_loop (α := (Int32)) (fun (k_a : (Int32)) (ls : Array Slot) (H : Heap) (locs : List Loc) => lv_has ls 5 [(2, .int k_a), (0, .ref a_th), (1, .int p_h)] ∧ va_P G.1 vwCl [(a_th, .inr (7, [.ref a_h, .ref a_k, .ref a_ba, .ref a_ad, .int e_fu, .ref a_cn, .ref a_nx, .ref a_hp, .ref a_hl, .ref a_lv])), (a_ba, .inl (G.2 1, 24, .inr (.inl f_ba))), (a_ad, .inl (G.2 0, 1536, .inl f_ad)), (a_hp, .inl (G.2 0, 1536, .inl z3))] H ∧ va_D A [(a_th, .inr (7, [.ref a_h, .ref a_k, .ref a_ba, .ref a_ad, .int e_fu, .ref a_cn, .ref a_nx, .ref a_hp, .ref a_hl, .ref a_lv])), (a_ba, .inl (G.2 1, 24, .inr (.inl f_ba))), (a_ad, .inl (G.2 0, 1536, .inl f_ad)), (a_hp, .inl (G.2 0, 1536, .inl z3))] ∧ va_S A s.heap H locs ∧ (0 ≤ k_a.toInt ∧ k_a.toInt ≤ 63)) (fun (k_a : (Int32)) => Int.toNat (63 - k_a.toInt)) 0 ⟨lv_sub hl [0, 1, 2] rfl, hP, hD, hS, ⟨by decide, by decide⟩⟩ ?_
    rintro k_a ls H locs ⟨hl, hP, hD, hS, i_6⟩ ih_11_7
    have hl : lv_has ls 5 [(2, .int k_a), (0, .ref a_th), (1, .int p_h)] := hl
    have i_6 : 0 ≤ k_a.toInt ∧ k_a.toInt ≤ 63 := i_6
    have hP : va_P G.1 vwCl [(a_th, .inr (7, [.ref a_h, .ref a_k, .ref a_ba, .ref a_ad, .int e_fu, .ref a_cn, .ref a_nx, .ref a_hp, .ref a_hl, .ref a_lv])), (a_ba, .inl (G.2 1, 24, .inr (.inl f_ba))), (a_ad, .inl (G.2 0, 1536, .inl f_ad)), (a_hp, .inl (G.2 0, 1536, .inl z3))] H := hP
    have hD : va_D A [(a_th, .inr (7, [.ref a_h, .ref a_k, .ref a_ba, .ref a_ad, .int e_fu, .ref a_cn, .ref a_nx, .ref a_hp, .ref a_hl, .ref a_lv])), (a_ba, .inl (G.2 1, 24, .inr (.inl f_ba))), (a_ad, .inl (G.2 0, 1536, .inl f_ad)), (a_hp, .inl (G.2 0, 1536, .inl z3))] := hD
    refine lv_iload_n hx hb dX7_firstRowAt_11 rfl (lv_at hl 0 rfl) ?_
    refine lv_bipush (v := 63) hx hb dX7_firstRowAt_12 (by decide) ?_
    refine lv_icmp_ge (tgt := 34) hx hb dX7_firstRowAt_14 (by decide) (fun c_8 => ?_) (fun c_8 => ?_)
    ·
      have i_8 : k_a.toInt ≥ 63 := by have z := g5_ge (a := k_a.toInt) (b := 63) (by rfl) (by decide) c_8; omega
      refine lv_aload_n hx hb dX7_firstRowAt_34 rfl (lv_at hl 1 rfl) ?_
      refine va_get (D := G.1) (ci := 7) (v := .ref a_ad) (C := RX7) (T := TX7) (N := 10) hx hb hts inG_X7 hown hK hP 0 rfl rfl 3 (by decide) (hts _ fl_X7_15) (fun _ h9 => h9) rfl dX7_firstRowAt_35 ?_
      refine lv_iload_n hx hb dX7_firstRowAt_38 rfl (lv_at hl 0 rfl) ?_
      refine va_iald hx hb hK hP 2 0 rfl rfl (i := k_a) (vp_in_iff.mpr ⟨by omega, by omega⟩) dX7_firstRowAt_39 ?_
      refine lv_istore_n (lv' := [(3, .int (f_ad k_a.toNatClampNeg)), (2, .int k_a), (0, .ref a_th), (1, .int p_h)]) hx hb dX7_firstRowAt_40 rfl hl (by decide) rfl (fun ls hl => ?_)
      refine lv_iconst (v := 1) hx hb dX7_firstRowAt_41 (by decide) ?_
      refine lv_istore (lv' := [(4, .int 1), (3, .int (f_ad k_a.toNatClampNeg)), (2, .int k_a), (0, .ref a_th), (1, .int p_h)]) hx hb dX7_firstRowAt_42 hl (by decide) rfl (fun ls hl => ?_)
      refine g5_loop (α := (Int32) × (Int32) × (Int32)) (fun (q : (Int32) × (Int32) × (Int32)) (ls : Array Slot) (H : Heap) (locs : List Loc) => match q with | (m_a, m_m, m_h) => lv_has ls 5 [(2, .int m_a), (3, .int m_m), (4, .int m_h), (0, .ref a_th), (1, .int p_h)] ∧ va_P G.1 vwCl [(a_th, .inr (7, [.ref a_h, .ref a_k, .ref a_ba, .ref a_ad, .int e_fu, .ref a_cn, .ref a_nx, .ref a_hp, .ref a_hl, .ref a_lv])), (a_ba, .inl (G.2 1, 24, .inr (.inl f_ba))), (a_ad, .inl (G.2 0, 1536, .inl f_ad)), (a_hp, .inl (G.2 0, 1536, .inl z3))] H ∧ va_D A [(a_th, .inr (7, [.ref a_h, .ref a_k, .ref a_ba, .ref a_ad, .int e_fu, .ref a_cn, .ref a_nx, .ref a_hp, .ref a_hl, .ref a_lv])), (a_ba, .inl (G.2 1, 24, .inr (.inl f_ba))), (a_ad, .inl (G.2 0, 1536, .inl f_ad)), (a_hp, .inl (G.2 0, 1536, .inl z3))] ∧ va_S A s.heap H locs ∧ (0 ≤ m_a.toInt ∧ m_a.toInt ≤ 63) ∧ (1 ≤ m_h.toInt ∧ m_h.toInt ≤ 24)) (fun (q : (Int32) × (Int32) × (Int32)) => match q with | (m_a, m_m, m_h) => Int.toNat (24 - m_h.toInt)) (k_a, (f_ad k_a.toNatClampNeg), 1) ⟨lv_sub hl [2, 1, 0, 3, 4] rfl, hP, hD, hS, ⟨by omega, by omega⟩, ⟨by decide, by decide⟩⟩ ?_
      rintro ⟨m_a, m_m, m_h⟩ ls H locs ⟨hl, hP, hD, hS, i_9, i_10⟩ ih_44_11
      have hl : lv_has ls 5 [(2, .int m_a), (3, .int m_m), (4, .int m_h), (0, .ref a_th), (1, .int p_h)] := hl
      have i_9 : 0 ≤ m_a.toInt ∧ m_a.toInt ≤ 63 := i_9
      have i_10 : 1 ≤ m_h.toInt ∧ m_h.toInt ≤ 24 := i_10
      have hP : va_P G.1 vwCl [(a_th, .inr (7, [.ref a_h, .ref a_k, .ref a_ba, .ref a_ad, .int e_fu, .ref a_cn, .ref a_nx, .ref a_hp, .ref a_hl, .ref a_lv])), (a_ba, .inl (G.2 1, 24, .inr (.inl f_ba))), (a_ad, .inl (G.2 0, 1536, .inl f_ad)), (a_hp, .inl (G.2 0, 1536, .inl z3))] H := hP
      have hD : va_D A [(a_th, .inr (7, [.ref a_h, .ref a_k, .ref a_ba, .ref a_ad, .int e_fu, .ref a_cn, .ref a_nx, .ref a_hp, .ref a_hl, .ref a_lv])), (a_ba, .inl (G.2 1, 24, .inr (.inl f_ba))), (a_ad, .inl (G.2 0, 1536, .inl f_ad)), (a_hp, .inl (G.2 0, 1536, .inl z3))] := hD
      refine lv_iload hx hb dX7_firstRowAt_44 (lv_at hl 2 rfl) ?_
      refine lv_iload_n hx hb dX7_firstRowAt_46 rfl (lv_at hl 4 rfl) ?_
      refine lv_icmp_gt (tgt := 80) hx hb dX7_firstRowAt_47 (by decide) (fun c_12 => ?_) (fun c_12 => ?_)
      ·
        have i_12 : m_h.toInt > p_h.toInt := by have z := g5_gt (a := m_h.toInt) (b := p_h.toInt) (by rfl) (by rfl) c_12; omega
        refine lv_iload_n hx hb dX7_firstRowAt_80 rfl (lv_at hl 0 rfl) ?_
        exact W.iret (v := m_a) hx hb hr (fun t ht hW => ⟨⟨m_a, [(a_th, .inr (7, [.ref a_h, .ref a_k, .ref a_ba, .ref a_ad, .int e_fu, .ref a_cn, .ref a_nx, .ref a_hp, .ref a_hl, .ref a_lv])), (a_ba, .inl (G.2 1, 24, .inr (.inl f_ba))), (a_ad, .inl (G.2 0, 1536, .inl f_ad)), (a_hp, .inl (G.2 0, 1536, .inl z3))], rfl, ⟨m_a, z3, ⟨by omega, by omega⟩, rfl, rfl⟩, by rw [ht]; exact hP.sub [0, 1, 2, 3] rfl, hD.sub [0, 1, 2, 3] (by decide) rfl⟩, hS.F ht⟩) hS.2.2 dX7_firstRowAt_81
      ·
        have i_12 : m_h.toInt ≤ p_h.toInt := by have z := g5_gtN (a := m_h.toInt) (b := p_h.toInt) (by rfl) (by rfl) c_12; omega
        refine lv_aload_n hx hb dX7_firstRowAt_50 rfl (lv_at hl 3 rfl) ?_
        refine lv_iload_n hx hb dX7_firstRowAt_51 rfl (lv_at hl 0 rfl) ?_
        refine lv_iload hx hb dX7_firstRowAt_52 (lv_at hl 2 rfl) ?_
        refine lv_iload_n hx hb dX7_firstRowAt_54 rfl (lv_at hl 1 rfl) ?_
        have hPc := hP.sub (ws' := [(a_th, .inr (7, [.ref a_h, .ref a_k, .ref a_ba, .ref a_ad, .int e_fu, .ref a_cn, .ref a_nx, .ref a_hp, .ref a_hl, .ref a_lv])), (a_hp, .inl (G.2 0, 1536, .inl z3))]) [0, 3] rfl
        have hDc := hD.sub (ws' := [(a_th, .inr (7, [.ref a_h, .ref a_k, .ref a_ba, .ref a_ad, .int e_fu, .ref a_cn, .ref a_nx, .ref a_hp, .ref a_hl, .ref a_lv])), (a_hp, .inl (G.2 0, 1536, .inl z3))]) [0, 3] (by decide) rfl
        have hFc := va_free (wc := [(a_th, .inr (7, [.ref a_h, .ref a_k, .ref a_ba, .ref a_ad, .int e_fu, .ref a_cn, .ref a_nx, .ref a_hp, .ref a_hl, .ref a_lv])), (a_hp, .inl (G.2 0, 1536, .inl z3))]) hD hS hA [0, 3] rfl
        refine va_calli (va_runV (As := [.int m_a, .int m_h, .int m_m]) (rest := []) ⟨hx, hb, hml, hown, hts⟩ (th_next l G a_th a_hp a_h a_k a_ba a_ad a_cn a_nx a_hl a_lv H.size e_fu m_a m_h m_m z3 ⟨by omega, by omega⟩ ⟨by omega, by omega⟩) (cwV 3 hts gV_X7_127 rfl rfl rfl hv_X7_lowestNext ⟨Nat.le_of_ble_eq_true rfl, Nat.le_of_ble_eq_true rfl⟩) (g5_preV hPc hK hDc hN hT hS hFc (ci := 7) (q0 := 0) rfl rfl) rfl rfl hl.1 rfl (lv_room (Nat.le_of_ble_eq_true rfl)) dX7_firstRowAt_55 ⟨Nat.le_of_ble_eq_true rfl, Nat.le_of_ble_eq_true rfl⟩) hS (fun q _ h => hFc q h) hFc (fun r u t H1 locs ht hvm hw hB hz1 hk1 hS => ?_)
        obtain ⟨hP1, hD1⟩ := hB
        rw [ht] at hP1
        obtain ⟨z14, i_13, y15, rfl⟩ := hw
        have i_13 : 0 ≤ z14.toInt ∧ z14.toInt ≤ 63 := i_13
        obtain ⟨hP, hD⟩ := va_join (wr := [(a_ba, .inl (G.2 1, 24, .inr (.inl f_ba))), (a_ad, .inl (G.2 0, 1536, .inl f_ad))]) (w1 := [(a_th, .inr (7, [.ref a_h, .ref a_k, .ref a_ba, .ref a_ad, .int e_fu, .ref a_cn, .ref a_nx, .ref a_hp, .ref a_hl, .ref a_lv])), (a_hp, .inl (G.2 0, 1536, .inl z3))]) hP hD [0, 3] [1, 2] rfl rfl (by decide) (by decide) hk1 hFc hP1 hD1
        generalize H1 = H at hP hS ⊢
        have hP : va_P G.1 vwCl [(a_ba, .inl (G.2 1, 24, .inr (.inl f_ba))), (a_ad, .inl (G.2 0, 1536, .inl f_ad)), (a_th, .inr (7, [.ref a_h, .ref a_k, .ref a_ba, .ref a_ad, .int e_fu, .ref a_cn, .ref a_nx, .ref a_hp, .ref a_hl, .ref a_lv])), (a_hp, .inl (G.2 0, 1536, .inl z3))] H := hP
        have hD : va_D A [(a_ba, .inl (G.2 1, 24, .inr (.inl f_ba))), (a_ad, .inl (G.2 0, 1536, .inl f_ad)), (a_th, .inr (7, [.ref a_h, .ref a_k, .ref a_ba, .ref a_ad, .int e_fu, .ref a_cn, .ref a_nx, .ref a_hp, .ref a_hl, .ref a_lv])), (a_hp, .inl (G.2 0, 1536, .inl z3))] := hD
        refine g5_ti (v := z14) y15 ?_
        refine lv_istore_n (lv' := [(2, .int z14), (3, .int m_m), (4, .int m_h), (0, .ref a_th), (1, .int p_h)]) hx hb dX7_firstRowAt_58 rfl hl (by decide) rfl (fun ls hl => ?_)
        refine lv_iload_n hx hb dX7_firstRowAt_59 rfl (lv_at hl 1 rfl) ?_
        refine lv_aload_n hx hb dX7_firstRowAt_60 rfl (lv_at hl 3 rfl) ?_
        refine va_get (D := G.1) (ci := 7) (v := .ref a_ad) (C := RX7) (T := TX7) (N := 10) hx hb hts inG_X7 hown hK hP 2 rfl rfl 3 (by decide) (hts _ fl_X7_15) (fun _ h9 => h9) rfl dX7_firstRowAt_61 ?_
        refine lv_iload hx hb dX7_firstRowAt_64 (lv_at hl 2 rfl) ?_
        refine lv_bipush (v := 64) hx hb dX7_firstRowAt_66 (by decide) ?_
        refine lv_imul hx hb dX7_firstRowAt_68 ?_
        have t_16 : (m_h * 64).toInt = m_h.toInt * 64 := g5_imul (a := m_h.toInt) (b := 64) (by rfl) (by decide) (by omega) (by omega)
        refine lv_iload_n hx hb dX7_firstRowAt_69 rfl (lv_at hl 0 rfl) ?_
        refine lv_iadd hx hb dX7_firstRowAt_70 ?_
        have t_17 : ((m_h * 64) + z14).toInt = (m_h * 64).toInt + z14.toInt := g5_iadd (a := (m_h * 64).toInt) (b := z14.toInt) (by rfl) (by rfl) (by omega) (by omega)
        refine va_iald hx hb hK hP 1 0 rfl rfl (i := ((m_h * 64) + z14)) (vp_in_iff.mpr ⟨by omega, by omega⟩) dX7_firstRowAt_71 ?_
        refine lv_ior hx hb dX7_firstRowAt_72 ?_
        refine lv_istore_n (lv' := [(3, .int (m_m ||| (f_ad ((m_h * 64) + z14).toNatClampNeg))), (2, .int z14), (4, .int m_h), (0, .ref a_th), (1, .int p_h)]) hx hb dX7_firstRowAt_73 rfl hl (by decide) rfl (fun ls hl => ?_)
        refine lv_iinc (v := (m_h + 1)) (lv' := [(4, .int (m_h + 1)), (3, .int (m_m ||| (f_ad ((m_h * 64) + z14).toNatClampNeg))), (2, .int z14), (0, .ref a_th), (1, .int p_h)]) hx hb dX7_firstRowAt_74 hl (k := 2) rfl rfl (by decide) rfl (fun ls hl => ?_)
        have t_18 : (m_h + 1).toInt = m_h.toInt + 1 := g5_iadd (a := m_h.toInt) (b := 1) rfl (by decide) (by omega) (by omega)
        refine lv_goto (tgt := 44) hx hb dX7_firstRowAt_77 (by decide) ?_
        exact ih_44_11 (z14, (m_m ||| (f_ad ((m_h * 64) + z14).toNatClampNeg)), (m_h + 1)) ls H locs (show Int.toNat (24 - (m_h + 1).toInt) < Int.toNat (24 - m_h.toInt) from g_up (show m_h.toInt < (m_h + 1).toInt by omega) (show m_h.toInt < 24 by omega)) ⟨lv_sub hl [2, 1, 0, 3, 4] rfl, hP.sub [2, 0, 1, 3] rfl, hD.sub [2, 0, 1, 3] (by decide) rfl, hS, ⟨by omega, by omega⟩, ⟨by omega, by omega⟩⟩
    ·
      have i_8 : k_a.toInt < 63 := by have z := g5_geN (a := k_a.toInt) (b := 63) (by rfl) (by decide) c_8; omega
      refine lv_aload_n hx hb dX7_firstRowAt_17 rfl (lv_at hl 1 rfl) ?_
      refine va_get (D := G.1) (ci := 7) (v := .ref a_hp) (C := RX7) (T := TX7) (N := 10) hx hb hts inG_X7 hown hK hP 0 rfl rfl 7 (by decide) (hts _ fl_X7_25) (fun _ h9 => h9) rfl dX7_firstRowAt_18 ?_
      refine lv_iload_n hx hb dX7_firstRowAt_21 rfl (lv_at hl 0 rfl) ?_
      refine va_iald hx hb hK hP 3 0 rfl rfl (i := k_a) (vp_in_iff.mpr ⟨by omega, by omega⟩) dX7_firstRowAt_22 ?_
      refine lv_iconst (v := 1) hx hb dX7_firstRowAt_23 (by decide) ?_
      refine lv_iand hx hb dX7_firstRowAt_24 ?_
      refine lv_if_ne (tgt := 34) hx hb dX7_firstRowAt_25 (by decide) (fun c_19 => ?_) (fun c_19 => ?_)
      ·
        have n_19 : gNe (((z3 k_a.toNatClampNeg) &&& 1).toInt) (0) := by have z := g5_ne (a := ((z3 k_a.toNatClampNeg) &&& 1).toInt) (b := 0) (by rfl) (by decide) c_19; unfold gNe; omega
        refine lv_aload_n hx hb dX7_firstRowAt_34 rfl (lv_at hl 1 rfl) ?_
        refine va_get (D := G.1) (ci := 7) (v := .ref a_ad) (C := RX7) (T := TX7) (N := 10) hx hb hts inG_X7 hown hK hP 0 rfl rfl 3 (by decide) (hts _ fl_X7_15) (fun _ h9 => h9) rfl dX7_firstRowAt_35 ?_
        refine lv_iload_n hx hb dX7_firstRowAt_38 rfl (lv_at hl 0 rfl) ?_
        refine va_iald hx hb hK hP 2 0 rfl rfl (i := k_a) (vp_in_iff.mpr ⟨by omega, by omega⟩) dX7_firstRowAt_39 ?_
        refine lv_istore_n (lv' := [(3, .int (f_ad k_a.toNatClampNeg)), (2, .int k_a), (0, .ref a_th), (1, .int p_h)]) hx hb dX7_firstRowAt_40 rfl hl (by decide) rfl (fun ls hl => ?_)
        refine lv_iconst (v := 1) hx hb dX7_firstRowAt_41 (by decide) ?_
        refine lv_istore (lv' := [(4, .int 1), (3, .int (f_ad k_a.toNatClampNeg)), (2, .int k_a), (0, .ref a_th), (1, .int p_h)]) hx hb dX7_firstRowAt_42 hl (by decide) rfl (fun ls hl => ?_)
        refine g5_loop (α := (Int32) × (Int32) × (Int32)) (fun (q : (Int32) × (Int32) × (Int32)) (ls : Array Slot) (H : Heap) (locs : List Loc) => match q with | (m_a, m_m, m_h) => lv_has ls 5 [(2, .int m_a), (3, .int m_m), (4, .int m_h), (0, .ref a_th), (1, .int p_h)] ∧ va_P G.1 vwCl [(a_th, .inr (7, [.ref a_h, .ref a_k, .ref a_ba, .ref a_ad, .int e_fu, .ref a_cn, .ref a_nx, .ref a_hp, .ref a_hl, .ref a_lv])), (a_ba, .inl (G.2 1, 24, .inr (.inl f_ba))), (a_ad, .inl (G.2 0, 1536, .inl f_ad)), (a_hp, .inl (G.2 0, 1536, .inl z3))] H ∧ va_D A [(a_th, .inr (7, [.ref a_h, .ref a_k, .ref a_ba, .ref a_ad, .int e_fu, .ref a_cn, .ref a_nx, .ref a_hp, .ref a_hl, .ref a_lv])), (a_ba, .inl (G.2 1, 24, .inr (.inl f_ba))), (a_ad, .inl (G.2 0, 1536, .inl f_ad)), (a_hp, .inl (G.2 0, 1536, .inl z3))] ∧ va_S A s.heap H locs ∧ (0 ≤ m_a.toInt ∧ m_a.toInt ≤ 63) ∧ (1 ≤ m_h.toInt ∧ m_h.toInt ≤ 24)) (fun (q : (Int32) × (Int32) × (Int32)) => match q with | (m_a, m_m, m_h) => Int.toNat (24 - m_h.toInt)) (k_a, (f_ad k_a.toNatClampNeg), 1) ⟨lv_sub hl [2, 1, 0, 3, 4] rfl, hP, hD, hS, ⟨by omega, by omega⟩, ⟨by decide, by decide⟩⟩ ?_
        rintro ⟨m_a, m_m, m_h⟩ ls H locs ⟨hl, hP, hD, hS, i_20, i_21⟩ ih_44_22
        have hl : lv_has ls 5 [(2, .int m_a), (3, .int m_m), (4, .int m_h), (0, .ref a_th), (1, .int p_h)] := hl
        have i_20 : 0 ≤ m_a.toInt ∧ m_a.toInt ≤ 63 := i_20
        have i_21 : 1 ≤ m_h.toInt ∧ m_h.toInt ≤ 24 := i_21
        have hP : va_P G.1 vwCl [(a_th, .inr (7, [.ref a_h, .ref a_k, .ref a_ba, .ref a_ad, .int e_fu, .ref a_cn, .ref a_nx, .ref a_hp, .ref a_hl, .ref a_lv])), (a_ba, .inl (G.2 1, 24, .inr (.inl f_ba))), (a_ad, .inl (G.2 0, 1536, .inl f_ad)), (a_hp, .inl (G.2 0, 1536, .inl z3))] H := hP
        have hD : va_D A [(a_th, .inr (7, [.ref a_h, .ref a_k, .ref a_ba, .ref a_ad, .int e_fu, .ref a_cn, .ref a_nx, .ref a_hp, .ref a_hl, .ref a_lv])), (a_ba, .inl (G.2 1, 24, .inr (.inl f_ba))), (a_ad, .inl (G.2 0, 1536, .inl f_ad)), (a_hp, .inl (G.2 0, 1536, .inl z3))] := hD
        refine lv_iload hx hb dX7_firstRowAt_44 (lv_at hl 2 rfl) ?_
        refine lv_iload_n hx hb dX7_firstRowAt_46 rfl (lv_at hl 4 rfl) ?_
        refine lv_icmp_gt (tgt := 80) hx hb dX7_firstRowAt_47 (by decide) (fun c_23 => ?_) (fun c_23 => ?_)
        ·
          have i_23 : m_h.toInt > p_h.toInt := by have z := g5_gt (a := m_h.toInt) (b := p_h.toInt) (by rfl) (by rfl) c_23; omega
          refine lv_iload_n hx hb dX7_firstRowAt_80 rfl (lv_at hl 0 rfl) ?_
          exact W.iret (v := m_a) hx hb hr (fun t ht hW => ⟨⟨m_a, [(a_th, .inr (7, [.ref a_h, .ref a_k, .ref a_ba, .ref a_ad, .int e_fu, .ref a_cn, .ref a_nx, .ref a_hp, .ref a_hl, .ref a_lv])), (a_ba, .inl (G.2 1, 24, .inr (.inl f_ba))), (a_ad, .inl (G.2 0, 1536, .inl f_ad)), (a_hp, .inl (G.2 0, 1536, .inl z3))], rfl, ⟨m_a, z3, ⟨by omega, by omega⟩, rfl, rfl⟩, by rw [ht]; exact hP.sub [0, 1, 2, 3] rfl, hD.sub [0, 1, 2, 3] (by decide) rfl⟩, hS.F ht⟩) hS.2.2 dX7_firstRowAt_81
        ·
          have i_23 : m_h.toInt ≤ p_h.toInt := by have z := g5_gtN (a := m_h.toInt) (b := p_h.toInt) (by rfl) (by rfl) c_23; omega
          refine lv_aload_n hx hb dX7_firstRowAt_50 rfl (lv_at hl 3 rfl) ?_
          refine lv_iload_n hx hb dX7_firstRowAt_51 rfl (lv_at hl 0 rfl) ?_
          refine lv_iload hx hb dX7_firstRowAt_52 (lv_at hl 2 rfl) ?_
          refine lv_iload_n hx hb dX7_firstRowAt_54 rfl (lv_at hl 1 rfl) ?_
          have hPc := hP.sub (ws' := [(a_th, .inr (7, [.ref a_h, .ref a_k, .ref a_ba, .ref a_ad, .int e_fu, .ref a_cn, .ref a_nx, .ref a_hp, .ref a_hl, .ref a_lv])), (a_hp, .inl (G.2 0, 1536, .inl z3))]) [0, 3] rfl
          have hDc := hD.sub (ws' := [(a_th, .inr (7, [.ref a_h, .ref a_k, .ref a_ba, .ref a_ad, .int e_fu, .ref a_cn, .ref a_nx, .ref a_hp, .ref a_hl, .ref a_lv])), (a_hp, .inl (G.2 0, 1536, .inl z3))]) [0, 3] (by decide) rfl
          have hFc := va_free (wc := [(a_th, .inr (7, [.ref a_h, .ref a_k, .ref a_ba, .ref a_ad, .int e_fu, .ref a_cn, .ref a_nx, .ref a_hp, .ref a_hl, .ref a_lv])), (a_hp, .inl (G.2 0, 1536, .inl z3))]) hD hS hA [0, 3] rfl
          refine va_calli (va_runV (As := [.int m_a, .int m_h, .int m_m]) (rest := []) ⟨hx, hb, hml, hown, hts⟩ (th_next l G a_th a_hp a_h a_k a_ba a_ad a_cn a_nx a_hl a_lv H.size e_fu m_a m_h m_m z3 ⟨by omega, by omega⟩ ⟨by omega, by omega⟩) (cwV 3 hts gV_X7_127 rfl rfl rfl hv_X7_lowestNext ⟨Nat.le_of_ble_eq_true rfl, Nat.le_of_ble_eq_true rfl⟩) (g5_preV hPc hK hDc hN hT hS hFc (ci := 7) (q0 := 0) rfl rfl) rfl rfl hl.1 rfl (lv_room (Nat.le_of_ble_eq_true rfl)) dX7_firstRowAt_55 ⟨Nat.le_of_ble_eq_true rfl, Nat.le_of_ble_eq_true rfl⟩) hS (fun q _ h => hFc q h) hFc (fun r u t H1 locs ht hvm hw hB hz1 hk1 hS => ?_)
          obtain ⟨hP1, hD1⟩ := hB
          rw [ht] at hP1
          obtain ⟨z25, i_24, y26, rfl⟩ := hw
          have i_24 : 0 ≤ z25.toInt ∧ z25.toInt ≤ 63 := i_24
          obtain ⟨hP, hD⟩ := va_join (wr := [(a_ba, .inl (G.2 1, 24, .inr (.inl f_ba))), (a_ad, .inl (G.2 0, 1536, .inl f_ad))]) (w1 := [(a_th, .inr (7, [.ref a_h, .ref a_k, .ref a_ba, .ref a_ad, .int e_fu, .ref a_cn, .ref a_nx, .ref a_hp, .ref a_hl, .ref a_lv])), (a_hp, .inl (G.2 0, 1536, .inl z3))]) hP hD [0, 3] [1, 2] rfl rfl (by decide) (by decide) hk1 hFc hP1 hD1
          generalize H1 = H at hP hS ⊢
          have hP : va_P G.1 vwCl [(a_ba, .inl (G.2 1, 24, .inr (.inl f_ba))), (a_ad, .inl (G.2 0, 1536, .inl f_ad)), (a_th, .inr (7, [.ref a_h, .ref a_k, .ref a_ba, .ref a_ad, .int e_fu, .ref a_cn, .ref a_nx, .ref a_hp, .ref a_hl, .ref a_lv])), (a_hp, .inl (G.2 0, 1536, .inl z3))] H := hP
          have hD : va_D A [(a_ba, .inl (G.2 1, 24, .inr (.inl f_ba))), (a_ad, .inl (G.2 0, 1536, .inl f_ad)), (a_th, .inr (7, [.ref a_h, .ref a_k, .ref a_ba, .ref a_ad, .int e_fu, .ref a_cn, .ref a_nx, .ref a_hp, .ref a_hl, .ref a_lv])), (a_hp, .inl (G.2 0, 1536, .inl z3))] := hD
          refine g5_ti (v := z25) y26 ?_
          refine lv_istore_n (lv' := [(2, .int z25), (3, .int m_m), (4, .int m_h), (0, .ref a_th), (1, .int p_h)]) hx hb dX7_firstRowAt_58 rfl hl (by decide) rfl (fun ls hl => ?_)
          refine lv_iload_n hx hb dX7_firstRowAt_59 rfl (lv_at hl 1 rfl) ?_
          refine lv_aload_n hx hb dX7_firstRowAt_60 rfl (lv_at hl 3 rfl) ?_
          refine va_get (D := G.1) (ci := 7) (v := .ref a_ad) (C := RX7) (T := TX7) (N := 10) hx hb hts inG_X7 hown hK hP 2 rfl rfl 3 (by decide) (hts _ fl_X7_15) (fun _ h9 => h9) rfl dX7_firstRowAt_61 ?_
          refine lv_iload hx hb dX7_firstRowAt_64 (lv_at hl 2 rfl) ?_
          refine lv_bipush (v := 64) hx hb dX7_firstRowAt_66 (by decide) ?_
          refine lv_imul hx hb dX7_firstRowAt_68 ?_
          have t_27 : (m_h * 64).toInt = m_h.toInt * 64 := g5_imul (a := m_h.toInt) (b := 64) (by rfl) (by decide) (by omega) (by omega)
          refine lv_iload_n hx hb dX7_firstRowAt_69 rfl (lv_at hl 0 rfl) ?_
          refine lv_iadd hx hb dX7_firstRowAt_70 ?_
          have t_28 : ((m_h * 64) + z25).toInt = (m_h * 64).toInt + z25.toInt := g5_iadd (a := (m_h * 64).toInt) (b := z25.toInt) (by rfl) (by rfl) (by omega) (by omega)
          refine va_iald hx hb hK hP 1 0 rfl rfl (i := ((m_h * 64) + z25)) (vp_in_iff.mpr ⟨by omega, by omega⟩) dX7_firstRowAt_71 ?_
          refine lv_ior hx hb dX7_firstRowAt_72 ?_
          refine lv_istore_n (lv' := [(3, .int (m_m ||| (f_ad ((m_h * 64) + z25).toNatClampNeg))), (2, .int z25), (4, .int m_h), (0, .ref a_th), (1, .int p_h)]) hx hb dX7_firstRowAt_73 rfl hl (by decide) rfl (fun ls hl => ?_)
          refine lv_iinc (v := (m_h + 1)) (lv' := [(4, .int (m_h + 1)), (3, .int (m_m ||| (f_ad ((m_h * 64) + z25).toNatClampNeg))), (2, .int z25), (0, .ref a_th), (1, .int p_h)]) hx hb dX7_firstRowAt_74 hl (k := 2) rfl rfl (by decide) rfl (fun ls hl => ?_)
          have t_29 : (m_h + 1).toInt = m_h.toInt + 1 := g5_iadd (a := m_h.toInt) (b := 1) rfl (by decide) (by omega) (by omega)
          refine lv_goto (tgt := 44) hx hb dX7_firstRowAt_77 (by decide) ?_
          exact ih_44_22 (z25, (m_m ||| (f_ad ((m_h * 64) + z25).toNatClampNeg)), (m_h + 1)) ls H locs (show Int.toNat (24 - (m_h + 1).toInt) < Int.toNat (24 - m_h.toInt) from g_up (show m_h.toInt < (m_h + 1).toInt by omega) (show m_h.toInt < 24 by omega)) ⟨lv_sub hl [2, 1, 0, 3, 4] rfl, hP.sub [2, 0, 1, 3] rfl, hD.sub [2, 0, 1, 3] (by decide) rfl, hS, ⟨by omega, by omega⟩, ⟨by omega, by omega⟩⟩
      ·
        have i_19 : ((z3 k_a.toNatClampNeg) &&& 1).toInt = 0 := by have z := g5_neN (a := ((z3 k_a.toNatClampNeg) &&& 1).toInt) (b := 0) (by rfl) (by decide) c_19; omega
        refine lv_iinc (v := (k_a + 1)) (lv' := [(2, .int (k_a + 1)), (0, .ref a_th), (1, .int p_h)]) hx hb dX7_firstRowAt_28 hl (k := 0) rfl rfl (by decide) rfl (fun ls hl => ?_)
        have t_30 : (k_a + 1).toInt = k_a.toInt + 1 := g5_iadd (a := k_a.toInt) (b := 1) rfl (by decide) (by omega) (by omega)
        refine lv_goto (tgt := 11) hx hb dX7_firstRowAt_31 (by decide) ?_
        exact ih_11_7 (k_a + 1) ls H locs (show Int.toNat (63 - (k_a + 1).toInt) < Int.toNat (63 - k_a.toInt) from g_up (show k_a.toInt < (k_a + 1).toInt by omega) (show k_a.toInt < 63 by omega)) ⟨lv_sub hl [0, 1, 2] rfl, hP, hD, hS, ⟨by omega, by omega⟩⟩
  ·
    have i_5 : z2.toInt = 0 := by have z := g5_neN (a := z2.toInt) (b := 0) (by rfl) (by decide) c_5; omega
    refine lv_iconst (v := (-1)) hx hb dX7_firstRowAt_7 (by decide) ?_
    exact W.iret (v := (-1)) hx hb hr (fun t ht hW => ⟨⟨(-1), [(a_th, .inr (7, [.ref a_h, .ref a_k, .ref a_ba, .ref a_ad, .int e_fu, .ref a_cn, .ref a_nx, .ref a_hp, .ref a_hl, .ref a_lv])), (a_ba, .inl (G.2 1, 24, .inr (.inl f_ba))), (a_ad, .inl (G.2 0, 1536, .inl f_ad)), (a_hp, .inl (G.2 0, 1536, .inl z3))], rfl, ⟨(-1), z3, ⟨by have zc_o_r : ((-1) : Int32).toInt = (-1) := (by decide); omega, by have zc_o_r : ((-1) : Int32).toInt = (-1) := (by decide); omega⟩, rfl, rfl⟩, by rw [ht]; exact hP.sub [0, 1, 2, 3] rfl, hD.sub [0, 1, 2, 3] (by decide) rfl⟩, hS.F ht⟩) hS.2.2 dX7_firstRowAt_8
