set_option maxHeartbeats 4000000 in
set_option maxRecDepth 100000 in
theorem j_holds (l : Launch) (G : g5_G) (a_j a_as a_sk a_lo a_sr a_cd a_hd : Nat) (sz : Nat) (p_c : Int32) (e_cl : Int32) (f_as : Nat → Int32) (f_sk : Nat → Int64) (f_sr : Nat → Int32) (f_cd : Nat → Int32) (n_sr : Nat) (n_cd : Nat) (h_p_c : 0 ≤ p_c.toInt ∧ p_c.toInt ≤ 11) (h_e_cl : 0 ≤ e_cl.toInt ∧ e_cl.toInt ≤ 12) (e_q : (p_c.toInt + 1 : Int) < (n_sr : Int)) (e_hn : n_cd ≤ 400) (e_hs : ∀ j : Nat, j < n_sr → 0 ≤ (f_sr j).toInt ∧ (f_sr j).toInt ≤ (n_cd : Int)) (e_hk : ∀ j : Nat, j < n_cd → (f_cd j >>> (12 &&& 31)).toInt = 1 → (f_cd j &&& 4095).toInt < 8) : Met l yX2_holds (wsG yX2_holds cX2_holds 8 (some .boolean)) ({ frames := 1, cells := 0, slots := 0, locals := 28 }) (va_Pc [.ref a_j, .ref a_lo, .int p_c] (g5_P G [(a_j, (oc2 a_as a_sk)), (a_as, (arI G 8 f_as)), (a_sk, (arJ G 50 f_sk)), (a_lo, (oc3 e_cl a_hd a_sr a_cd)), (a_sr, (arI G n_sr f_sr)), (a_cd, (arI G n_cd f_cd))] sz)) (va_Qi (fun (r : Int32) (u : va_W) => (∃ (o_r : Int32) (o_k : Nat → Int64), (0 ≤ o_r.toInt ∧ o_r.toInt ≤ 1) ∧ (r = o_r) ∧ (u = [(a_j, (oc2 a_as a_sk)), (a_as, (arI G 8 f_as)), (a_sk, (arJ G 50 o_k)), (a_lo, (oc3 e_cl a_hd a_sr a_cd)), (a_sr, (arI G n_sr f_sr)), (a_cd, (arI G n_cd f_cd))]))) (g5_B G (va_A [(a_j, (oc2 a_as a_sk)), (a_as, (arI G 8 f_as)), (a_sk, (arJ G 50 f_sk)), (a_lo, (oc3 e_cl a_hd a_sr a_cd)), (a_sr, (arI G n_sr f_sr)), (a_cd, (arI G n_cd f_cd))] sz)) (va_A [(a_j, (oc2 a_as a_sk)), (a_as, (arI G 8 f_as)), (a_sk, (arJ G 50 f_sk)), (a_lo, (oc3 e_cl a_hd a_sr a_cd)), (a_sr, (arI G n_sr f_sr)), (a_cd, (arI G n_cd f_cd))] sz)) 0 0 (va_A [(a_j, (oc2 a_as a_sk)), (a_as, (arI G 8 f_as)), (a_sk, (arJ G 50 f_sk)), (a_lo, (oc3 e_cl a_hd a_sr a_cd)), (a_sr, (arI G n_sr f_sr)), (a_cd, (arI G n_cd f_cd))] sz) := by
  refine Met.ofW (cc := cX2_holds) (maxL := 8) (ret := (some .boolean)) (by decide) rfl ?_
  intro p e s m args below meth c s₁ B hml hv
  obtain ⟨rfl, hsz, hP, hK, hD0, hN, hT⟩ := hv
  have hx := B.exec
  have hb := B.bytes
  have hr := B.returns
  have hts : ∀ w ∈ tblG, w.before _ s = true := fun w h => atoms_spec (ws := (wsG yX2_holds cX2_holds 8 (some .boolean))) B.pre w (List.mem_cons_of_mem _ h)
  have hown : s.vm.findClass RX2 = some m.cls := findClass_of_methodNamed B.named
  have hlocks := B.notSynchronized
  subst hsz
  have hD := hD0.self (sz := s.heap.size)
  generalize hAe : va_A [(a_j, (oc2 a_as a_sk)), (a_as, (arI G 8 f_as)), (a_sk, (arJ G 50 f_sk)), (a_lo, (oc3 e_cl a_hd a_sr a_cd)), (a_sr, (arI G n_sr f_sr)), (a_cd, (arI G n_cd f_cd))] s.heap.size = A at hD hT ⊢
  have hA : ∀ q : Nat, s.heap.size ≤ q → A q := fun q h => by rw [← hAe]; exact Or.inr h
  have hS : va_S A s.heap s.heap [] := va_S.rf
  have hP : va_P G.1 vwCl [(a_j, (oc2 a_as a_sk)), (a_as, (arI G 8 f_as)), (a_sk, (arJ G 50 f_sk)), (a_lo, (oc3 e_cl a_hd a_sr a_cd)), (a_sr, (arI G n_sr f_sr)), (a_cd, (arI G n_cd f_cd))] s.heap := hP
  have hl := lv_entry ([.ref a_j, .ref a_lo, .int p_c]) (n := 8) (Nat.le_of_ble_eq_true rfl)
  rw [lg_entry_eq]
  generalize (lg_sl ([.ref a_j, .ref a_lo, .int p_c]) ++ List.replicate (8 - (lg_sl ([.ref a_j, .ref a_lo, .int p_c])).length) Slot.unset).toArray = ls at hl ⊢
  have hl : lv_has ls 8 [(0, .ref a_j), (1, .ref a_lo), (2, .int p_c)] := hl
  refine lv_iconst (v := 0) hx hb dX2_holds_0 (by decide) ?_
  refine lv_istore_n (lv' := [(3, .int 0), (0, .ref a_j), (1, .ref a_lo), (2, .int p_c)]) hx hb dX2_holds_1 rfl hl (by decide) rfl (fun ls hl => ?_)
  refine lv_aload_n hx hb dX2_holds_2 rfl (lv_at hl 2 rfl) ?_
  refine va_get (D := G.1) (ci := 3) (v := .ref a_sr) (C := RX3) (T := TX3) (N := 4) hx hb hts inG_X3 hown hK hP 3 rfl rfl 2 (by decide) (hts _ fl_X2_41) (fun _ h9 => h9) rfl dX2_holds_3 ?_
  refine lv_iload_n hx hb dX2_holds_6 rfl (lv_at hl 3 rfl) ?_
  refine lv_iconst (v := 1) hx hb dX2_holds_7 (by decide) ?_
  refine lv_iadd hx hb dX2_holds_8 ?_
  have t_1 : (p_c + 1).toInt = p_c.toInt + 1 := g5_iadd (a := p_c.toInt) (b := 1) (by rfl) (by decide) (by omega) (by omega)
  refine va_iald hx hb hK hP 4 0 rfl rfl (i := (p_c + 1)) (vp_in_iff.mpr ⟨by omega, by omega⟩) dX2_holds_9 ?_
  refine lv_istore (lv' := [(4, .int (f_sr (p_c + 1).toNatClampNeg)), (3, .int 0), (0, .ref a_j), (1, .ref a_lo), (2, .int p_c)]) hx hb dX2_holds_10 hl (by decide) rfl (fun ls hl => ?_)
  refine lv_aload_n hx hb dX2_holds_12 rfl (lv_at hl 3 rfl) ?_
  refine va_get (D := G.1) (ci := 3) (v := .ref a_sr) (C := RX3) (T := TX3) (N := 4) hx hb hts inG_X3 hown hK hP 3 rfl rfl 2 (by decide) (hts _ fl_X2_41) (fun _ h9 => h9) rfl dX2_holds_13 ?_
  refine lv_iload_n hx hb dX2_holds_16 rfl (lv_at hl 4 rfl) ?_
  refine va_iald hx hb hK hP 4 0 rfl rfl (i := p_c) (vp_in_iff.mpr ⟨by omega, by omega⟩) dX2_holds_17 ?_
  refine lv_istore (lv' := [(5, .int (f_sr p_c.toNatClampNeg)), (4, .int (f_sr (p_c + 1).toNatClampNeg)), (3, .int 0), (0, .ref a_j), (1, .ref a_lo), (2, .int p_c)]) hx hb dX2_holds_18 hl (by decide) rfl (fun ls hl => ?_)
  have hs_2 : 0 ≤ (f_sr (p_c + 1).toNatClampNeg).toInt ∧ (f_sr (p_c + 1).toNatClampNeg).toInt ≤ (n_cd : Int) := e_hs _ (by have zz := g5_clamp (p_c + 1); omega)
  have hs_3 : 0 ≤ (f_sr p_c.toNatClampNeg).toInt ∧ (f_sr p_c.toNatClampNeg).toInt ≤ (n_cd : Int) := e_hs _ (by have zz := g5_clamp p_c; omega)
  refine g5_loop (α := (Int32) × (Int32) × (Nat → Int64)) (fun (q : (Int32) × (Int32) × (Nat → Int64)) (ls : Array Slot) (H : Heap) (locs : List Loc) => match q with | (k_t, k_a, k_k) => lv_has ls 8 [(3, .int k_t), (5, .int k_a), (4, .int (f_sr (p_c + 1).toNatClampNeg)), (0, .ref a_j), (1, .ref a_lo), (2, .int p_c)] ∧ va_P G.1 vwCl [(a_j, (oc2 a_as a_sk)), (a_as, (arI G 8 f_as)), (a_sk, (arJ G 50 k_k)), (a_lo, (oc3 e_cl a_hd a_sr a_cd)), (a_sr, (arI G n_sr f_sr)), (a_cd, (arI G n_cd f_cd))] H ∧ va_D A [(a_j, (oc2 a_as a_sk)), (a_as, (arI G 8 f_as)), (a_sk, (arJ G 50 k_k)), (a_lo, (oc3 e_cl a_hd a_sr a_cd)), (a_sr, (arI G n_sr f_sr)), (a_cd, (arI G n_cd f_cd))] ∧ va_S A s.heap H locs ∧ (0 ≤ k_t.toInt ∧ k_t.toInt ≤ 50) ∧ (0 ≤ k_a.toInt ∧ k_a.toInt ≤ 4096)) (fun (q : (Int32) × (Int32) × (Nat → Int64)) => match q with | (k_t, k_a, k_k) => Int.toNat (4096 - k_a.toInt)) (0, (f_sr p_c.toNatClampNeg), f_sk) ⟨lv_sub hl [2, 0, 1, 3, 4, 5] rfl, hP, hD, hS, ⟨by decide, by decide⟩, ⟨by omega, by omega⟩⟩ ?_
  rintro ⟨k_t, k_a, k_k⟩ ls H locs ⟨hl, hP, hD, hS, i_4, i_5⟩ ih_20_6
  have hl : lv_has ls 8 [(3, .int k_t), (5, .int k_a), (4, .int (f_sr (p_c + 1).toNatClampNeg)), (0, .ref a_j), (1, .ref a_lo), (2, .int p_c)] := hl
  have i_4 : 0 ≤ k_t.toInt ∧ k_t.toInt ≤ 50 := i_4
  have i_5 : 0 ≤ k_a.toInt ∧ k_a.toInt ≤ 4096 := i_5
  refine g5_rs [(a_j, (oc2 a_as a_sk)), (a_as, (arI G 8 f_as)), (a_sk, (arJ G 50 k_k)), (a_lo, (oc3 e_cl a_hd a_sr a_cd)), (a_sr, (arI G n_sr f_sr)), (a_cd, (arI G n_cd f_cd))] hP hD (fun hP hD => ?_)
  refine lv_iload hx hb dX2_holds_20 (lv_at hl 1 rfl) ?_
  refine lv_iload hx hb dX2_holds_22 (lv_at hl 2 rfl) ?_
  refine lv_icmp_ge (tgt := 243) hx hb dX2_holds_24 (by decide) (fun c_7 => ?_) (fun c_7 => ?_)
  ·
    have i_7 : k_a.toInt ≥ (f_sr (p_c + 1).toNatClampNeg).toInt := by have z := g5_ge (a := k_a.toInt) (b := (f_sr (p_c + 1).toNatClampNeg).toInt) (by rfl) (by rfl) c_7; omega
    refine lv_iconst (v := 1) hx hb dX2_holds_243 (by decide) ?_
    exact W.zret (v := 1) hx hb hr rfl (fun t ht hW => ⟨⟨1, [(a_j, (oc2 a_as a_sk)), (a_as, (arI G 8 f_as)), (a_sk, (arJ G 50 k_k)), (a_lo, (oc3 e_cl a_hd a_sr a_cd)), (a_sr, (arI G n_sr f_sr)), (a_cd, (arI G n_cd f_cd))], rfl, ⟨1, k_k, ⟨by have zc_o_r : (1 : Int32).toInt = 1 := (by decide); omega, by have zc_o_r : (1 : Int32).toInt = 1 := (by decide); omega⟩, rfl, rfl⟩, by rw [ht]; exact hP.sub [0, 1, 2, 3, 4, 5] rfl, hD.sub [0, 1, 2, 3, 4, 5] (by decide) rfl⟩, hS.F ht⟩) hS.2.2 dX2_holds_244
  ·
    have i_7 : k_a.toInt < (f_sr (p_c + 1).toNatClampNeg).toInt := by have z := g5_geN (a := k_a.toInt) (b := (f_sr (p_c + 1).toNatClampNeg).toInt) (by rfl) (by rfl) c_7; omega
    refine lv_aload_n hx hb dX2_holds_27 rfl (lv_at hl 4 rfl) ?_
    refine va_get (D := G.1) (ci := 3) (v := .ref a_cd) (C := RX3) (T := TX3) (N := 4) hx hb hts inG_X3 hown hK hP 3 rfl rfl 3 (by decide) (hts _ fl_X2_44) (fun _ h9 => h9) rfl dX2_holds_28 ?_
    refine lv_iload hx hb dX2_holds_31 (lv_at hl 1 rfl) ?_
    refine va_iald hx hb hK hP 5 0 rfl rfl (i := k_a) (vp_in_iff.mpr ⟨by omega, by omega⟩) dX2_holds_33 ?_
    refine lv_bipush (v := 12) hx hb dX2_holds_34 (by decide) ?_
    refine lv_ishr hx hb dX2_holds_36 ?_
    refine lv_istore (lv' := [(6, .int ((f_cd k_a.toNatClampNeg) >>> (12 &&& 31))), (3, .int k_t), (5, .int k_a), (4, .int (f_sr (p_c + 1).toNatClampNeg)), (0, .ref a_j), (1, .ref a_lo), (2, .int p_c)]) hx hb dX2_holds_37 hl (by decide) rfl (fun ls hl => ?_)
    refine lv_aload_n hx hb dX2_holds_39 rfl (lv_at hl 5 rfl) ?_
    refine va_get (D := G.1) (ci := 3) (v := .ref a_cd) (C := RX3) (T := TX3) (N := 4) hx hb hts inG_X3 hown hK hP 3 rfl rfl 3 (by decide) (hts _ fl_X2_44) (fun _ h9 => h9) rfl dX2_holds_40 ?_
    refine lv_iload hx hb dX2_holds_43 (lv_at hl 2 rfl) ?_
    refine va_iald hx hb hK hP 5 0 rfl rfl (i := k_a) (vp_in_iff.mpr ⟨by omega, by omega⟩) dX2_holds_45 ?_
    refine lv_sipush (v := 4095) hx hb dX2_holds_46 (by decide) ?_
    refine lv_iand hx hb dX2_holds_49 ?_
    have ha_8 := g_a4095 (f_cd k_a.toNatClampNeg)
    refine lv_istore (lv' := [(7, .int ((f_cd k_a.toNatClampNeg) &&& 4095)), (6, .int ((f_cd k_a.toNatClampNeg) >>> (12 &&& 31))), (3, .int k_t), (5, .int k_a), (4, .int (f_sr (p_c + 1).toNatClampNeg)), (0, .ref a_j), (1, .ref a_lo), (2, .int p_c)]) hx hb dX2_holds_50 hl (by decide) rfl (fun ls hl => ?_)
    refine lv_iload hx hb dX2_holds_52 (lv_at hl 1 rfl) ?_
    refine lv_if_eq (tgt := 63) hx hb dX2_holds_54 (by decide) (fun c_9 => ?_) (fun c_9 => ?_)
    ·
      have i_9 : ((f_cd k_a.toNatClampNeg) >>> (12 &&& 31)).toInt = 0 := by have z := g5_eq (a := ((f_cd k_a.toNatClampNeg) >>> (12 &&& 31)).toInt) (b := 0) (by rfl) (by decide) c_9; omega
      refine lv_iload_n hx hb dX2_holds_63 rfl (lv_at hl 2 rfl) ?_
      refine lv_aload_n hx hb dX2_holds_64 rfl (lv_at hl 5 rfl) ?_
      refine va_get (D := G.1) (ci := 2) (v := .ref a_sk) (C := RX2) (T := TX2) (N := 2) hx hb hts inG_X2 hown hK hP 0 rfl rfl 1 (by decide) (hts _ fl_X2_15) (fun _ h9 => h9) rfl dX2_holds_65 ?_
      refine va_alen hx hb hK hP 2 1 rfl rfl (v := 50) (by show Int32.ofNat 50 = 50; decide) dX2_holds_68 ?_
      refine lv_icmp_lt (tgt := 74) hx hb dX2_holds_69 (by decide) (fun c_10 => ?_) (fun c_10 => ?_)
      ·
        have i_10 : k_t.toInt < 50 := by have z := g5_lt (a := k_t.toInt) (b := 50) (by rfl) (by decide) c_10; omega
        refine lv_aload_n hx hb dX2_holds_74 rfl (lv_at hl 5 rfl) ?_
        refine va_get (D := G.1) (ci := 2) (v := .ref a_sk) (C := RX2) (T := TX2) (N := 2) hx hb hts inG_X2 hown hK hP 0 rfl rfl 1 (by decide) (hts _ fl_X2_15) (fun _ h9 => h9) rfl dX2_holds_75 ?_
        refine lv_iload_n hx hb dX2_holds_78 rfl (lv_at hl 2 rfl) ?_
        refine lv_iload hx hb dX2_holds_79 (lv_at hl 1 rfl) ?_
        refine lv_if_ne (tgt := 90) hx hb dX2_holds_81 (by decide) (fun c_11 => ?_) (fun c_11 => ?_)
        ·
          have i_11 : ((f_cd k_a.toNatClampNeg) >>> (12 &&& 31)).toInt ≠ 0 := by have z := g5_ne (a := ((f_cd k_a.toNatClampNeg) >>> (12 &&& 31)).toInt) (b := 0) (by rfl) (by decide) c_11; omega
          omega
        ·
          have i_11 : ((f_cd k_a.toNatClampNeg) >>> (12 &&& 31)).toInt = 0 := by have z := g5_neN (a := ((f_cd k_a.toNatClampNeg) >>> (12 &&& 31)).toInt) (b := 0) (by rfl) (by decide) c_11; omega
          refine lv_iload hx hb dX2_holds_84 (lv_at hl 0 rfl) ?_
          refine lv_i2l (v := ((f_cd k_a.toNatClampNeg) &&& 4095).toInt64) hx hb dX2_holds_86 rfl ?_
          refine lv_goto (tgt := 98) hx hb dX2_holds_87 (by decide) ?_
          refine va_last hx hb hK hP hD hS 2 1 rfl rfl (i := k_t) (x := ((f_cd k_a.toNatClampNeg) &&& 4095).toInt64) (vp_in_iff.mpr ⟨by omega, by omega⟩) dX2_holds_98 (fun H locs hP hD hS => ?_)
          refine g5_rs [(a_j, (oc2 a_as a_sk)), (a_as, (arI G 8 f_as)), (a_sk, (arJ G 50 (vp_updL k_k k_t.toNatClampNeg (((f_cd k_a.toNatClampNeg) &&& 4095).toInt64)))), (a_lo, (oc3 e_cl a_hd a_sr a_cd)), (a_sr, (arI G n_sr f_sr)), (a_cd, (arI G n_cd f_cd))] hP hD (fun hP hD => ?_)
          refine lv_iinc (v := (k_t + 1)) (lv' := [(3, .int (k_t + 1)), (7, .int ((f_cd k_a.toNatClampNeg) &&& 4095)), (6, .int ((f_cd k_a.toNatClampNeg) >>> (12 &&& 31))), (5, .int k_a), (4, .int (f_sr (p_c + 1).toNatClampNeg)), (0, .ref a_j), (1, .ref a_lo), (2, .int p_c)]) hx hb dX2_holds_99 hl (k := 2) rfl rfl (by decide) rfl (fun ls hl => ?_)
          have t_12 : (k_t + 1).toInt = k_t.toInt + 1 := g5_iadd (a := k_t.toInt) (b := 1) rfl (by decide) (by omega) (by omega)
          refine lv_goto (tgt := 237) hx hb dX2_holds_102 (by decide) ?_
          refine lv_iinc (v := (k_a + 1)) (lv' := [(5, .int (k_a + 1)), (3, .int (k_t + 1)), (7, .int ((f_cd k_a.toNatClampNeg) &&& 4095)), (6, .int ((f_cd k_a.toNatClampNeg) >>> (12 &&& 31))), (4, .int (f_sr (p_c + 1).toNatClampNeg)), (0, .ref a_j), (1, .ref a_lo), (2, .int p_c)]) hx hb dX2_holds_237 hl (k := 3) rfl rfl (by decide) rfl (fun ls hl => ?_)
          have t_13 : (k_a + 1).toInt = k_a.toInt + 1 := g5_iadd (a := k_a.toInt) (b := 1) rfl (by decide) (by omega) (by omega)
          refine lv_goto (tgt := 20) hx hb dX2_holds_240 (by decide) ?_
          exact ih_20_6 ((k_t + 1), (k_a + 1), (vp_updL k_k k_t.toNatClampNeg (((f_cd k_a.toNatClampNeg) &&& 4095).toInt64))) ls H locs (show Int.toNat (4096 - (k_a + 1).toInt) < Int.toNat (4096 - k_a.toInt) from g_up (show k_a.toInt < (k_a + 1).toInt by omega) (show k_a.toInt < 4096 by omega)) ⟨lv_sub hl [1, 0, 4, 5, 6, 7] rfl, hP, hD, hS, ⟨by omega, by omega⟩, ⟨by omega, by omega⟩⟩
      ·
        have i_10 : k_t.toInt ≥ 50 := by have z := g5_ltN (a := k_t.toInt) (b := 50) (by rfl) (by decide) c_10; omega
        refine lv_iconst (v := 0) hx hb dX2_holds_72 (by decide) ?_
        exact W.zret (v := 0) hx hb hr rfl (fun t ht hW => ⟨⟨0, [(a_j, (oc2 a_as a_sk)), (a_as, (arI G 8 f_as)), (a_sk, (arJ G 50 k_k)), (a_lo, (oc3 e_cl a_hd a_sr a_cd)), (a_sr, (arI G n_sr f_sr)), (a_cd, (arI G n_cd f_cd))], rfl, ⟨0, k_k, ⟨by have zc_o_r : (0 : Int32).toInt = 0 := (by decide); omega, by have zc_o_r : (0 : Int32).toInt = 0 := (by decide); omega⟩, rfl, rfl⟩, by rw [ht]; exact hP.sub [0, 1, 2, 3, 4, 5] rfl, hD.sub [0, 1, 2, 3, 4, 5] (by decide) rfl⟩, hS.F ht⟩) hS.2.2 dX2_holds_73
    ·
      have n_9 : gNe (((f_cd k_a.toNatClampNeg) >>> (12 &&& 31)).toInt) (0) := by have z := g5_eqN (a := ((f_cd k_a.toNatClampNeg) >>> (12 &&& 31)).toInt) (b := 0) (by rfl) (by decide) c_9; unfold gNe; omega
      refine lv_iload hx hb dX2_holds_57 (lv_at hl 1 rfl) ?_
      refine lv_iconst (v := 1) hx hb dX2_holds_59 (by decide) ?_
      refine lv_icmp_ne (tgt := 105) hx hb dX2_holds_60 (by decide) (fun c_14 => ?_) (fun c_14 => ?_)
      ·
        have n_14 : gNe (((f_cd k_a.toNatClampNeg) >>> (12 &&& 31)).toInt) (1) := by have z := g5_ne (a := ((f_cd k_a.toNatClampNeg) >>> (12 &&& 31)).toInt) (b := 1) (by rfl) (by decide) c_14; unfold gNe; omega
        refine lv_iload hx hb dX2_holds_105 (lv_at hl 1 rfl) ?_
        refine lv_bipush (v := 8) hx hb dX2_holds_107 (by decide) ?_
        refine lv_icmp_gt (tgt := 129) hx hb dX2_holds_109 (by decide) (fun c_15 => ?_) (fun c_15 => ?_)
        ·
          have i_15 : ((f_cd k_a.toNatClampNeg) >>> (12 &&& 31)).toInt > 8 := by have z := g5_gt (a := ((f_cd k_a.toNatClampNeg) >>> (12 &&& 31)).toInt) (b := 8) (by rfl) (by decide) c_15; omega
          refine lv_iload_n hx hb dX2_holds_129 rfl (lv_at hl 2 rfl) ?_
          refine lv_iconst (v := 1) hx hb dX2_holds_130 (by decide) ?_
          refine lv_icmp_ge (tgt := 136) hx hb dX2_holds_131 (by decide) (fun c_16 => ?_) (fun c_16 => ?_)
          ·
            have i_16 : k_t.toInt ≥ 1 := by have z := g5_ge (a := k_t.toInt) (b := 1) (by rfl) (by decide) c_16; omega
            refine lv_iload hx hb dX2_holds_136 (lv_at hl 1 rfl) ?_
            refine lv_bipush (v := 9) hx hb dX2_holds_138 (by decide) ?_
            refine lv_icmp_ne (tgt := 164) hx hb dX2_holds_140 (by decide) (fun c_17 => ?_) (fun c_17 => ?_)
            ·
              have n_17 : gNe (((f_cd k_a.toNatClampNeg) >>> (12 &&& 31)).toInt) (9) := by have z := g5_ne (a := ((f_cd k_a.toNatClampNeg) >>> (12 &&& 31)).toInt) (b := 9) (by rfl) (by decide) c_17; unfold gNe; omega
              have i_17 : ((f_cd k_a.toNatClampNeg) >>> (12 &&& 31)).toInt ≥ 10 := by have z := g5_ne (a := ((f_cd k_a.toNatClampNeg) >>> (12 &&& 31)).toInt) (b := 9) (by rfl) (by decide) c_17; omega
              refine lv_iload hx hb dX2_holds_164 (lv_at hl 1 rfl) ?_
              refine lv_bipush (v := 10) hx hb dX2_holds_166 (by decide) ?_
              refine lv_icmp_ne (tgt := 187) hx hb dX2_holds_168 (by decide) (fun c_18 => ?_) (fun c_18 => ?_)
              ·
                have n_18 : gNe (((f_cd k_a.toNatClampNeg) >>> (12 &&& 31)).toInt) (10) := by have z := g5_ne (a := ((f_cd k_a.toNatClampNeg) >>> (12 &&& 31)).toInt) (b := 10) (by rfl) (by decide) c_18; unfold gNe; omega
                have i_18 : ((f_cd k_a.toNatClampNeg) >>> (12 &&& 31)).toInt ≥ 11 := by have z := g5_ne (a := ((f_cd k_a.toNatClampNeg) >>> (12 &&& 31)).toInt) (b := 10) (by rfl) (by decide) c_18; omega
                refine lv_aload_n hx hb dX2_holds_187 rfl (lv_at hl 5 rfl) ?_
                refine va_get (D := G.1) (ci := 2) (v := .ref a_sk) (C := RX2) (T := TX2) (N := 2) hx hb hts inG_X2 hown hK hP 0 rfl rfl 1 (by decide) (hts _ fl_X2_15) (fun _ h9 => h9) rfl dX2_holds_188 ?_
                refine lv_iload_n hx hb dX2_holds_191 rfl (lv_at hl 2 rfl) ?_
                refine lv_iconst (v := 1) hx hb dX2_holds_192 (by decide) ?_
                refine lv_isub hx hb dX2_holds_193 ?_
                have t_19 : (k_t - 1).toInt = k_t.toInt - 1 := g5_isub (a := k_t.toInt) (b := 1) (by rfl) (by decide) (by omega) (by omega)
                refine va_lald hx hb hK hP 2 1 rfl rfl (i := (k_t - 1)) (vp_in_iff.mpr ⟨by omega, by omega⟩) dX2_holds_194 ?_
                refine lv_lconst (v := 0) hx hb dX2_holds_195 (by decide) ?_
                refine W.lcmp hx hb dX2_holds_196 ?_
                refine lv_if_eq (tgt := 204) hx hb dX2_holds_197 (by decide) (fun c_20 => ?_) (fun c_20 => ?_)
                ·
                  have i_20 : (lg_cmp (k_k (k_t - 1).toNatClampNeg) 0).toInt = 0 := by have z := g5_eq (a := (lg_cmp (k_k (k_t - 1).toNatClampNeg) 0).toInt) (b := 0) (by rfl) (by decide) c_20; omega
                  refine lv_iconst (v := 0) hx hb dX2_holds_204 (by decide) ?_
                  refine lv_iload hx hb dX2_holds_205 (lv_at hl 1 rfl) ?_
                  refine lv_bipush (v := 11) hx hb dX2_holds_207 (by decide) ?_
                  refine lv_icmp_ne (tgt := 216) hx hb dX2_holds_209 (by decide) (fun c_21 => ?_) (fun c_21 => ?_)
                  ·
                    have n_21 : gNe (((f_cd k_a.toNatClampNeg) >>> (12 &&& 31)).toInt) (11) := by have z := g5_ne (a := ((f_cd k_a.toNatClampNeg) >>> (12 &&& 31)).toInt) (b := 11) (by rfl) (by decide) c_21; unfold gNe; omega
                    have i_21 : ((f_cd k_a.toNatClampNeg) >>> (12 &&& 31)).toInt ≥ 12 := by have z := g5_ne (a := ((f_cd k_a.toNatClampNeg) >>> (12 &&& 31)).toInt) (b := 11) (by rfl) (by decide) c_21; omega
                    refine lv_iconst (v := 0) hx hb dX2_holds_216 (by decide) ?_
                    refine lv_icmp_ne (tgt := 234) hx hb dX2_holds_217 (by decide) (fun c_22 => ?_) (fun c_22 => ?_)
                    ·
                      exact absurd c_22 (by decide)
                    ·
                      refine lv_iload hx hb dX2_holds_220 (lv_at hl 3 rfl) ?_
                      refine lv_iload hx hb dX2_holds_222 (lv_at hl 0 rfl) ?_
                      refine lv_iconst (v := 1) hx hb dX2_holds_224 (by decide) ?_
                      refine lv_isub hx hb dX2_holds_225 ?_
                      have t_23 : (((f_cd k_a.toNatClampNeg) &&& 4095) - 1).toInt = ((f_cd k_a.toNatClampNeg) &&& 4095).toInt - 1 := g5_isub (a := ((f_cd k_a.toNatClampNeg) &&& 4095).toInt) (b := 1) (by rfl) (by decide) (by omega) (by omega)
                      refine va_mmax hx hb (hml.trans hl.1.symm) hown (hts _ ml_X2_51) (hts _ st_Math_maxI) (hts _ ini_Math) (hts _ cd_Math_maxI) (Nat.le_of_ble_eq_true rfl) (by decide) (Nat.le_of_ble_eq_true rfl) (Nat.le_of_ble_eq_true rfl) dX2_holds_226 ?_
                      have hm_24 := g_maxI k_a (((f_cd k_a.toNatClampNeg) &&& 4095) - 1)
                      refine lv_istore (lv' := [(5, .int (if k_a < (((f_cd k_a.toNatClampNeg) &&& 4095) - 1) then (((f_cd k_a.toNatClampNeg) &&& 4095) - 1) else k_a)), (7, .int ((f_cd k_a.toNatClampNeg) &&& 4095)), (6, .int ((f_cd k_a.toNatClampNeg) >>> (12 &&& 31))), (3, .int k_t), (4, .int (f_sr (p_c + 1).toNatClampNeg)), (0, .ref a_j), (1, .ref a_lo), (2, .int p_c)]) hx hb dX2_holds_229 hl (by decide) rfl (fun ls hl => ?_)
                      refine lv_goto (tgt := 237) hx hb dX2_holds_231 (by decide) ?_
                      refine lv_iinc (v := ((if k_a < (((f_cd k_a.toNatClampNeg) &&& 4095) - 1) then (((f_cd k_a.toNatClampNeg) &&& 4095) - 1) else k_a) + 1)) (lv' := [(5, .int ((if k_a < (((f_cd k_a.toNatClampNeg) &&& 4095) - 1) then (((f_cd k_a.toNatClampNeg) &&& 4095) - 1) else k_a) + 1)), (7, .int ((f_cd k_a.toNatClampNeg) &&& 4095)), (6, .int ((f_cd k_a.toNatClampNeg) >>> (12 &&& 31))), (3, .int k_t), (4, .int (f_sr (p_c + 1).toNatClampNeg)), (0, .ref a_j), (1, .ref a_lo), (2, .int p_c)]) hx hb dX2_holds_237 hl (k := 0) rfl rfl (by decide) rfl (fun ls hl => ?_)
                      have t_25 : ((if k_a < (((f_cd k_a.toNatClampNeg) &&& 4095) - 1) then (((f_cd k_a.toNatClampNeg) &&& 4095) - 1) else k_a) + 1).toInt = (if k_a < (((f_cd k_a.toNatClampNeg) &&& 4095) - 1) then (((f_cd k_a.toNatClampNeg) &&& 4095) - 1) else k_a).toInt + 1 := g5_iadd (a := (if k_a < (((f_cd k_a.toNatClampNeg) &&& 4095) - 1) then (((f_cd k_a.toNatClampNeg) &&& 4095) - 1) else k_a).toInt) (b := 1) rfl (by decide) (by omega) (by omega)
                      refine lv_goto (tgt := 20) hx hb dX2_holds_240 (by decide) ?_
                      exact ih_20_6 (k_t, ((if k_a < (((f_cd k_a.toNatClampNeg) &&& 4095) - 1) then (((f_cd k_a.toNatClampNeg) &&& 4095) - 1) else k_a) + 1), k_k) ls H locs (show Int.toNat (4096 - ((if k_a < (((f_cd k_a.toNatClampNeg) &&& 4095) - 1) then (((f_cd k_a.toNatClampNeg) &&& 4095) - 1) else k_a) + 1).toInt) < Int.toNat (4096 - k_a.toInt) from g_up (show k_a.toInt < ((if k_a < (((f_cd k_a.toNatClampNeg) &&& 4095) - 1) then (((f_cd k_a.toNatClampNeg) &&& 4095) - 1) else k_a) + 1).toInt by omega) (show k_a.toInt < 4096 by omega)) ⟨lv_sub hl [3, 0, 4, 5, 6, 7] rfl, hP, hD, hS, i_4, ⟨by omega, by omega⟩⟩
                  ·
                    have i_21 : ((f_cd k_a.toNatClampNeg) >>> (12 &&& 31)).toInt = 11 := by have z := g5_neN (a := ((f_cd k_a.toNatClampNeg) >>> (12 &&& 31)).toInt) (b := 11) (by rfl) (by decide) c_21; omega
                    refine lv_iconst (v := 1) hx hb dX2_holds_212 (by decide) ?_
                    refine lv_goto (tgt := 217) hx hb dX2_holds_213 (by decide) ?_
                    refine lv_icmp_ne (tgt := 234) hx hb dX2_holds_217 (by decide) (fun c_26 => ?_) (fun c_26 => ?_)
                    ·
                      obtain ⟨y27, hy_27, t_27⟩ := g_incN k_t (-1) (by decide) (by omega) (by omega)
                      have t_27 : y27.toInt = k_t.toInt + (-1) := t_27
                      refine lv_iinc (v := y27) (lv' := [(3, .int y27), (7, .int ((f_cd k_a.toNatClampNeg) &&& 4095)), (6, .int ((f_cd k_a.toNatClampNeg) >>> (12 &&& 31))), (5, .int k_a), (4, .int (f_sr (p_c + 1).toNatClampNeg)), (0, .ref a_j), (1, .ref a_lo), (2, .int p_c)]) hx hb dX2_holds_234 hl (k := 2) rfl hy_27 (by decide) rfl (fun ls hl => ?_)
                      refine lv_iinc (v := (k_a + 1)) (lv' := [(5, .int (k_a + 1)), (3, .int y27), (7, .int ((f_cd k_a.toNatClampNeg) &&& 4095)), (6, .int ((f_cd k_a.toNatClampNeg) >>> (12 &&& 31))), (4, .int (f_sr (p_c + 1).toNatClampNeg)), (0, .ref a_j), (1, .ref a_lo), (2, .int p_c)]) hx hb dX2_holds_237 hl (k := 3) rfl rfl (by decide) rfl (fun ls hl => ?_)
                      have t_28 : (k_a + 1).toInt = k_a.toInt + 1 := g5_iadd (a := k_a.toInt) (b := 1) rfl (by decide) (by omega) (by omega)
                      refine lv_goto (tgt := 20) hx hb dX2_holds_240 (by decide) ?_
                      exact ih_20_6 (y27, (k_a + 1), k_k) ls H locs (show Int.toNat (4096 - (k_a + 1).toInt) < Int.toNat (4096 - k_a.toInt) from g_up (show k_a.toInt < (k_a + 1).toInt by omega) (show k_a.toInt < 4096 by omega)) ⟨lv_sub hl [1, 0, 4, 5, 6, 7] rfl, hP, hD, hS, ⟨by omega, by omega⟩, ⟨by omega, by omega⟩⟩
                    ·
                      exact absurd c_26 (by decide)
                ·
                  have n_20 : gNe ((lg_cmp (k_k (k_t - 1).toNatClampNeg) 0).toInt) (0) := by have z := g5_eqN (a := (lg_cmp (k_k (k_t - 1).toNatClampNeg) 0).toInt) (b := 0) (by rfl) (by decide) c_20; unfold gNe; omega
                  refine lv_iconst (v := 1) hx hb dX2_holds_200 (by decide) ?_
                  refine lv_goto (tgt := 205) hx hb dX2_holds_201 (by decide) ?_
                  refine lv_iload hx hb dX2_holds_205 (lv_at hl 1 rfl) ?_
                  refine lv_bipush (v := 11) hx hb dX2_holds_207 (by decide) ?_
                  refine lv_icmp_ne (tgt := 216) hx hb dX2_holds_209 (by decide) (fun c_29 => ?_) (fun c_29 => ?_)
                  ·
                    have n_29 : gNe (((f_cd k_a.toNatClampNeg) >>> (12 &&& 31)).toInt) (11) := by have z := g5_ne (a := ((f_cd k_a.toNatClampNeg) >>> (12 &&& 31)).toInt) (b := 11) (by rfl) (by decide) c_29; unfold gNe; omega
                    have i_29 : ((f_cd k_a.toNatClampNeg) >>> (12 &&& 31)).toInt ≥ 12 := by have z := g5_ne (a := ((f_cd k_a.toNatClampNeg) >>> (12 &&& 31)).toInt) (b := 11) (by rfl) (by decide) c_29; omega
                    refine lv_iconst (v := 0) hx hb dX2_holds_216 (by decide) ?_
                    refine lv_icmp_ne (tgt := 234) hx hb dX2_holds_217 (by decide) (fun c_30 => ?_) (fun c_30 => ?_)
                    ·
                      obtain ⟨y31, hy_31, t_31⟩ := g_incN k_t (-1) (by decide) (by omega) (by omega)
                      have t_31 : y31.toInt = k_t.toInt + (-1) := t_31
                      refine lv_iinc (v := y31) (lv' := [(3, .int y31), (7, .int ((f_cd k_a.toNatClampNeg) &&& 4095)), (6, .int ((f_cd k_a.toNatClampNeg) >>> (12 &&& 31))), (5, .int k_a), (4, .int (f_sr (p_c + 1).toNatClampNeg)), (0, .ref a_j), (1, .ref a_lo), (2, .int p_c)]) hx hb dX2_holds_234 hl (k := 2) rfl hy_31 (by decide) rfl (fun ls hl => ?_)
                      refine lv_iinc (v := (k_a + 1)) (lv' := [(5, .int (k_a + 1)), (3, .int y31), (7, .int ((f_cd k_a.toNatClampNeg) &&& 4095)), (6, .int ((f_cd k_a.toNatClampNeg) >>> (12 &&& 31))), (4, .int (f_sr (p_c + 1).toNatClampNeg)), (0, .ref a_j), (1, .ref a_lo), (2, .int p_c)]) hx hb dX2_holds_237 hl (k := 3) rfl rfl (by decide) rfl (fun ls hl => ?_)
                      have t_32 : (k_a + 1).toInt = k_a.toInt + 1 := g5_iadd (a := k_a.toInt) (b := 1) rfl (by decide) (by omega) (by omega)
                      refine lv_goto (tgt := 20) hx hb dX2_holds_240 (by decide) ?_
                      exact ih_20_6 (y31, (k_a + 1), k_k) ls H locs (show Int.toNat (4096 - (k_a + 1).toInt) < Int.toNat (4096 - k_a.toInt) from g_up (show k_a.toInt < (k_a + 1).toInt by omega) (show k_a.toInt < 4096 by omega)) ⟨lv_sub hl [1, 0, 4, 5, 6, 7] rfl, hP, hD, hS, ⟨by omega, by omega⟩, ⟨by omega, by omega⟩⟩
                    ·
                      exact absurd c_30 (by decide)
                  ·
                    have i_29 : ((f_cd k_a.toNatClampNeg) >>> (12 &&& 31)).toInt = 11 := by have z := g5_neN (a := ((f_cd k_a.toNatClampNeg) >>> (12 &&& 31)).toInt) (b := 11) (by rfl) (by decide) c_29; omega
                    refine lv_iconst (v := 1) hx hb dX2_holds_212 (by decide) ?_
                    refine lv_goto (tgt := 217) hx hb dX2_holds_213 (by decide) ?_
                    refine lv_icmp_ne (tgt := 234) hx hb dX2_holds_217 (by decide) (fun c_33 => ?_) (fun c_33 => ?_)
                    ·
                      exact absurd c_33 (by decide)
                    ·
                      refine lv_iload hx hb dX2_holds_220 (lv_at hl 3 rfl) ?_
                      refine lv_iload hx hb dX2_holds_222 (lv_at hl 0 rfl) ?_
                      refine lv_iconst (v := 1) hx hb dX2_holds_224 (by decide) ?_
                      refine lv_isub hx hb dX2_holds_225 ?_
                      have t_34 : (((f_cd k_a.toNatClampNeg) &&& 4095) - 1).toInt = ((f_cd k_a.toNatClampNeg) &&& 4095).toInt - 1 := g5_isub (a := ((f_cd k_a.toNatClampNeg) &&& 4095).toInt) (b := 1) (by rfl) (by decide) (by omega) (by omega)
                      refine va_mmax hx hb (hml.trans hl.1.symm) hown (hts _ ml_X2_51) (hts _ st_Math_maxI) (hts _ ini_Math) (hts _ cd_Math_maxI) (Nat.le_of_ble_eq_true rfl) (by decide) (Nat.le_of_ble_eq_true rfl) (Nat.le_of_ble_eq_true rfl) dX2_holds_226 ?_
                      have hm_35 := g_maxI k_a (((f_cd k_a.toNatClampNeg) &&& 4095) - 1)
                      refine lv_istore (lv' := [(5, .int (if k_a < (((f_cd k_a.toNatClampNeg) &&& 4095) - 1) then (((f_cd k_a.toNatClampNeg) &&& 4095) - 1) else k_a)), (7, .int ((f_cd k_a.toNatClampNeg) &&& 4095)), (6, .int ((f_cd k_a.toNatClampNeg) >>> (12 &&& 31))), (3, .int k_t), (4, .int (f_sr (p_c + 1).toNatClampNeg)), (0, .ref a_j), (1, .ref a_lo), (2, .int p_c)]) hx hb dX2_holds_229 hl (by decide) rfl (fun ls hl => ?_)
                      refine lv_goto (tgt := 237) hx hb dX2_holds_231 (by decide) ?_
                      refine lv_iinc (v := ((if k_a < (((f_cd k_a.toNatClampNeg) &&& 4095) - 1) then (((f_cd k_a.toNatClampNeg) &&& 4095) - 1) else k_a) + 1)) (lv' := [(5, .int ((if k_a < (((f_cd k_a.toNatClampNeg) &&& 4095) - 1) then (((f_cd k_a.toNatClampNeg) &&& 4095) - 1) else k_a) + 1)), (7, .int ((f_cd k_a.toNatClampNeg) &&& 4095)), (6, .int ((f_cd k_a.toNatClampNeg) >>> (12 &&& 31))), (3, .int k_t), (4, .int (f_sr (p_c + 1).toNatClampNeg)), (0, .ref a_j), (1, .ref a_lo), (2, .int p_c)]) hx hb dX2_holds_237 hl (k := 0) rfl rfl (by decide) rfl (fun ls hl => ?_)
                      have t_36 : ((if k_a < (((f_cd k_a.toNatClampNeg) &&& 4095) - 1) then (((f_cd k_a.toNatClampNeg) &&& 4095) - 1) else k_a) + 1).toInt = (if k_a < (((f_cd k_a.toNatClampNeg) &&& 4095) - 1) then (((f_cd k_a.toNatClampNeg) &&& 4095) - 1) else k_a).toInt + 1 := g5_iadd (a := (if k_a < (((f_cd k_a.toNatClampNeg) &&& 4095) - 1) then (((f_cd k_a.toNatClampNeg) &&& 4095) - 1) else k_a).toInt) (b := 1) rfl (by decide) (by omega) (by omega)
                      refine lv_goto (tgt := 20) hx hb dX2_holds_240 (by decide) ?_
                      exact ih_20_6 (k_t, ((if k_a < (((f_cd k_a.toNatClampNeg) &&& 4095) - 1) then (((f_cd k_a.toNatClampNeg) &&& 4095) - 1) else k_a) + 1), k_k) ls H locs (show Int.toNat (4096 - ((if k_a < (((f_cd k_a.toNatClampNeg) &&& 4095) - 1) then (((f_cd k_a.toNatClampNeg) &&& 4095) - 1) else k_a) + 1).toInt) < Int.toNat (4096 - k_a.toInt) from g_up (show k_a.toInt < ((if k_a < (((f_cd k_a.toNatClampNeg) &&& 4095) - 1) then (((f_cd k_a.toNatClampNeg) &&& 4095) - 1) else k_a) + 1).toInt by omega) (show k_a.toInt < 4096 by omega)) ⟨lv_sub hl [3, 0, 4, 5, 6, 7] rfl, hP, hD, hS, i_4, ⟨by omega, by omega⟩⟩
              ·
                have i_18 : ((f_cd k_a.toNatClampNeg) >>> (12 &&& 31)).toInt = 10 := by have z := g5_neN (a := ((f_cd k_a.toNatClampNeg) >>> (12 &&& 31)).toInt) (b := 10) (by rfl) (by decide) c_18; omega
                obtain ⟨y37, hy_37, t_37⟩ := g_incN k_t (-1) (by decide) (by omega) (by omega)
                have t_37 : y37.toInt = k_t.toInt + (-1) := t_37
                refine lv_iinc (v := y37) (lv' := [(3, .int y37), (7, .int ((f_cd k_a.toNatClampNeg) &&& 4095)), (6, .int ((f_cd k_a.toNatClampNeg) >>> (12 &&& 31))), (5, .int k_a), (4, .int (f_sr (p_c + 1).toNatClampNeg)), (0, .ref a_j), (1, .ref a_lo), (2, .int p_c)]) hx hb dX2_holds_171 hl (k := 2) rfl hy_37 (by decide) rfl (fun ls hl => ?_)
                refine lv_aload_n hx hb dX2_holds_174 rfl (lv_at hl 5 rfl) ?_
                refine va_get (D := G.1) (ci := 2) (v := .ref a_sk) (C := RX2) (T := TX2) (N := 2) hx hb hts inG_X2 hown hK hP 0 rfl rfl 1 (by decide) (hts _ fl_X2_15) (fun _ h9 => h9) rfl dX2_holds_175 ?_
                refine lv_iload_n hx hb dX2_holds_178 rfl (lv_at hl 0 rfl) ?_
                refine va_lald hx hb hK hP 2 1 rfl rfl (i := y37) (vp_in_iff.mpr ⟨by omega, by omega⟩) dX2_holds_179 ?_
                refine lv_lconst (v := 0) hx hb dX2_holds_180 (by decide) ?_
                refine W.lcmp hx hb dX2_holds_181 ?_
                refine lv_if_ne (tgt := 237) hx hb dX2_holds_182 (by decide) (fun c_38 => ?_) (fun c_38 => ?_)
                ·
                  have n_38 : gNe ((lg_cmp (k_k y37.toNatClampNeg) 0).toInt) (0) := by have z := g5_ne (a := (lg_cmp (k_k y37.toNatClampNeg) 0).toInt) (b := 0) (by rfl) (by decide) c_38; unfold gNe; omega
                  refine lv_iinc (v := (k_a + 1)) (lv' := [(5, .int (k_a + 1)), (3, .int y37), (7, .int ((f_cd k_a.toNatClampNeg) &&& 4095)), (6, .int ((f_cd k_a.toNatClampNeg) >>> (12 &&& 31))), (4, .int (f_sr (p_c + 1).toNatClampNeg)), (0, .ref a_j), (1, .ref a_lo), (2, .int p_c)]) hx hb dX2_holds_237 hl (k := 3) rfl rfl (by decide) rfl (fun ls hl => ?_)
                  have t_39 : (k_a + 1).toInt = k_a.toInt + 1 := g5_iadd (a := k_a.toInt) (b := 1) rfl (by decide) (by omega) (by omega)
                  refine lv_goto (tgt := 20) hx hb dX2_holds_240 (by decide) ?_
                  exact ih_20_6 (y37, (k_a + 1), k_k) ls H locs (show Int.toNat (4096 - (k_a + 1).toInt) < Int.toNat (4096 - k_a.toInt) from g_up (show k_a.toInt < (k_a + 1).toInt by omega) (show k_a.toInt < 4096 by omega)) ⟨lv_sub hl [1, 0, 4, 5, 6, 7] rfl, hP, hD, hS, ⟨by omega, by omega⟩, ⟨by omega, by omega⟩⟩
                ·
                  have i_38 : (lg_cmp (k_k y37.toNatClampNeg) 0).toInt = 0 := by have z := g5_neN (a := (lg_cmp (k_k y37.toNatClampNeg) 0).toInt) (b := 0) (by rfl) (by decide) c_38; omega
                  refine lv_iconst (v := 0) hx hb dX2_holds_185 (by decide) ?_
                  exact W.zret (v := 0) hx hb hr rfl (fun t ht hW => ⟨⟨0, [(a_j, (oc2 a_as a_sk)), (a_as, (arI G 8 f_as)), (a_sk, (arJ G 50 k_k)), (a_lo, (oc3 e_cl a_hd a_sr a_cd)), (a_sr, (arI G n_sr f_sr)), (a_cd, (arI G n_cd f_cd))], rfl, ⟨0, k_k, ⟨by have zc_o_r : (0 : Int32).toInt = 0 := (by decide); omega, by have zc_o_r : (0 : Int32).toInt = 0 := (by decide); omega⟩, rfl, rfl⟩, by rw [ht]; exact hP.sub [0, 1, 2, 3, 4, 5] rfl, hD.sub [0, 1, 2, 3, 4, 5] (by decide) rfl⟩, hS.F ht⟩) hS.2.2 dX2_holds_186
            ·
              have i_17 : ((f_cd k_a.toNatClampNeg) >>> (12 &&& 31)).toInt = 9 := by have z := g5_neN (a := ((f_cd k_a.toNatClampNeg) >>> (12 &&& 31)).toInt) (b := 9) (by rfl) (by decide) c_17; omega
              refine lv_aload_n hx hb dX2_holds_143 rfl (lv_at hl 5 rfl) ?_
              refine va_get (D := G.1) (ci := 2) (v := .ref a_sk) (C := RX2) (T := TX2) (N := 2) hx hb hts inG_X2 hown hK hP 0 rfl rfl 1 (by decide) (hts _ fl_X2_15) (fun _ h9 => h9) rfl dX2_holds_144 ?_
              refine lv_iload_n hx hb dX2_holds_147 rfl (lv_at hl 2 rfl) ?_
              refine lv_iconst (v := 1) hx hb dX2_holds_148 (by decide) ?_
              refine lv_isub hx hb dX2_holds_149 ?_
              have t_40 : (k_t - 1).toInt = k_t.toInt - 1 := g5_isub (a := k_t.toInt) (b := 1) (by rfl) (by decide) (by omega) (by omega)
              refine lv_lconst (v := 1) hx hb dX2_holds_150 (by decide) ?_
              refine lv_aload_n hx hb dX2_holds_151 rfl (lv_at hl 5 rfl) ?_
              refine va_get (D := G.1) (ci := 2) (v := .ref a_sk) (C := RX2) (T := TX2) (N := 2) hx hb hts inG_X2 hown hK hP 0 rfl rfl 1 (by decide) (hts _ fl_X2_15) (fun _ h9 => h9) rfl dX2_holds_152 ?_
              refine lv_iload_n hx hb dX2_holds_155 rfl (lv_at hl 2 rfl) ?_
              refine lv_iconst (v := 1) hx hb dX2_holds_156 (by decide) ?_
              refine lv_isub hx hb dX2_holds_157 ?_
              have t_41 : (k_t - 1).toInt = k_t.toInt - 1 := g5_isub (a := k_t.toInt) (b := 1) (by rfl) (by decide) (by omega) (by omega)
              refine va_lald hx hb hK hP 2 1 rfl rfl (i := (k_t - 1)) (vp_in_iff.mpr ⟨by omega, by omega⟩) dX2_holds_158 ?_
              refine lv_lsub hx hb dX2_holds_159 ?_
              refine va_last hx hb hK hP hD hS 2 1 rfl rfl (i := (k_t - 1)) (x := (1 - (k_k (k_t - 1).toNatClampNeg))) (vp_in_iff.mpr ⟨by omega, by omega⟩) dX2_holds_160 (fun H locs hP hD hS => ?_)
              refine g5_rs [(a_j, (oc2 a_as a_sk)), (a_as, (arI G 8 f_as)), (a_sk, (arJ G 50 (vp_updL k_k (k_t - 1).toNatClampNeg (1 - (k_k (k_t - 1).toNatClampNeg))))), (a_lo, (oc3 e_cl a_hd a_sr a_cd)), (a_sr, (arI G n_sr f_sr)), (a_cd, (arI G n_cd f_cd))] hP hD (fun hP hD => ?_)
              refine lv_goto (tgt := 237) hx hb dX2_holds_161 (by decide) ?_
              refine lv_iinc (v := (k_a + 1)) (lv' := [(5, .int (k_a + 1)), (7, .int ((f_cd k_a.toNatClampNeg) &&& 4095)), (6, .int ((f_cd k_a.toNatClampNeg) >>> (12 &&& 31))), (3, .int k_t), (4, .int (f_sr (p_c + 1).toNatClampNeg)), (0, .ref a_j), (1, .ref a_lo), (2, .int p_c)]) hx hb dX2_holds_237 hl (k := 3) rfl rfl (by decide) rfl (fun ls hl => ?_)
              have t_42 : (k_a + 1).toInt = k_a.toInt + 1 := g5_iadd (a := k_a.toInt) (b := 1) rfl (by decide) (by omega) (by omega)
              refine lv_goto (tgt := 20) hx hb dX2_holds_240 (by decide) ?_
              exact ih_20_6 (k_t, (k_a + 1), (vp_updL k_k (k_t - 1).toNatClampNeg (1 - (k_k (k_t - 1).toNatClampNeg)))) ls H locs (show Int.toNat (4096 - (k_a + 1).toInt) < Int.toNat (4096 - k_a.toInt) from g_up (show k_a.toInt < (k_a + 1).toInt by omega) (show k_a.toInt < 4096 by omega)) ⟨lv_sub hl [3, 0, 4, 5, 6, 7] rfl, hP, hD, hS, i_4, ⟨by omega, by omega⟩⟩
          ·
            have i_16 : k_t.toInt < 1 := by have z := g5_geN (a := k_t.toInt) (b := 1) (by rfl) (by decide) c_16; omega
            refine lv_iconst (v := 0) hx hb dX2_holds_134 (by decide) ?_
            exact W.zret (v := 0) hx hb hr rfl (fun t ht hW => ⟨⟨0, [(a_j, (oc2 a_as a_sk)), (a_as, (arI G 8 f_as)), (a_sk, (arJ G 50 k_k)), (a_lo, (oc3 e_cl a_hd a_sr a_cd)), (a_sr, (arI G n_sr f_sr)), (a_cd, (arI G n_cd f_cd))], rfl, ⟨0, k_k, ⟨by have zc_o_r : (0 : Int32).toInt = 0 := (by decide); omega, by have zc_o_r : (0 : Int32).toInt = 0 := (by decide); omega⟩, rfl, rfl⟩, by rw [ht]; exact hP.sub [0, 1, 2, 3, 4, 5] rfl, hD.sub [0, 1, 2, 3, 4, 5] (by decide) rfl⟩, hS.F ht⟩) hS.2.2 dX2_holds_135
        ·
          have i_15 : ((f_cd k_a.toNatClampNeg) >>> (12 &&& 31)).toInt ≤ 8 := by have z := g5_gtN (a := ((f_cd k_a.toNatClampNeg) >>> (12 &&& 31)).toInt) (b := 8) (by rfl) (by decide) c_15; omega
          obtain ⟨y43, hy_43, t_43⟩ := g_incN k_t (-1) (by decide) (by omega) (by omega)
          have t_43 : y43.toInt = k_t.toInt + (-1) := t_43
          refine lv_iinc (v := y43) (lv' := [(3, .int y43), (7, .int ((f_cd k_a.toNatClampNeg) &&& 4095)), (6, .int ((f_cd k_a.toNatClampNeg) >>> (12 &&& 31))), (5, .int k_a), (4, .int (f_sr (p_c + 1).toNatClampNeg)), (0, .ref a_j), (1, .ref a_lo), (2, .int p_c)]) hx hb dX2_holds_112 hl (k := 2) rfl hy_43 (by decide) rfl (fun ls hl => ?_)
          refine lv_aload_n hx hb dX2_holds_115 rfl (lv_at hl 5 rfl) ?_
          refine lv_iload hx hb dX2_holds_116 (lv_at hl 2 rfl) ?_
          refine lv_iload_n hx hb dX2_holds_118 rfl (lv_at hl 0 rfl) ?_
          refine lv_iconst (v := 1) hx hb dX2_holds_119 (by decide) ?_
          refine lv_isub hx hb dX2_holds_120 ?_
          have t_44 : (y43 - 1).toInt = y43.toInt - 1 := g5_isub (a := y43.toInt) (b := 1) (by rfl) (by decide) (by omega) (by omega)
          obtain ⟨hPc, hDc, hFc⟩ := g5_sub3 (wc := [(a_j, (oc2 a_as a_sk)), (a_sk, (arJ G 50 k_k))]) hP hD hS hA [0, 2] (by decide) rfl
          refine va_calli (va_runV (As := [.int ((f_cd k_a.toNatClampNeg) >>> (12 &&& 31)), .int (y43 - 1)]) (rest := []) ⟨hx, hb, hml, hown, hts⟩ (j_combine l G a_j a_sk a_as H.size ((f_cd k_a.toNatClampNeg) >>> (12 &&& 31)) (y43 - 1) k_k ⟨by omega, by omega⟩) (cwV 2 hts gV_X2_47 rfl rfl rfl hv_X2_combine ⟨Nat.le_of_ble_eq_true rfl, Nat.le_of_ble_eq_true rfl⟩) (g5_preV hPc hK hDc hN hT hS hFc (ci := 2) (q0 := 0) rfl rfl) rfl rfl hl.1 rfl (lv_room (Nat.le_of_ble_eq_true rfl)) dX2_holds_121 ⟨Nat.le_of_ble_eq_true rfl, Nat.le_of_ble_eq_true rfl⟩) hS (fun q _ h => hFc q h) hFc (fun r u t H1 locs ht hvm hw hB hz1 hk1 hS => ?_)
          obtain ⟨hP1, hD1⟩ := hB
          rw [ht] at hP1
          obtain ⟨z47, z48, i_45, i_46, y49, rfl⟩ := hw
          have i_45 : 0 ≤ z47.toInt ∧ z47.toInt ≤ 1 := i_45
          have i_46 : z47.toInt = 0 ∨ 0 ≤ (y43 - 1).toInt := i_46
          obtain ⟨hP, hD⟩ := va_join (wr := [(a_as, (arI G 8 f_as)), (a_lo, (oc3 e_cl a_hd a_sr a_cd)), (a_sr, (arI G n_sr f_sr)), (a_cd, (arI G n_cd f_cd))]) hP hD [0, 2] [1, 3, 4, 5] rfl rfl (by decide) (by decide) hk1 hFc hP1 hD1
          generalize H1 = H at hP hS ⊢
          refine g5_rs [(a_as, (arI G 8 f_as)), (a_lo, (oc3 e_cl a_hd a_sr a_cd)), (a_sr, (arI G n_sr f_sr)), (a_cd, (arI G n_cd f_cd)), (a_j, (oc2 a_as a_sk)), (a_sk, (arJ G 50 z48))] hP hD (fun hP hD => ?_)
          refine g5_ti (v := z47) y49 ?_
          refine lv_if_ne (tgt := 237) hx hb dX2_holds_124 (by decide) (fun c_50 => ?_) (fun c_50 => ?_)
          ·
            have n_50 : gNe (z47.toInt) (0) := by have z := g5_ne (a := z47.toInt) (b := 0) (by rfl) (by decide) c_50; unfold gNe; omega
            have i_50 : z47.toInt ≥ 1 := by have z := g5_ne (a := z47.toInt) (b := 0) (by rfl) (by decide) c_50; omega
            refine lv_iinc (v := (k_a + 1)) (lv' := [(5, .int (k_a + 1)), (3, .int y43), (7, .int ((f_cd k_a.toNatClampNeg) &&& 4095)), (6, .int ((f_cd k_a.toNatClampNeg) >>> (12 &&& 31))), (4, .int (f_sr (p_c + 1).toNatClampNeg)), (0, .ref a_j), (1, .ref a_lo), (2, .int p_c)]) hx hb dX2_holds_237 hl (k := 3) rfl rfl (by decide) rfl (fun ls hl => ?_)
            have t_51 : (k_a + 1).toInt = k_a.toInt + 1 := g5_iadd (a := k_a.toInt) (b := 1) rfl (by decide) (by omega) (by omega)
            refine lv_goto (tgt := 20) hx hb dX2_holds_240 (by decide) ?_
            exact ih_20_6 (y43, (k_a + 1), z48) ls H locs (show Int.toNat (4096 - (k_a + 1).toInt) < Int.toNat (4096 - k_a.toInt) from g_up (show k_a.toInt < (k_a + 1).toInt by omega) (show k_a.toInt < 4096 by omega)) ⟨lv_sub hl [1, 0, 4, 5, 6, 7] rfl, hP.sub [4, 0, 5, 1, 2, 3] rfl, hD.sub [4, 0, 5, 1, 2, 3] (by decide) rfl, hS, ⟨by omega, by omega⟩, ⟨by omega, by omega⟩⟩
          ·
            have i_50 : z47.toInt = 0 := by have z := g5_neN (a := z47.toInt) (b := 0) (by rfl) (by decide) c_50; omega
            refine lv_iconst (v := 0) hx hb dX2_holds_127 (by decide) ?_
            exact W.zret (v := 0) hx hb hr rfl (fun t ht hW => ⟨⟨0, [(a_j, (oc2 a_as a_sk)), (a_as, (arI G 8 f_as)), (a_sk, (arJ G 50 z48)), (a_lo, (oc3 e_cl a_hd a_sr a_cd)), (a_sr, (arI G n_sr f_sr)), (a_cd, (arI G n_cd f_cd))], rfl, ⟨0, z48, ⟨by have zc_o_r : (0 : Int32).toInt = 0 := (by decide); omega, by have zc_o_r : (0 : Int32).toInt = 0 := (by decide); omega⟩, rfl, rfl⟩, by rw [ht]; exact hP.sub [4, 0, 5, 1, 2, 3] rfl, hD.sub [4, 0, 5, 1, 2, 3] (by decide) rfl⟩, hS.F ht⟩) hS.2.2 dX2_holds_128
      ·
        have i_14 : ((f_cd k_a.toNatClampNeg) >>> (12 &&& 31)).toInt = 1 := by have z := g5_neN (a := ((f_cd k_a.toNatClampNeg) >>> (12 &&& 31)).toInt) (b := 1) (by rfl) (by decide) c_14; omega
        refine lv_iload_n hx hb dX2_holds_63 rfl (lv_at hl 2 rfl) ?_
        refine lv_aload_n hx hb dX2_holds_64 rfl (lv_at hl 5 rfl) ?_
        refine va_get (D := G.1) (ci := 2) (v := .ref a_sk) (C := RX2) (T := TX2) (N := 2) hx hb hts inG_X2 hown hK hP 0 rfl rfl 1 (by decide) (hts _ fl_X2_15) (fun _ h9 => h9) rfl dX2_holds_65 ?_
        refine va_alen hx hb hK hP 2 1 rfl rfl (v := 50) (by show Int32.ofNat 50 = 50; decide) dX2_holds_68 ?_
        refine lv_icmp_lt (tgt := 74) hx hb dX2_holds_69 (by decide) (fun c_52 => ?_) (fun c_52 => ?_)
        ·
          have i_52 : k_t.toInt < 50 := by have z := g5_lt (a := k_t.toInt) (b := 50) (by rfl) (by decide) c_52; omega
          refine lv_aload_n hx hb dX2_holds_74 rfl (lv_at hl 5 rfl) ?_
          refine va_get (D := G.1) (ci := 2) (v := .ref a_sk) (C := RX2) (T := TX2) (N := 2) hx hb hts inG_X2 hown hK hP 0 rfl rfl 1 (by decide) (hts _ fl_X2_15) (fun _ h9 => h9) rfl dX2_holds_75 ?_
          refine lv_iload_n hx hb dX2_holds_78 rfl (lv_at hl 2 rfl) ?_
          refine lv_iload hx hb dX2_holds_79 (lv_at hl 1 rfl) ?_
          refine lv_if_ne (tgt := 90) hx hb dX2_holds_81 (by decide) (fun c_53 => ?_) (fun c_53 => ?_)
          ·
            have n_53 : gNe (((f_cd k_a.toNatClampNeg) >>> (12 &&& 31)).toInt) (0) := by have z := g5_ne (a := ((f_cd k_a.toNatClampNeg) >>> (12 &&& 31)).toInt) (b := 0) (by rfl) (by decide) c_53; unfold gNe; omega
            refine lv_aload_n hx hb dX2_holds_90 rfl (lv_at hl 5 rfl) ?_
            refine va_get (D := G.1) (ci := 2) (v := .ref a_as) (C := RX2) (T := TX2) (N := 2) hx hb hts inG_X2 hown hK hP 0 rfl rfl 0 (by decide) (hts _ fl_X2_9) (fun _ h9 => h9) rfl dX2_holds_91 ?_
            refine lv_iload hx hb dX2_holds_94 (lv_at hl 0 rfl) ?_
            have hw_54 : ((f_cd k_a.toNatClampNeg) &&& 4095).toInt < 8 := e_hk _ (by have zz := g5_clamp k_a; omega) (by omega)
            refine va_iald hx hb hK hP 1 0 rfl rfl (i := ((f_cd k_a.toNatClampNeg) &&& 4095)) (vp_in_iff.mpr ⟨by omega, by omega⟩) dX2_holds_96 ?_
            refine lv_i2l (v := (f_as ((f_cd k_a.toNatClampNeg) &&& 4095).toNatClampNeg).toInt64) hx hb dX2_holds_97 rfl ?_
            refine va_last hx hb hK hP hD hS 2 1 rfl rfl (i := k_t) (x := (f_as ((f_cd k_a.toNatClampNeg) &&& 4095).toNatClampNeg).toInt64) (vp_in_iff.mpr ⟨by omega, by omega⟩) dX2_holds_98 (fun H locs hP hD hS => ?_)
            refine g5_rs [(a_j, (oc2 a_as a_sk)), (a_as, (arI G 8 f_as)), (a_sk, (arJ G 50 (vp_updL k_k k_t.toNatClampNeg ((f_as ((f_cd k_a.toNatClampNeg) &&& 4095).toNatClampNeg).toInt64)))), (a_lo, (oc3 e_cl a_hd a_sr a_cd)), (a_sr, (arI G n_sr f_sr)), (a_cd, (arI G n_cd f_cd))] hP hD (fun hP hD => ?_)
            refine lv_iinc (v := (k_t + 1)) (lv' := [(3, .int (k_t + 1)), (7, .int ((f_cd k_a.toNatClampNeg) &&& 4095)), (6, .int ((f_cd k_a.toNatClampNeg) >>> (12 &&& 31))), (5, .int k_a), (4, .int (f_sr (p_c + 1).toNatClampNeg)), (0, .ref a_j), (1, .ref a_lo), (2, .int p_c)]) hx hb dX2_holds_99 hl (k := 2) rfl rfl (by decide) rfl (fun ls hl => ?_)
            have t_55 : (k_t + 1).toInt = k_t.toInt + 1 := g5_iadd (a := k_t.toInt) (b := 1) rfl (by decide) (by omega) (by omega)
            refine lv_goto (tgt := 237) hx hb dX2_holds_102 (by decide) ?_
            refine lv_iinc (v := (k_a + 1)) (lv' := [(5, .int (k_a + 1)), (3, .int (k_t + 1)), (7, .int ((f_cd k_a.toNatClampNeg) &&& 4095)), (6, .int ((f_cd k_a.toNatClampNeg) >>> (12 &&& 31))), (4, .int (f_sr (p_c + 1).toNatClampNeg)), (0, .ref a_j), (1, .ref a_lo), (2, .int p_c)]) hx hb dX2_holds_237 hl (k := 3) rfl rfl (by decide) rfl (fun ls hl => ?_)
            have t_56 : (k_a + 1).toInt = k_a.toInt + 1 := g5_iadd (a := k_a.toInt) (b := 1) rfl (by decide) (by omega) (by omega)
            refine lv_goto (tgt := 20) hx hb dX2_holds_240 (by decide) ?_
            exact ih_20_6 ((k_t + 1), (k_a + 1), (vp_updL k_k k_t.toNatClampNeg ((f_as ((f_cd k_a.toNatClampNeg) &&& 4095).toNatClampNeg).toInt64))) ls H locs (show Int.toNat (4096 - (k_a + 1).toInt) < Int.toNat (4096 - k_a.toInt) from g_up (show k_a.toInt < (k_a + 1).toInt by omega) (show k_a.toInt < 4096 by omega)) ⟨lv_sub hl [1, 0, 4, 5, 6, 7] rfl, hP, hD, hS, ⟨by omega, by omega⟩, ⟨by omega, by omega⟩⟩
          ·
            have i_53 : ((f_cd k_a.toNatClampNeg) >>> (12 &&& 31)).toInt = 0 := by have z := g5_neN (a := ((f_cd k_a.toNatClampNeg) >>> (12 &&& 31)).toInt) (b := 0) (by rfl) (by decide) c_53; omega
            omega
        ·
          have i_52 : k_t.toInt ≥ 50 := by have z := g5_ltN (a := k_t.toInt) (b := 50) (by rfl) (by decide) c_52; omega
          refine lv_iconst (v := 0) hx hb dX2_holds_72 (by decide) ?_
          exact W.zret (v := 0) hx hb hr rfl (fun t ht hW => ⟨⟨0, [(a_j, (oc2 a_as a_sk)), (a_as, (arI G 8 f_as)), (a_sk, (arJ G 50 k_k)), (a_lo, (oc3 e_cl a_hd a_sr a_cd)), (a_sr, (arI G n_sr f_sr)), (a_cd, (arI G n_cd f_cd))], rfl, ⟨0, k_k, ⟨by have zc_o_r : (0 : Int32).toInt = 0 := (by decide); omega, by have zc_o_r : (0 : Int32).toInt = 0 := (by decide); omega⟩, rfl, rfl⟩, by rw [ht]; exact hP.sub [0, 1, 2, 3, 4, 5] rfl, hD.sub [0, 1, 2, 3, 4, 5] (by decide) rfl⟩, hS.F ht⟩) hS.2.2 dX2_holds_73
theorem dgX2_isHeld_0 : ∀ r ∈ ([(0, (.aload_n 1, 1)), (1, (.ifnonnull 5, 3)), (4, (.iconst 0, 1)), (5, (.ireturn, 1)), (6, (.aload_n 1, 1)), (7, (.getfield 19, 3)), (10, (.iconst 1, 1)), (11, (.isub, 1)), (12, (.istore_n 3, 1)), (13, (.iload_n 3, 1)), (14, (.ifCond .lt 30, 3)), (17, (.aload_n 1, 1)), (18, (.getfield 25, 3)), (21, (.iload_n 3, 1)), (22, (.iaload, 1)), (23, (.iload_n 2, 1)), (24, (.if_icmp .ne 14, 3)), (27, (.aload_n 0, 1)), (28, (.aload_n 1, 1)), (29, (.iload_n 3, 1)), (30, (.invokevirtual 28, 3)), (33, (.ifCond .eq 5, 3)), (36, (.iconst 1, 1)), (37, (.ireturn, 1)), (38, (.iinc 3 (-1), 3)), (41, (.goto (-28), 3)), (44, (.iconst 0, 1)), (45, (.ireturn, 1))] : List (Nat × (Instr × Nat))), decode cX2_isHeld r.1 = .ok r.2 := by decide +kernel
theorem dX2_isHeld_0 : decode cX2_isHeld 0 = .ok (.aload_n 1, 1) := dgX2_isHeld_0 (0, (.aload_n 1, 1)) (List.mem_of_getElem? (i := 0) rfl)
theorem dX2_isHeld_1 : decode cX2_isHeld 1 = .ok (.ifnonnull 5, 3) := dgX2_isHeld_0 (1, (.ifnonnull 5, 3)) (List.mem_of_getElem? (i := 1) rfl)
theorem dX2_isHeld_4 : decode cX2_isHeld 4 = .ok (.iconst 0, 1) := dgX2_isHeld_0 (4, (.iconst 0, 1)) (List.mem_of_getElem? (i := 2) rfl)
theorem dX2_isHeld_5 : decode cX2_isHeld 5 = .ok (.ireturn, 1) := dgX2_isHeld_0 (5, (.ireturn, 1)) (List.mem_of_getElem? (i := 3) rfl)
theorem dX2_isHeld_6 : decode cX2_isHeld 6 = .ok (.aload_n 1, 1) := dgX2_isHeld_0 (6, (.aload_n 1, 1)) (List.mem_of_getElem? (i := 4) rfl)
theorem dX2_isHeld_7 : decode cX2_isHeld 7 = .ok (.getfield 19, 3) := dgX2_isHeld_0 (7, (.getfield 19, 3)) (List.mem_of_getElem? (i := 5) rfl)
theorem dX2_isHeld_10 : decode cX2_isHeld 10 = .ok (.iconst 1, 1) := dgX2_isHeld_0 (10, (.iconst 1, 1)) (List.mem_of_getElem? (i := 6) rfl)
theorem dX2_isHeld_11 : decode cX2_isHeld 11 = .ok (.isub, 1) := dgX2_isHeld_0 (11, (.isub, 1)) (List.mem_of_getElem? (i := 7) rfl)
theorem dX2_isHeld_12 : decode cX2_isHeld 12 = .ok (.istore_n 3, 1) := dgX2_isHeld_0 (12, (.istore_n 3, 1)) (List.mem_of_getElem? (i := 8) rfl)
theorem dX2_isHeld_13 : decode cX2_isHeld 13 = .ok (.iload_n 3, 1) := dgX2_isHeld_0 (13, (.iload_n 3, 1)) (List.mem_of_getElem? (i := 9) rfl)
theorem dX2_isHeld_14 : decode cX2_isHeld 14 = .ok (.ifCond .lt 30, 3) := dgX2_isHeld_0 (14, (.ifCond .lt 30, 3)) (List.mem_of_getElem? (i := 10) rfl)
theorem dX2_isHeld_17 : decode cX2_isHeld 17 = .ok (.aload_n 1, 1) := dgX2_isHeld_0 (17, (.aload_n 1, 1)) (List.mem_of_getElem? (i := 11) rfl)
theorem dX2_isHeld_18 : decode cX2_isHeld 18 = .ok (.getfield 25, 3) := dgX2_isHeld_0 (18, (.getfield 25, 3)) (List.mem_of_getElem? (i := 12) rfl)
theorem dX2_isHeld_21 : decode cX2_isHeld 21 = .ok (.iload_n 3, 1) := dgX2_isHeld_0 (21, (.iload_n 3, 1)) (List.mem_of_getElem? (i := 13) rfl)
theorem dX2_isHeld_22 : decode cX2_isHeld 22 = .ok (.iaload, 1) := dgX2_isHeld_0 (22, (.iaload, 1)) (List.mem_of_getElem? (i := 14) rfl)
theorem dX2_isHeld_23 : decode cX2_isHeld 23 = .ok (.iload_n 2, 1) := dgX2_isHeld_0 (23, (.iload_n 2, 1)) (List.mem_of_getElem? (i := 15) rfl)
theorem dX2_isHeld_24 : decode cX2_isHeld 24 = .ok (.if_icmp .ne 14, 3) := dgX2_isHeld_0 (24, (.if_icmp .ne 14, 3)) (List.mem_of_getElem? (i := 16) rfl)
theorem dX2_isHeld_27 : decode cX2_isHeld 27 = .ok (.aload_n 0, 1) := dgX2_isHeld_0 (27, (.aload_n 0, 1)) (List.mem_of_getElem? (i := 17) rfl)
theorem dX2_isHeld_28 : decode cX2_isHeld 28 = .ok (.aload_n 1, 1) := dgX2_isHeld_0 (28, (.aload_n 1, 1)) (List.mem_of_getElem? (i := 18) rfl)
theorem dX2_isHeld_29 : decode cX2_isHeld 29 = .ok (.iload_n 3, 1) := dgX2_isHeld_0 (29, (.iload_n 3, 1)) (List.mem_of_getElem? (i := 19) rfl)
theorem dX2_isHeld_30 : decode cX2_isHeld 30 = .ok (.invokevirtual 28, 3) := dgX2_isHeld_0 (30, (.invokevirtual 28, 3)) (List.mem_of_getElem? (i := 20) rfl)
theorem dX2_isHeld_33 : decode cX2_isHeld 33 = .ok (.ifCond .eq 5, 3) := dgX2_isHeld_0 (33, (.ifCond .eq 5, 3)) (List.mem_of_getElem? (i := 21) rfl)
theorem dX2_isHeld_36 : decode cX2_isHeld 36 = .ok (.iconst 1, 1) := dgX2_isHeld_0 (36, (.iconst 1, 1)) (List.mem_of_getElem? (i := 22) rfl)
theorem dX2_isHeld_37 : decode cX2_isHeld 37 = .ok (.ireturn, 1) := dgX2_isHeld_0 (37, (.ireturn, 1)) (List.mem_of_getElem? (i := 23) rfl)
theorem dX2_isHeld_38 : decode cX2_isHeld 38 = .ok (.iinc 3 (-1), 3) := dgX2_isHeld_0 (38, (.iinc 3 (-1), 3)) (List.mem_of_getElem? (i := 24) rfl)
theorem dX2_isHeld_41 : decode cX2_isHeld 41 = .ok (.goto (-28), 3) := dgX2_isHeld_0 (41, (.goto (-28), 3)) (List.mem_of_getElem? (i := 25) rfl)
theorem dX2_isHeld_44 : decode cX2_isHeld 44 = .ok (.iconst 0, 1) := dgX2_isHeld_0 (44, (.iconst 0, 1)) (List.mem_of_getElem? (i := 26) rfl)
theorem dX2_isHeld_45 : decode cX2_isHeld 45 = .ok (.ireturn, 1) := dgX2_isHeld_0 (45, (.ireturn, 1)) (List.mem_of_getElem? (i := 27) rfl)
set_option maxHeartbeats 4000000 in
set_option maxRecDepth 100000 in
theorem j_isHeldN (l : Launch) (G : g5_G) (a_j a_as a_sk : Nat) (sz : Nat) (p_h : Int32) (f_as : Nat → Int32) (f_sk : Nat → Int64) : Met l yX2_isHeld (wsG yX2_isHeld cX2_isHeld 4 (some .boolean)) ({ frames := 0, cells := 0, slots := 0, locals := 0 }) (va_Pc [.ref a_j, .null, .int p_h] (g5_P G [(a_j, (oc2 a_as a_sk)), (a_as, (arI G 8 f_as)), (a_sk, (arJ G 50 f_sk))] sz)) (va_Qi (fun (r : Int32) (u : va_W) => ((r = 0) ∧ (u = [(a_j, (oc2 a_as a_sk)), (a_as, (arI G 8 f_as)), (a_sk, (arJ G 50 f_sk))]))) (g5_B G (va_A [(a_j, (oc2 a_as a_sk)), (a_as, (arI G 8 f_as)), (a_sk, (arJ G 50 f_sk))] sz)) (va_A [(a_j, (oc2 a_as a_sk)), (a_as, (arI G 8 f_as)), (a_sk, (arJ G 50 f_sk))] sz)) 0 0 (va_A [(a_j, (oc2 a_as a_sk)), (a_as, (arI G 8 f_as)), (a_sk, (arJ G 50 f_sk))] sz) := by
  refine Met.ofW (cc := cX2_isHeld) (maxL := 4) (ret := (some .boolean)) (by decide) rfl ?_
  intro p e s m args below meth c s₁ B hml hv
  obtain ⟨rfl, hsz, hP, hK, hD0, hN, hT⟩ := hv
  have hx := B.exec
  have hb := B.bytes
  have hr := B.returns
  have hts : ∀ w ∈ tblG, w.before _ s = true := fun w h => atoms_spec (ws := (wsG yX2_isHeld cX2_isHeld 4 (some .boolean))) B.pre w (List.mem_cons_of_mem _ h)
  have hown : s.vm.findClass RX2 = some m.cls := findClass_of_methodNamed B.named
  have hlocks := B.notSynchronized
  subst hsz
  have hD := hD0.self (sz := s.heap.size)
  generalize hAe : va_A [(a_j, (oc2 a_as a_sk)), (a_as, (arI G 8 f_as)), (a_sk, (arJ G 50 f_sk))] s.heap.size = A at hD hT ⊢
  have hA : ∀ q : Nat, s.heap.size ≤ q → A q := fun q h => by rw [← hAe]; exact Or.inr h
  have hS : va_S A s.heap s.heap [] := va_S.rf
  have hP : va_P G.1 vwCl [(a_j, (oc2 a_as a_sk)), (a_as, (arI G 8 f_as)), (a_sk, (arJ G 50 f_sk))] s.heap := hP
  have hl := lv_entry ([.ref a_j, .null, .int p_h]) (n := 4) (Nat.le_of_ble_eq_true rfl)
  rw [lg_entry_eq]
  generalize (lg_sl ([.ref a_j, .null, .int p_h]) ++ List.replicate (4 - (lg_sl ([.ref a_j, .null, .int p_h])).length) Slot.unset).toArray = ls at hl ⊢
  have hl : lv_has ls 4 [(0, .ref a_j), (1, .null), (2, .int p_h)] := hl
  refine lv_aload_nN hx hb dX2_isHeld_0 rfl (lv_at hl 1 rfl) ?_
  refine lv_ifnonnullN hx hb dX2_isHeld_1 ?_
  refine lv_iconst (v := 0) hx hb dX2_isHeld_4 (by decide) ?_
  exact W.zret (v := 0) hx hb hr rfl (fun t ht hW => ⟨⟨0, [(a_j, (oc2 a_as a_sk)), (a_as, (arI G 8 f_as)), (a_sk, (arJ G 50 f_sk))], rfl, ⟨rfl, rfl⟩, by rw [ht]; exact hP.sub [0, 1, 2] rfl, hD.sub [0, 1, 2] (by decide) rfl⟩, hS.F ht⟩) hS.2.2 dX2_isHeld_5
theorem fl_X2_19 : Cond.fieldLink RX2 19 "LateGlass$Law" "clauses" "I" ∈ tblG := tg 779 (by decide +kernel) (by decide +kernel)
theorem fl_X2_25 : Cond.fieldLink RX2 25 "LateGlass$Law" "heads" "[I" ∈ tblG := tg 781 (by decide +kernel) (by decide +kernel)
theorem ml_X2_28 : Cond.methodLink RX2 28 yX2_holds ∈ tblG := tg 842 (by decide +kernel) (by decide +kernel)
theorem im_X2_holds : Cond.instanceMethod yX2_holds ∈ tblG := tg 844 (by decide +kernel) (by decide +kernel)
theorem se_X2_holds : Cond.selects RX2 yX2_holds yX2_holds ∈ tblG := tg 16 (by decide +kernel) (by decide +kernel)
theorem cd_X2_holds : Cond.code yX2_holds cX2_holds 8 (some .boolean) ∈ tblG := tg 845 (by decide +kernel) (by decide +kernel)
theorem gW_X2_holds : GoodIn tblG (wsG yX2_holds cX2_holds 8 (some .boolean)) := tgi cd_X2_holds
theorem gV_X2_28 : GoodIn tblG (wsV RX2 28 RX2 yX2_holds (wsG yX2_holds cX2_holds 8 (some .boolean))) := tgV ml_X2_28 im_X2_holds se_X2_holds ini_X2 gW_X2_holds
theorem hv_X2_holds : yX2_holds.cls = RX2 ∧ yX2_holds.cls ≠ "java/lang/invoke/MethodHandle" ∧ yX2_holds.cls ≠ "java/lang/invoke/VarHandle" ∧ (parseMethodDescriptor yX2_holds.desc).map (fun d => d.parameters.length) = some 2 := by decide +kernel
