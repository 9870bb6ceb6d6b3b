set_option maxHeartbeats 4000000 in
set_option maxRecDepth 100000 in
theorem j_combine (l : Launch) (G : g5_G) (a_j a_sk a_as : Nat) (sz : Nat) (p_o : Int32) (p_p : Int32) (f_sk : Nat → Int64) (h_p_p : (-2) ≤ p_p.toInt ∧ p_p.toInt ≤ 49) : Met l yX2_combine (wsG yX2_combine cX2_combine 9 (some .boolean)) ({ frames := 0, cells := 0, slots := 0, locals := 0 }) (va_Pc [.ref a_j, .int p_o, .int p_p] (g5_P G [(a_j, (oc2 a_as a_sk)), (a_sk, (arJ G 50 f_sk))] sz)) (va_Qi (fun (r : Int32) (u : va_W) => (∃ (o_r : Int32) (o_k : Nat → Int64), (0 ≤ o_r.toInt ∧ o_r.toInt ≤ 1) ∧ (o_r.toInt = 0 ∨ 0 ≤ p_p.toInt) ∧ (r = o_r) ∧ (u = [(a_j, (oc2 a_as a_sk)), (a_sk, (arJ G 50 o_k))]))) (g5_B G (va_A [(a_j, (oc2 a_as a_sk)), (a_sk, (arJ G 50 f_sk))] sz)) (va_A [(a_j, (oc2 a_as a_sk)), (a_sk, (arJ G 50 f_sk))] sz)) 0 0 (va_A [(a_j, (oc2 a_as a_sk)), (a_sk, (arJ G 50 f_sk))] sz) := by
  refine Met.ofW (cc := cX2_combine) (maxL := 9) (ret := (some .boolean)) (by decide) rfl ?_
  intro p e s m args below meth c s₁ B hml hv
  obtain ⟨rfl, hsz, hP, hK, hD0, hN, hT⟩ := hv
  have hx := B.exec
  have hb := B.bytes
  have hr := B.returns
  have hts : ∀ w ∈ tblG, w.before _ s = true := fun w h => atoms_spec (ws := (wsG yX2_combine cX2_combine 9 (some .boolean))) B.pre w (List.mem_cons_of_mem _ h)
  have hown : s.vm.findClass RX2 = some m.cls := findClass_of_methodNamed B.named
  have hlocks := B.notSynchronized
  subst hsz
  have hD := hD0.self (sz := s.heap.size)
  generalize hAe : va_A [(a_j, (oc2 a_as a_sk)), (a_sk, (arJ G 50 f_sk))] s.heap.size = A at hD hT ⊢
  have hA : ∀ q : Nat, s.heap.size ≤ q → A q := fun q h => by rw [← hAe]; exact Or.inr h
  have hS : va_S A s.heap s.heap [] := va_S.rf
  have hP : va_P G.1 vwCl [(a_j, (oc2 a_as a_sk)), (a_sk, (arJ G 50 f_sk))] s.heap := hP
  have hl := lv_entry ([.ref a_j, .int p_o, .int p_p]) (n := 9) (Nat.le_of_ble_eq_true rfl)
  rw [lg_entry_eq]
  generalize (lg_sl ([.ref a_j, .int p_o, .int p_p]) ++ List.replicate (9 - (lg_sl ([.ref a_j, .int p_o, .int p_p])).length) Slot.unset).toArray = ls at hl ⊢
  have hl : lv_has ls 9 [(0, .ref a_j), (1, .int p_o), (2, .int p_p)] := hl
  refine lv_iload_n hx hb dX2_combine_0 rfl (lv_at hl 2 rfl) ?_
  refine lv_if_lt (tgt := 33) hx hb dX2_combine_1 (by decide) (fun c_1 => ?_) (fun c_1 => ?_)
  ·
    have i_1 : p_p.toInt < 0 := by have z := g5_lt (a := p_p.toInt) (b := 0) (by rfl) (by decide) c_1; omega
    refine lv_iconst (v := 0) hx hb dX2_combine_33 (by decide) ?_
    exact W.zret (v := 0) hx hb hr rfl (fun t ht hW => ⟨⟨0, [(a_j, (oc2 a_as a_sk)), (a_sk, (arJ G 50 f_sk))], rfl, ⟨0, f_sk, ⟨by have zc_o_r : (0 : Int32).toInt = 0 := (by decide); omega, by have zc_o_r : (0 : Int32).toInt = 0 := (by decide); omega⟩, Or.inl (by decide), rfl, rfl⟩, by rw [ht]; exact hP.sub [0, 1] rfl, hD.sub [0, 1] (by decide) rfl⟩, hS.F ht⟩) hS.2.2 dX2_combine_34
  ·
    have i_1 : p_p.toInt ≥ 0 := by have z := g5_ltN (a := p_p.toInt) (b := 0) (by rfl) (by decide) c_1; omega
    refine lv_iload_n hx hb dX2_combine_4 rfl (lv_at hl 2 rfl) ?_
    refine lv_iconst (v := 1) hx hb dX2_combine_5 (by decide) ?_
    refine lv_iadd hx hb dX2_combine_6 ?_
    have t_2 : (p_p + 1).toInt = p_p.toInt + 1 := g5_iadd (a := p_p.toInt) (b := 1) (by rfl) (by decide) (by omega) (by omega)
    refine lv_aload_n hx hb dX2_combine_7 rfl (lv_at hl 0 rfl) ?_
    refine va_get (D := G.1) (ci := 2) (v := .ref a_sk) (C := RX2) (T := TX2) (N := 2) hx hb hts inG_X2 hown hK hP 0 rfl rfl 1 (by decide) (hts _ fl_X2_15) (fun _ h9 => h9) rfl dX2_combine_8 ?_
    refine va_alen hx hb hK hP 1 1 rfl rfl (v := 50) (by show Int32.ofNat 50 = 50; decide) dX2_combine_11 ?_
    refine lv_icmp_ge (tgt := 33) hx hb dX2_combine_12 (by decide) (fun c_3 => ?_) (fun c_3 => ?_)
    ·
      have i_3 : (p_p.toInt + 1) ≥ 50 := by have z := g5_ge (a := (p_p + 1).toInt) (b := 50) (by rfl) (by decide) c_3; omega
      refine lv_iconst (v := 0) hx hb dX2_combine_33 (by decide) ?_
      exact W.zret (v := 0) hx hb hr rfl (fun t ht hW => ⟨⟨0, [(a_j, (oc2 a_as a_sk)), (a_sk, (arJ G 50 f_sk))], rfl, ⟨0, f_sk, ⟨by have zc_o_r : (0 : Int32).toInt = 0 := (by decide); omega, by have zc_o_r : (0 : Int32).toInt = 0 := (by decide); omega⟩, Or.inl (by decide), rfl, rfl⟩, by rw [ht]; exact hP.sub [0, 1] rfl, hD.sub [0, 1] (by decide) rfl⟩, hS.F ht⟩) hS.2.2 dX2_combine_34
    ·
      have i_3 : (p_p.toInt + 1) < 50 := by have z := g5_geN (a := (p_p + 1).toInt) (b := 50) (by rfl) (by decide) c_3; omega
      refine lv_iload_n hx hb dX2_combine_15 rfl (lv_at hl 1 rfl) ?_
      refine lv_iconst (v := 5) hx hb dX2_combine_16 (by decide) ?_
      refine lv_icmp_ne (tgt := 35) hx hb dX2_combine_17 (by decide) (fun c_4 => ?_) (fun c_4 => ?_)
      ·
        have n_4 : gNe (p_o.toInt) (5) := by have z := g5_ne (a := p_o.toInt) (b := 5) (by rfl) (by decide) c_4; unfold gNe; omega
        refine lv_aload_n hx hb dX2_combine_35 rfl (lv_at hl 0 rfl) ?_
        refine va_get (D := G.1) (ci := 2) (v := .ref a_sk) (C := RX2) (T := TX2) (N := 2) hx hb hts inG_X2 hown hK hP 0 rfl rfl 1 (by decide) (hts _ fl_X2_15) (fun _ h9 => h9) rfl dX2_combine_36 ?_
        refine lv_iload_n hx hb dX2_combine_39 rfl (lv_at hl 2 rfl) ?_
        refine va_lald hx hb hK hP 1 1 rfl rfl (i := p_p) (vp_in_iff.mpr ⟨by omega, by omega⟩) dX2_combine_40 ?_
        refine lv_lstore_n (lv' := [(3, .long (f_sk p_p.toNatClampNeg)), (0, .ref a_j), (1, .int p_o), (2, .int p_p)]) hx hb dX2_combine_41 rfl hl (by decide) rfl (fun ls hl => ?_)
        refine lv_aload_n hx hb dX2_combine_42 rfl (lv_at hl 1 rfl) ?_
        refine va_get (D := G.1) (ci := 2) (v := .ref a_sk) (C := RX2) (T := TX2) (N := 2) hx hb hts inG_X2 hown hK hP 0 rfl rfl 1 (by decide) (hts _ fl_X2_15) (fun _ h9 => h9) rfl dX2_combine_43 ?_
        refine lv_iload_n hx hb dX2_combine_46 rfl (lv_at hl 3 rfl) ?_
        refine lv_iconst (v := 1) hx hb dX2_combine_47 (by decide) ?_
        refine lv_iadd hx hb dX2_combine_48 ?_
        have t_5 : (p_p + 1).toInt = p_p.toInt + 1 := g5_iadd (a := p_p.toInt) (b := 1) (by rfl) (by decide) (by omega) (by omega)
        refine va_lald hx hb hK hP 1 1 rfl rfl (i := (p_p + 1)) (vp_in_iff.mpr ⟨by omega, by omega⟩) dX2_combine_49 ?_
        refine lv_lstore (lv' := [(5, .long (f_sk (p_p + 1).toNatClampNeg)), (3, .long (f_sk p_p.toNatClampNeg)), (0, .ref a_j), (1, .int p_o), (2, .int p_p)]) hx hb dX2_combine_50 hl (by decide) rfl (fun ls hl => ?_)
        refine lv_iload_n hx hb dX2_combine_52 rfl (lv_at hl 3 rfl) ?_
        rcases (show p_o.toInt = 2 ∨ p_o.toInt = 3 ∨ p_o.toInt = 4 ∨ p_o.toInt = 5 ∨ p_o.toInt < 2 ∨ p_o.toInt > 5 by omega) with s_6 | s_6 | s_6 | s_6 | s_6 | s_6
        ·
          have i_6 : p_o.toInt = 2 := by omega
          refine lv_tableIn (tgt := 84) hx hb dX2_combine_53 (by omega) (by omega) (by rw [s_6]; rfl) (by decide) ?_
          refine lv_lload_n hx hb dX2_combine_84 rfl (lv_at hl 1 rfl) ?_
          refine lv_lload hx hb dX2_combine_85 (lv_at hl 0 rfl) ?_
          refine lv_ladd hx hb dX2_combine_87 ?_
          refine lv_lstore (lv' := [(7, .long ((f_sk p_p.toNatClampNeg) + (f_sk (p_p + 1).toNatClampNeg))), (5, .long (f_sk (p_p + 1).toNatClampNeg)), (3, .long (f_sk p_p.toNatClampNeg)), (0, .ref a_j), (1, .int p_o), (2, .int p_p)]) hx hb dX2_combine_88 hl (by decide) rfl (fun ls hl => ?_)
          refine lv_goto (tgt := 166) hx hb dX2_combine_90 (by decide) ?_
          refine lv_aload_n hx hb dX2_combine_166 rfl (lv_at hl 3 rfl) ?_
          refine va_get (D := G.1) (ci := 2) (v := .ref a_sk) (C := RX2) (T := TX2) (N := 2) hx hb hts inG_X2 hown hK hP 0 rfl rfl 1 (by decide) (hts _ fl_X2_15) (fun _ h9 => h9) rfl dX2_combine_167 ?_
          refine lv_iload_n hx hb dX2_combine_170 rfl (lv_at hl 5 rfl) ?_
          refine lv_lload hx hb dX2_combine_171 (lv_at hl 0 rfl) ?_
          refine va_last hx hb hK hP hD hS 1 1 rfl rfl (i := p_p) (x := ((f_sk p_p.toNatClampNeg) + (f_sk (p_p + 1).toNatClampNeg))) (vp_in_iff.mpr ⟨by omega, by omega⟩) dX2_combine_173 (fun H locs hP hD hS => ?_)
          refine g5_rs [(a_j, (oc2 a_as a_sk)), (a_sk, (arJ G 50 (vp_updL f_sk p_p.toNatClampNeg ((f_sk p_p.toNatClampNeg) + (f_sk (p_p + 1).toNatClampNeg)))))] hP hD (fun hP hD => ?_)
          refine lv_lload hx hb dX2_combine_174 (lv_at hl 0 rfl) ?_
          refine lv_ldc2 (v := (-1000000000)) hx hb hown (hts _ kl_X2_54) dX2_combine_176 ?_
          refine W.lcmp hx hb dX2_combine_179 ?_
          refine lv_if_lt (tgt := 196) hx hb dX2_combine_180 (by decide) (fun c_7 => ?_) (fun c_7 => ?_)
          ·
            have i_7 : (lg_cmp ((f_sk p_p.toNatClampNeg) + (f_sk (p_p + 1).toNatClampNeg)) (-1000000000)).toInt < 0 := by have z := g5_lt (a := (lg_cmp ((f_sk p_p.toNatClampNeg) + (f_sk (p_p + 1).toNatClampNeg)) (-1000000000)).toInt) (b := 0) (by rfl) (by decide) c_7; omega
            refine lv_iconst (v := 0) hx hb dX2_combine_196 (by decide) ?_
            exact W.zret (v := 0) hx hb hr rfl (fun t ht hW => ⟨⟨0, [(a_j, (oc2 a_as a_sk)), (a_sk, (arJ G 50 (vp_updL f_sk p_p.toNatClampNeg ((f_sk p_p.toNatClampNeg) + (f_sk (p_p + 1).toNatClampNeg)))))], rfl, ⟨0, (vp_updL f_sk p_p.toNatClampNeg ((f_sk p_p.toNatClampNeg) + (f_sk (p_p + 1).toNatClampNeg))), ⟨by have zc_o_r : (0 : Int32).toInt = 0 := (by decide); omega, by have zc_o_r : (0 : Int32).toInt = 0 := (by decide); omega⟩, Or.inl (by decide), rfl, rfl⟩, by rw [ht]; exact hP.sub [0, 1] rfl, hD.sub [0, 1] (by decide) rfl⟩, hS.F ht⟩) hS.2.2 dX2_combine_197
          ·
            have i_7 : (lg_cmp ((f_sk p_p.toNatClampNeg) + (f_sk (p_p + 1).toNatClampNeg)) (-1000000000)).toInt ≥ 0 := by have z := g5_ltN (a := (lg_cmp ((f_sk p_p.toNatClampNeg) + (f_sk (p_p + 1).toNatClampNeg)) (-1000000000)).toInt) (b := 0) (by rfl) (by decide) c_7; omega
            refine lv_lload hx hb dX2_combine_183 (lv_at hl 0 rfl) ?_
            refine lv_ldc2 (v := 1000000000) hx hb hown (hts _ kl_X2_56) dX2_combine_185 ?_
            refine W.lcmp hx hb dX2_combine_188 ?_
            refine lv_if_gt (tgt := 196) hx hb dX2_combine_189 (by decide) (fun c_8 => ?_) (fun c_8 => ?_)
            ·
              have i_8 : (lg_cmp ((f_sk p_p.toNatClampNeg) + (f_sk (p_p + 1).toNatClampNeg)) 1000000000).toInt > 0 := by have z := g5_gt (a := (lg_cmp ((f_sk p_p.toNatClampNeg) + (f_sk (p_p + 1).toNatClampNeg)) 1000000000).toInt) (b := 0) (by rfl) (by decide) c_8; omega
              refine lv_iconst (v := 0) hx hb dX2_combine_196 (by decide) ?_
              exact W.zret (v := 0) hx hb hr rfl (fun t ht hW => ⟨⟨0, [(a_j, (oc2 a_as a_sk)), (a_sk, (arJ G 50 (vp_updL f_sk p_p.toNatClampNeg ((f_sk p_p.toNatClampNeg) + (f_sk (p_p + 1).toNatClampNeg)))))], rfl, ⟨0, (vp_updL f_sk p_p.toNatClampNeg ((f_sk p_p.toNatClampNeg) + (f_sk (p_p + 1).toNatClampNeg))), ⟨by have zc_o_r : (0 : Int32).toInt = 0 := (by decide); omega, by have zc_o_r : (0 : Int32).toInt = 0 := (by decide); omega⟩, Or.inl (by decide), rfl, rfl⟩, by rw [ht]; exact hP.sub [0, 1] rfl, hD.sub [0, 1] (by decide) rfl⟩, hS.F ht⟩) hS.2.2 dX2_combine_197
            ·
              have i_8 : (lg_cmp ((f_sk p_p.toNatClampNeg) + (f_sk (p_p + 1).toNatClampNeg)) 1000000000).toInt ≤ 0 := by have z := g5_gtN (a := (lg_cmp ((f_sk p_p.toNatClampNeg) + (f_sk (p_p + 1).toNatClampNeg)) 1000000000).toInt) (b := 0) (by rfl) (by decide) c_8; omega
              refine lv_iconst (v := 1) hx hb dX2_combine_192 (by decide) ?_
              refine lv_goto (tgt := 197) hx hb dX2_combine_193 (by decide) ?_
              exact W.zret (v := 1) hx hb hr rfl (fun t ht hW => ⟨⟨1, [(a_j, (oc2 a_as a_sk)), (a_sk, (arJ G 50 (vp_updL f_sk p_p.toNatClampNeg ((f_sk p_p.toNatClampNeg) + (f_sk (p_p + 1).toNatClampNeg)))))], rfl, ⟨1, (vp_updL f_sk p_p.toNatClampNeg ((f_sk p_p.toNatClampNeg) + (f_sk (p_p + 1).toNatClampNeg))), ⟨by have zc_o_r : (1 : Int32).toInt = 1 := (by decide); omega, by have zc_o_r : (1 : Int32).toInt = 1 := (by decide); omega⟩, Or.inr (by omega), rfl, rfl⟩, by rw [ht]; exact hP.sub [0, 1] rfl, hD.sub [0, 1] (by decide) rfl⟩, hS.F ht⟩) hS.2.2 dX2_combine_197
        ·
          have i_6 : p_o.toInt = 3 := by omega
          refine lv_tableIn (tgt := 93) hx hb dX2_combine_53 (by omega) (by omega) (by rw [s_6]; rfl) (by decide) ?_
          refine lv_lload_n hx hb dX2_combine_93 rfl (lv_at hl 1 rfl) ?_
          refine lv_lload hx hb dX2_combine_94 (lv_at hl 0 rfl) ?_
          refine lv_lsub hx hb dX2_combine_96 ?_
          refine lv_lstore (lv' := [(7, .long ((f_sk p_p.toNatClampNeg) - (f_sk (p_p + 1).toNatClampNeg))), (5, .long (f_sk (p_p + 1).toNatClampNeg)), (3, .long (f_sk p_p.toNatClampNeg)), (0, .ref a_j), (1, .int p_o), (2, .int p_p)]) hx hb dX2_combine_97 hl (by decide) rfl (fun ls hl => ?_)
          refine lv_goto (tgt := 166) hx hb dX2_combine_99 (by decide) ?_
          refine lv_aload_n hx hb dX2_combine_166 rfl (lv_at hl 3 rfl) ?_
          refine va_get (D := G.1) (ci := 2) (v := .ref a_sk) (C := RX2) (T := TX2) (N := 2) hx hb hts inG_X2 hown hK hP 0 rfl rfl 1 (by decide) (hts _ fl_X2_15) (fun _ h9 => h9) rfl dX2_combine_167 ?_
          refine lv_iload_n hx hb dX2_combine_170 rfl (lv_at hl 5 rfl) ?_
          refine lv_lload hx hb dX2_combine_171 (lv_at hl 0 rfl) ?_
          refine va_last hx hb hK hP hD hS 1 1 rfl rfl (i := p_p) (x := ((f_sk p_p.toNatClampNeg) - (f_sk (p_p + 1).toNatClampNeg))) (vp_in_iff.mpr ⟨by omega, by omega⟩) dX2_combine_173 (fun H locs hP hD hS => ?_)
          refine g5_rs [(a_j, (oc2 a_as a_sk)), (a_sk, (arJ G 50 (vp_updL f_sk p_p.toNatClampNeg ((f_sk p_p.toNatClampNeg) - (f_sk (p_p + 1).toNatClampNeg)))))] hP hD (fun hP hD => ?_)
          refine lv_lload hx hb dX2_combine_174 (lv_at hl 0 rfl) ?_
          refine lv_ldc2 (v := (-1000000000)) hx hb hown (hts _ kl_X2_54) dX2_combine_176 ?_
          refine W.lcmp hx hb dX2_combine_179 ?_
          refine lv_if_lt (tgt := 196) hx hb dX2_combine_180 (by decide) (fun c_9 => ?_) (fun c_9 => ?_)
          ·
            have i_9 : (lg_cmp ((f_sk p_p.toNatClampNeg) - (f_sk (p_p + 1).toNatClampNeg)) (-1000000000)).toInt < 0 := by have z := g5_lt (a := (lg_cmp ((f_sk p_p.toNatClampNeg) - (f_sk (p_p + 1).toNatClampNeg)) (-1000000000)).toInt) (b := 0) (by rfl) (by decide) c_9; omega
            refine lv_iconst (v := 0) hx hb dX2_combine_196 (by decide) ?_
            exact W.zret (v := 0) hx hb hr rfl (fun t ht hW => ⟨⟨0, [(a_j, (oc2 a_as a_sk)), (a_sk, (arJ G 50 (vp_updL f_sk p_p.toNatClampNeg ((f_sk p_p.toNatClampNeg) - (f_sk (p_p + 1).toNatClampNeg)))))], rfl, ⟨0, (vp_updL f_sk p_p.toNatClampNeg ((f_sk p_p.toNatClampNeg) - (f_sk (p_p + 1).toNatClampNeg))), ⟨by have zc_o_r : (0 : Int32).toInt = 0 := (by decide); omega, by have zc_o_r : (0 : Int32).toInt = 0 := (by decide); omega⟩, Or.inl (by decide), rfl, rfl⟩, by rw [ht]; exact hP.sub [0, 1] rfl, hD.sub [0, 1] (by decide) rfl⟩, hS.F ht⟩) hS.2.2 dX2_combine_197
          ·
            have i_9 : (lg_cmp ((f_sk p_p.toNatClampNeg) - (f_sk (p_p + 1).toNatClampNeg)) (-1000000000)).toInt ≥ 0 := by have z := g5_ltN (a := (lg_cmp ((f_sk p_p.toNatClampNeg) - (f_sk (p_p + 1).toNatClampNeg)) (-1000000000)).toInt) (b := 0) (by rfl) (by decide) c_9; omega
            refine lv_lload hx hb dX2_combine_183 (lv_at hl 0 rfl) ?_
            refine lv_ldc2 (v := 1000000000) hx hb hown (hts _ kl_X2_56) dX2_combine_185 ?_
            refine W.lcmp hx hb dX2_combine_188 ?_
            refine lv_if_gt (tgt := 196) hx hb dX2_combine_189 (by decide) (fun c_10 => ?_) (fun c_10 => ?_)
            ·
              have i_10 : (lg_cmp ((f_sk p_p.toNatClampNeg) - (f_sk (p_p + 1).toNatClampNeg)) 1000000000).toInt > 0 := by have z := g5_gt (a := (lg_cmp ((f_sk p_p.toNatClampNeg) - (f_sk (p_p + 1).toNatClampNeg)) 1000000000).toInt) (b := 0) (by rfl) (by decide) c_10; omega
              refine lv_iconst (v := 0) hx hb dX2_combine_196 (by decide) ?_
              exact W.zret (v := 0) hx hb hr rfl (fun t ht hW => ⟨⟨0, [(a_j, (oc2 a_as a_sk)), (a_sk, (arJ G 50 (vp_updL f_sk p_p.toNatClampNeg ((f_sk p_p.toNatClampNeg) - (f_sk (p_p + 1).toNatClampNeg)))))], rfl, ⟨0, (vp_updL f_sk p_p.toNatClampNeg ((f_sk p_p.toNatClampNeg) - (f_sk (p_p + 1).toNatClampNeg))), ⟨by have zc_o_r : (0 : Int32).toInt = 0 := (by decide); omega, by have zc_o_r : (0 : Int32).toInt = 0 := (by decide); omega⟩, Or.inl (by decide), rfl, rfl⟩, by rw [ht]; exact hP.sub [0, 1] rfl, hD.sub [0, 1] (by decide) rfl⟩, hS.F ht⟩) hS.2.2 dX2_combine_197
            ·
              have i_10 : (lg_cmp ((f_sk p_p.toNatClampNeg) - (f_sk (p_p + 1).toNatClampNeg)) 1000000000).toInt ≤ 0 := by have z := g5_gtN (a := (lg_cmp ((f_sk p_p.toNatClampNeg) - (f_sk (p_p + 1).toNatClampNeg)) 1000000000).toInt) (b := 0) (by rfl) (by decide) c_10; omega
              refine lv_iconst (v := 1) hx hb dX2_combine_192 (by decide) ?_
              refine lv_goto (tgt := 197) hx hb dX2_combine_193 (by decide) ?_
              exact W.zret (v := 1) hx hb hr rfl (fun t ht hW => ⟨⟨1, [(a_j, (oc2 a_as a_sk)), (a_sk, (arJ G 50 (vp_updL f_sk p_p.toNatClampNeg ((f_sk p_p.toNatClampNeg) - (f_sk (p_p + 1).toNatClampNeg)))))], rfl, ⟨1, (vp_updL f_sk p_p.toNatClampNeg ((f_sk p_p.toNatClampNeg) - (f_sk (p_p + 1).toNatClampNeg))), ⟨by have zc_o_r : (1 : Int32).toInt = 1 := (by decide); omega, by have zc_o_r : (1 : Int32).toInt = 1 := (by decide); omega⟩, Or.inr (by omega), rfl, rfl⟩, by rw [ht]; exact hP.sub [0, 1] rfl, hD.sub [0, 1] (by decide) rfl⟩, hS.F ht⟩) hS.2.2 dX2_combine_197
        ·
          have i_6 : p_o.toInt = 4 := by omega
          refine lv_tableIn (tgt := 102) hx hb dX2_combine_53 (by omega) (by omega) (by rw [s_6]; rfl) (by decide) ?_
          refine lv_lload_n hx hb dX2_combine_102 rfl (lv_at hl 1 rfl) ?_
          refine lv_lload hx hb dX2_combine_103 (lv_at hl 0 rfl) ?_
          refine lv_lmul hx hb dX2_combine_105 ?_
          refine lv_lstore (lv' := [(7, .long ((f_sk p_p.toNatClampNeg) * (f_sk (p_p + 1).toNatClampNeg))), (5, .long (f_sk (p_p + 1).toNatClampNeg)), (3, .long (f_sk p_p.toNatClampNeg)), (0, .ref a_j), (1, .int p_o), (2, .int p_p)]) hx hb dX2_combine_106 hl (by decide) rfl (fun ls hl => ?_)
          refine lv_goto (tgt := 166) hx hb dX2_combine_108 (by decide) ?_
          refine lv_aload_n hx hb dX2_combine_166 rfl (lv_at hl 3 rfl) ?_
          refine va_get (D := G.1) (ci := 2) (v := .ref a_sk) (C := RX2) (T := TX2) (N := 2) hx hb hts inG_X2 hown hK hP 0 rfl rfl 1 (by decide) (hts _ fl_X2_15) (fun _ h9 => h9) rfl dX2_combine_167 ?_
          refine lv_iload_n hx hb dX2_combine_170 rfl (lv_at hl 5 rfl) ?_
          refine lv_lload hx hb dX2_combine_171 (lv_at hl 0 rfl) ?_
          refine va_last hx hb hK hP hD hS 1 1 rfl rfl (i := p_p) (x := ((f_sk p_p.toNatClampNeg) * (f_sk (p_p + 1).toNatClampNeg))) (vp_in_iff.mpr ⟨by omega, by omega⟩) dX2_combine_173 (fun H locs hP hD hS => ?_)
          refine g5_rs [(a_j, (oc2 a_as a_sk)), (a_sk, (arJ G 50 (vp_updL f_sk p_p.toNatClampNeg ((f_sk p_p.toNatClampNeg) * (f_sk (p_p + 1).toNatClampNeg)))))] hP hD (fun hP hD => ?_)
          refine lv_lload hx hb dX2_combine_174 (lv_at hl 0 rfl) ?_
          refine lv_ldc2 (v := (-1000000000)) hx hb hown (hts _ kl_X2_54) dX2_combine_176 ?_
          refine W.lcmp hx hb dX2_combine_179 ?_
          refine lv_if_lt (tgt := 196) hx hb dX2_combine_180 (by decide) (fun c_11 => ?_) (fun c_11 => ?_)
          ·
            have i_11 : (lg_cmp ((f_sk p_p.toNatClampNeg) * (f_sk (p_p + 1).toNatClampNeg)) (-1000000000)).toInt < 0 := by have z := g5_lt (a := (lg_cmp ((f_sk p_p.toNatClampNeg) * (f_sk (p_p + 1).toNatClampNeg)) (-1000000000)).toInt) (b := 0) (by rfl) (by decide) c_11; omega
            refine lv_iconst (v := 0) hx hb dX2_combine_196 (by decide) ?_
            exact W.zret (v := 0) hx hb hr rfl (fun t ht hW => ⟨⟨0, [(a_j, (oc2 a_as a_sk)), (a_sk, (arJ G 50 (vp_updL f_sk p_p.toNatClampNeg ((f_sk p_p.toNatClampNeg) * (f_sk (p_p + 1).toNatClampNeg)))))], rfl, ⟨0, (vp_updL f_sk p_p.toNatClampNeg ((f_sk p_p.toNatClampNeg) * (f_sk (p_p + 1).toNatClampNeg))), ⟨by have zc_o_r : (0 : Int32).toInt = 0 := (by decide); omega, by have zc_o_r : (0 : Int32).toInt = 0 := (by decide); omega⟩, Or.inl (by decide), rfl, rfl⟩, by rw [ht]; exact hP.sub [0, 1] rfl, hD.sub [0, 1] (by decide) rfl⟩, hS.F ht⟩) hS.2.2 dX2_combine_197
          ·
            have i_11 : (lg_cmp ((f_sk p_p.toNatClampNeg) * (f_sk (p_p + 1).toNatClampNeg)) (-1000000000)).toInt ≥ 0 := by have z := g5_ltN (a := (lg_cmp ((f_sk p_p.toNatClampNeg) * (f_sk (p_p + 1).toNatClampNeg)) (-1000000000)).toInt) (b := 0) (by rfl) (by decide) c_11; omega
            refine lv_lload hx hb dX2_combine_183 (lv_at hl 0 rfl) ?_
            refine lv_ldc2 (v := 1000000000) hx hb hown (hts _ kl_X2_56) dX2_combine_185 ?_
            refine W.lcmp hx hb dX2_combine_188 ?_
            refine lv_if_gt (tgt := 196) hx hb dX2_combine_189 (by decide) (fun c_12 => ?_) (fun c_12 => ?_)
            ·
              have i_12 : (lg_cmp ((f_sk p_p.toNatClampNeg) * (f_sk (p_p + 1).toNatClampNeg)) 1000000000).toInt > 0 := by have z := g5_gt (a := (lg_cmp ((f_sk p_p.toNatClampNeg) * (f_sk (p_p + 1).toNatClampNeg)) 1000000000).toInt) (b := 0) (by rfl) (by decide) c_12; omega
              refine lv_iconst (v := 0) hx hb dX2_combine_196 (by decide) ?_
              exact W.zret (v := 0) hx hb hr rfl (fun t ht hW => ⟨⟨0, [(a_j, (oc2 a_as a_sk)), (a_sk, (arJ G 50 (vp_updL f_sk p_p.toNatClampNeg ((f_sk p_p.toNatClampNeg) * (f_sk (p_p + 1).toNatClampNeg)))))], rfl, ⟨0, (vp_updL f_sk p_p.toNatClampNeg ((f_sk p_p.toNatClampNeg) * (f_sk (p_p + 1).toNatClampNeg))), ⟨by have zc_o_r : (0 : Int32).toInt = 0 := (by decide); omega, by have zc_o_r : (0 : Int32).toInt = 0 := (by decide); omega⟩, Or.inl (by decide), rfl, rfl⟩, by rw [ht]; exact hP.sub [0, 1] rfl, hD.sub [0, 1] (by decide) rfl⟩, hS.F ht⟩) hS.2.2 dX2_combine_197
            ·
              have i_12 : (lg_cmp ((f_sk p_p.toNatClampNeg) * (f_sk (p_p + 1).toNatClampNeg)) 1000000000).toInt ≤ 0 := by have z := g5_gtN (a := (lg_cmp ((f_sk p_p.toNatClampNeg) * (f_sk (p_p + 1).toNatClampNeg)) 1000000000).toInt) (b := 0) (by rfl) (by decide) c_12; omega
              refine lv_iconst (v := 1) hx hb dX2_combine_192 (by decide) ?_
              refine lv_goto (tgt := 197) hx hb dX2_combine_193 (by decide) ?_
              exact W.zret (v := 1) hx hb hr rfl (fun t ht hW => ⟨⟨1, [(a_j, (oc2 a_as a_sk)), (a_sk, (arJ G 50 (vp_updL f_sk p_p.toNatClampNeg ((f_sk p_p.toNatClampNeg) * (f_sk (p_p + 1).toNatClampNeg)))))], rfl, ⟨1, (vp_updL f_sk p_p.toNatClampNeg ((f_sk p_p.toNatClampNeg) * (f_sk (p_p + 1).toNatClampNeg))), ⟨by have zc_o_r : (1 : Int32).toInt = 1 := (by decide); omega, by have zc_o_r : (1 : Int32).toInt = 1 := (by decide); omega⟩, Or.inr (by omega), rfl, rfl⟩, by rw [ht]; exact hP.sub [0, 1] rfl, hD.sub [0, 1] (by decide) rfl⟩, hS.F ht⟩) hS.2.2 dX2_combine_197
        ·
          have i_6 : p_o.toInt = 5 := by omega
          refine lv_tableIn (tgt := 111) hx hb dX2_combine_53 (by omega) (by omega) (by rw [s_6]; rfl) (by decide) ?_
          exact absurd i_6 n_4
        ·
          have i_6 : p_o.toInt < 2 := by omega
          refine lv_tableOut (tgt := 120) hx hb dX2_combine_53 (by omega) (by decide) ?_
          refine lv_iload_n hx hb dX2_combine_120 rfl (lv_at hl 3 rfl) ?_
          refine lv_bipush (v := 6) hx hb dX2_combine_121 (by decide) ?_
          refine lv_icmp_ne (tgt := 136) hx hb dX2_combine_123 (by decide) (fun c_13 => ?_) (fun c_13 => ?_)
          ·
            have n_13 : gNe (p_o.toInt) (6) := by have z := g5_ne (a := p_o.toInt) (b := 6) (by rfl) (by decide) c_13; unfold gNe; omega
            refine lv_iload_n hx hb dX2_combine_136 rfl (lv_at hl 3 rfl) ?_
            refine lv_bipush (v := 7) hx hb dX2_combine_137 (by decide) ?_
            refine lv_icmp_ne (tgt := 152) hx hb dX2_combine_139 (by decide) (fun c_14 => ?_) (fun c_14 => ?_)
            ·
              have n_14 : gNe (p_o.toInt) (7) := by have z := g5_ne (a := p_o.toInt) (b := 7) (by rfl) (by decide) c_14; unfold gNe; omega
              refine lv_lload_n hx hb dX2_combine_152 rfl (lv_at hl 1 rfl) ?_
              refine lv_lload hx hb dX2_combine_153 (lv_at hl 0 rfl) ?_
              refine W.lcmp hx hb dX2_combine_155 ?_
              refine lv_if_ne (tgt := 163) hx hb dX2_combine_156 (by decide) (fun c_15 => ?_) (fun c_15 => ?_)
              ·
                have n_15 : gNe ((lg_cmp (f_sk p_p.toNatClampNeg) (f_sk (p_p + 1).toNatClampNeg)).toInt) (0) := by have z := g5_ne (a := (lg_cmp (f_sk p_p.toNatClampNeg) (f_sk (p_p + 1).toNatClampNeg)).toInt) (b := 0) (by rfl) (by decide) c_15; unfold gNe; omega
                refine lv_lconst (v := 0) hx hb dX2_combine_163 (by decide) ?_
                refine lv_lstore (lv' := [(7, .long 0), (5, .long (f_sk (p_p + 1).toNatClampNeg)), (3, .long (f_sk p_p.toNatClampNeg)), (0, .ref a_j), (1, .int p_o), (2, .int p_p)]) hx hb dX2_combine_164 hl (by decide) rfl (fun ls hl => ?_)
                refine lv_aload_n hx hb dX2_combine_166 rfl (lv_at hl 3 rfl) ?_
                refine va_get (D := G.1) (ci := 2) (v := .ref a_sk) (C := RX2) (T := TX2) (N := 2) hx hb hts inG_X2 hown hK hP 0 rfl rfl 1 (by decide) (hts _ fl_X2_15) (fun _ h9 => h9) rfl dX2_combine_167 ?_
                refine lv_iload_n hx hb dX2_combine_170 rfl (lv_at hl 5 rfl) ?_
                refine lv_lload hx hb dX2_combine_171 (lv_at hl 0 rfl) ?_
                refine va_last hx hb hK hP hD hS 1 1 rfl rfl (i := p_p) (x := 0) (vp_in_iff.mpr ⟨by omega, by omega⟩) dX2_combine_173 (fun H locs hP hD hS => ?_)
                refine g5_rs [(a_j, (oc2 a_as a_sk)), (a_sk, (arJ G 50 (vp_updL f_sk p_p.toNatClampNeg 0)))] hP hD (fun hP hD => ?_)
                refine lv_lload hx hb dX2_combine_174 (lv_at hl 0 rfl) ?_
                refine lv_ldc2 (v := (-1000000000)) hx hb hown (hts _ kl_X2_54) dX2_combine_176 ?_
                refine W.lcmp hx hb dX2_combine_179 ?_
                refine g5_ti (v := 1) (by decide) ?_
                refine lv_if_lt (tgt := 196) hx hb dX2_combine_180 (by decide) (fun c_16 => ?_) (fun c_16 => ?_)
                ·
                  exact absurd c_16 (by decide)
                ·
                  refine lv_lload hx hb dX2_combine_183 (lv_at hl 0 rfl) ?_
                  refine lv_ldc2 (v := 1000000000) hx hb hown (hts _ kl_X2_56) dX2_combine_185 ?_
                  refine W.lcmp hx hb dX2_combine_188 ?_
                  refine g5_ti (v := (-1)) (by decide) ?_
                  refine lv_if_gt (tgt := 196) hx hb dX2_combine_189 (by decide) (fun c_17 => ?_) (fun c_17 => ?_)
                  ·
                    exact absurd c_17 (by decide)
                  ·
                    refine lv_iconst (v := 1) hx hb dX2_combine_192 (by decide) ?_
                    refine lv_goto (tgt := 197) hx hb dX2_combine_193 (by decide) ?_
                    exact W.zret (v := 1) hx hb hr rfl (fun t ht hW => ⟨⟨1, [(a_j, (oc2 a_as a_sk)), (a_sk, (arJ G 50 (vp_updL f_sk p_p.toNatClampNeg 0)))], rfl, ⟨1, (vp_updL f_sk p_p.toNatClampNeg 0), ⟨by have zc_o_r : (1 : Int32).toInt = 1 := (by decide); omega, by have zc_o_r : (1 : Int32).toInt = 1 := (by decide); omega⟩, Or.inr (by omega), rfl, rfl⟩, by rw [ht]; exact hP.sub [0, 1] rfl, hD.sub [0, 1] (by decide) rfl⟩, hS.F ht⟩) hS.2.2 dX2_combine_197
              ·
                have i_15 : (lg_cmp (f_sk p_p.toNatClampNeg) (f_sk (p_p + 1).toNatClampNeg)).toInt = 0 := by have z := g5_neN (a := (lg_cmp (f_sk p_p.toNatClampNeg) (f_sk (p_p + 1).toNatClampNeg)).toInt) (b := 0) (by rfl) (by decide) c_15; omega
                refine lv_lconst (v := 1) hx hb dX2_combine_159 (by decide) ?_
                refine lv_goto (tgt := 164) hx hb dX2_combine_160 (by decide) ?_
                refine lv_lstore (lv' := [(7, .long 1), (5, .long (f_sk (p_p + 1).toNatClampNeg)), (3, .long (f_sk p_p.toNatClampNeg)), (0, .ref a_j), (1, .int p_o), (2, .int p_p)]) hx hb dX2_combine_164 hl (by decide) rfl (fun ls hl => ?_)
                refine lv_aload_n hx hb dX2_combine_166 rfl (lv_at hl 3 rfl) ?_
                refine va_get (D := G.1) (ci := 2) (v := .ref a_sk) (C := RX2) (T := TX2) (N := 2) hx hb hts inG_X2 hown hK hP 0 rfl rfl 1 (by decide) (hts _ fl_X2_15) (fun _ h9 => h9) rfl dX2_combine_167 ?_
                refine lv_iload_n hx hb dX2_combine_170 rfl (lv_at hl 5 rfl) ?_
                refine lv_lload hx hb dX2_combine_171 (lv_at hl 0 rfl) ?_
                refine va_last hx hb hK hP hD hS 1 1 rfl rfl (i := p_p) (x := 1) (vp_in_iff.mpr ⟨by omega, by omega⟩) dX2_combine_173 (fun H locs hP hD hS => ?_)
                refine g5_rs [(a_j, (oc2 a_as a_sk)), (a_sk, (arJ G 50 (vp_updL f_sk p_p.toNatClampNeg 1)))] hP hD (fun hP hD => ?_)
                refine lv_lload hx hb dX2_combine_174 (lv_at hl 0 rfl) ?_
                refine lv_ldc2 (v := (-1000000000)) hx hb hown (hts _ kl_X2_54) dX2_combine_176 ?_
                refine W.lcmp hx hb dX2_combine_179 ?_
                refine g5_ti (v := 1) (by decide) ?_
                refine lv_if_lt (tgt := 196) hx hb dX2_combine_180 (by decide) (fun c_18 => ?_) (fun c_18 => ?_)
                ·
                  exact absurd c_18 (by decide)
                ·
                  refine lv_lload hx hb dX2_combine_183 (lv_at hl 0 rfl) ?_
                  refine lv_ldc2 (v := 1000000000) hx hb hown (hts _ kl_X2_56) dX2_combine_185 ?_
                  refine W.lcmp hx hb dX2_combine_188 ?_
                  refine g5_ti (v := (-1)) (by decide) ?_
                  refine lv_if_gt (tgt := 196) hx hb dX2_combine_189 (by decide) (fun c_19 => ?_) (fun c_19 => ?_)
                  ·
                    exact absurd c_19 (by decide)
                  ·
                    refine lv_iconst (v := 1) hx hb dX2_combine_192 (by decide) ?_
                    refine lv_goto (tgt := 197) hx hb dX2_combine_193 (by decide) ?_
                    exact W.zret (v := 1) hx hb hr rfl (fun t ht hW => ⟨⟨1, [(a_j, (oc2 a_as a_sk)), (a_sk, (arJ G 50 (vp_updL f_sk p_p.toNatClampNeg 1)))], rfl, ⟨1, (vp_updL f_sk p_p.toNatClampNeg 1), ⟨by have zc_o_r : (1 : Int32).toInt = 1 := (by decide); omega, by have zc_o_r : (1 : Int32).toInt = 1 := (by decide); omega⟩, Or.inr (by omega), rfl, rfl⟩, by rw [ht]; exact hP.sub [0, 1] rfl, hD.sub [0, 1] (by decide) rfl⟩, hS.F ht⟩) hS.2.2 dX2_combine_197
            ·
              have i_14 : p_o.toInt = 7 := by have z := g5_neN (a := p_o.toInt) (b := 7) (by rfl) (by decide) c_14; omega
              omega
          ·
            have i_13 : p_o.toInt = 6 := by have z := g5_neN (a := p_o.toInt) (b := 6) (by rfl) (by decide) c_13; omega
            omega
        ·
          have i_6 : p_o.toInt > 5 := by omega
          refine lv_tableOut (tgt := 120) hx hb dX2_combine_53 (by omega) (by decide) ?_
          refine lv_iload_n hx hb dX2_combine_120 rfl (lv_at hl 3 rfl) ?_
          refine lv_bipush (v := 6) hx hb dX2_combine_121 (by decide) ?_
          refine lv_icmp_ne (tgt := 136) hx hb dX2_combine_123 (by decide) (fun c_20 => ?_) (fun c_20 => ?_)
          ·
            have n_20 : gNe (p_o.toInt) (6) := by have z := g5_ne (a := p_o.toInt) (b := 6) (by rfl) (by decide) c_20; unfold gNe; omega
            have i_20 : p_o.toInt ≥ 7 := by have z := g5_ne (a := p_o.toInt) (b := 6) (by rfl) (by decide) c_20; omega
            refine lv_iload_n hx hb dX2_combine_136 rfl (lv_at hl 3 rfl) ?_
            refine lv_bipush (v := 7) hx hb dX2_combine_137 (by decide) ?_
            refine lv_icmp_ne (tgt := 152) hx hb dX2_combine_139 (by decide) (fun c_21 => ?_) (fun c_21 => ?_)
            ·
              have n_21 : gNe (p_o.toInt) (7) := by have z := g5_ne (a := p_o.toInt) (b := 7) (by rfl) (by decide) c_21; unfold gNe; omega
              have i_21 : p_o.toInt ≥ 8 := by have z := g5_ne (a := p_o.toInt) (b := 7) (by rfl) (by decide) c_21; omega
              refine lv_lload_n hx hb dX2_combine_152 rfl (lv_at hl 1 rfl) ?_
              refine lv_lload hx hb dX2_combine_153 (lv_at hl 0 rfl) ?_
              refine W.lcmp hx hb dX2_combine_155 ?_
              refine lv_if_ne (tgt := 163) hx hb dX2_combine_156 (by decide) (fun c_22 => ?_) (fun c_22 => ?_)
              ·
                have n_22 : gNe ((lg_cmp (f_sk p_p.toNatClampNeg) (f_sk (p_p + 1).toNatClampNeg)).toInt) (0) := by have z := g5_ne (a := (lg_cmp (f_sk p_p.toNatClampNeg) (f_sk (p_p + 1).toNatClampNeg)).toInt) (b := 0) (by rfl) (by decide) c_22; unfold gNe; omega
                refine lv_lconst (v := 0) hx hb dX2_combine_163 (by decide) ?_
                refine lv_lstore (lv' := [(7, .long 0), (5, .long (f_sk (p_p + 1).toNatClampNeg)), (3, .long (f_sk p_p.toNatClampNeg)), (0, .ref a_j), (1, .int p_o), (2, .int p_p)]) hx hb dX2_combine_164 hl (by decide) rfl (fun ls hl => ?_)
                refine lv_aload_n hx hb dX2_combine_166 rfl (lv_at hl 3 rfl) ?_
                refine va_get (D := G.1) (ci := 2) (v := .ref a_sk) (C := RX2) (T := TX2) (N := 2) hx hb hts inG_X2 hown hK hP 0 rfl rfl 1 (by decide) (hts _ fl_X2_15) (fun _ h9 => h9) rfl dX2_combine_167 ?_
                refine lv_iload_n hx hb dX2_combine_170 rfl (lv_at hl 5 rfl) ?_
                refine lv_lload hx hb dX2_combine_171 (lv_at hl 0 rfl) ?_
                refine va_last hx hb hK hP hD hS 1 1 rfl rfl (i := p_p) (x := 0) (vp_in_iff.mpr ⟨by omega, by omega⟩) dX2_combine_173 (fun H locs hP hD hS => ?_)
                refine g5_rs [(a_j, (oc2 a_as a_sk)), (a_sk, (arJ G 50 (vp_updL f_sk p_p.toNatClampNeg 0)))] hP hD (fun hP hD => ?_)
                refine lv_lload hx hb dX2_combine_174 (lv_at hl 0 rfl) ?_
                refine lv_ldc2 (v := (-1000000000)) hx hb hown (hts _ kl_X2_54) dX2_combine_176 ?_
                refine W.lcmp hx hb dX2_combine_179 ?_
                refine g5_ti (v := 1) (by decide) ?_
                refine lv_if_lt (tgt := 196) hx hb dX2_combine_180 (by decide) (fun c_23 => ?_) (fun c_23 => ?_)
                ·
                  exact absurd c_23 (by decide)
                ·
                  refine lv_lload hx hb dX2_combine_183 (lv_at hl 0 rfl) ?_
                  refine lv_ldc2 (v := 1000000000) hx hb hown (hts _ kl_X2_56) dX2_combine_185 ?_
                  refine W.lcmp hx hb dX2_combine_188 ?_
                  refine g5_ti (v := (-1)) (by decide) ?_
                  refine lv_if_gt (tgt := 196) hx hb dX2_combine_189 (by decide) (fun c_24 => ?_) (fun c_24 => ?_)
                  ·
                    exact absurd c_24 (by decide)
                  ·
                    refine lv_iconst (v := 1) hx hb dX2_combine_192 (by decide) ?_
                    refine lv_goto (tgt := 197) hx hb dX2_combine_193 (by decide) ?_
                    exact W.zret (v := 1) hx hb hr rfl (fun t ht hW => ⟨⟨1, [(a_j, (oc2 a_as a_sk)), (a_sk, (arJ G 50 (vp_updL f_sk p_p.toNatClampNeg 0)))], rfl, ⟨1, (vp_updL f_sk p_p.toNatClampNeg 0), ⟨by have zc_o_r : (1 : Int32).toInt = 1 := (by decide); omega, by have zc_o_r : (1 : Int32).toInt = 1 := (by decide); omega⟩, Or.inr (by omega), rfl, rfl⟩, by rw [ht]; exact hP.sub [0, 1] rfl, hD.sub [0, 1] (by decide) rfl⟩, hS.F ht⟩) hS.2.2 dX2_combine_197
              ·
                have i_22 : (lg_cmp (f_sk p_p.toNatClampNeg) (f_sk (p_p + 1).toNatClampNeg)).toInt = 0 := by have z := g5_neN (a := (lg_cmp (f_sk p_p.toNatClampNeg) (f_sk (p_p + 1).toNatClampNeg)).toInt) (b := 0) (by rfl) (by decide) c_22; omega
                refine lv_lconst (v := 1) hx hb dX2_combine_159 (by decide) ?_
                refine lv_goto (tgt := 164) hx hb dX2_combine_160 (by decide) ?_
                refine lv_lstore (lv' := [(7, .long 1), (5, .long (f_sk (p_p + 1).toNatClampNeg)), (3, .long (f_sk p_p.toNatClampNeg)), (0, .ref a_j), (1, .int p_o), (2, .int p_p)]) hx hb dX2_combine_164 hl (by decide) rfl (fun ls hl => ?_)
                refine lv_aload_n hx hb dX2_combine_166 rfl (lv_at hl 3 rfl) ?_
                refine va_get (D := G.1) (ci := 2) (v := .ref a_sk) (C := RX2) (T := TX2) (N := 2) hx hb hts inG_X2 hown hK hP 0 rfl rfl 1 (by decide) (hts _ fl_X2_15) (fun _ h9 => h9) rfl dX2_combine_167 ?_
                refine lv_iload_n hx hb dX2_combine_170 rfl (lv_at hl 5 rfl) ?_
                refine lv_lload hx hb dX2_combine_171 (lv_at hl 0 rfl) ?_
                refine va_last hx hb hK hP hD hS 1 1 rfl rfl (i := p_p) (x := 1) (vp_in_iff.mpr ⟨by omega, by omega⟩) dX2_combine_173 (fun H locs hP hD hS => ?_)
                refine g5_rs [(a_j, (oc2 a_as a_sk)), (a_sk, (arJ G 50 (vp_updL f_sk p_p.toNatClampNeg 1)))] hP hD (fun hP hD => ?_)
                refine lv_lload hx hb dX2_combine_174 (lv_at hl 0 rfl) ?_
                refine lv_ldc2 (v := (-1000000000)) hx hb hown (hts _ kl_X2_54) dX2_combine_176 ?_
                refine W.lcmp hx hb dX2_combine_179 ?_
                refine g5_ti (v := 1) (by decide) ?_
                refine lv_if_lt (tgt := 196) hx hb dX2_combine_180 (by decide) (fun c_25 => ?_) (fun c_25 => ?_)
                ·
                  exact absurd c_25 (by decide)
                ·
                  refine lv_lload hx hb dX2_combine_183 (lv_at hl 0 rfl) ?_
                  refine lv_ldc2 (v := 1000000000) hx hb hown (hts _ kl_X2_56) dX2_combine_185 ?_
                  refine W.lcmp hx hb dX2_combine_188 ?_
                  refine g5_ti (v := (-1)) (by decide) ?_
                  refine lv_if_gt (tgt := 196) hx hb dX2_combine_189 (by decide) (fun c_26 => ?_) (fun c_26 => ?_)
                  ·
                    exact absurd c_26 (by decide)
                  ·
                    refine lv_iconst (v := 1) hx hb dX2_combine_192 (by decide) ?_
                    refine lv_goto (tgt := 197) hx hb dX2_combine_193 (by decide) ?_
                    exact W.zret (v := 1) hx hb hr rfl (fun t ht hW => ⟨⟨1, [(a_j, (oc2 a_as a_sk)), (a_sk, (arJ G 50 (vp_updL f_sk p_p.toNatClampNeg 1)))], rfl, ⟨1, (vp_updL f_sk p_p.toNatClampNeg 1), ⟨by have zc_o_r : (1 : Int32).toInt = 1 := (by decide); omega, by have zc_o_r : (1 : Int32).toInt = 1 := (by decide); omega⟩, Or.inr (by omega), rfl, rfl⟩, by rw [ht]; exact hP.sub [0, 1] rfl, hD.sub [0, 1] (by decide) rfl⟩, hS.F ht⟩) hS.2.2 dX2_combine_197
            ·
              have i_21 : p_o.toInt = 7 := by have z := g5_neN (a := p_o.toInt) (b := 7) (by rfl) (by decide) c_21; omega
              refine lv_lload_n hx hb dX2_combine_142 rfl (lv_at hl 1 rfl) ?_
              refine lv_lload hx hb dX2_combine_143 (lv_at hl 0 rfl) ?_
              refine W.lcmp hx hb dX2_combine_145 ?_
              refine lv_if_le (tgt := 163) hx hb dX2_combine_146 (by decide) (fun c_27 => ?_) (fun c_27 => ?_)
              ·
                have i_27 : (lg_cmp (f_sk p_p.toNatClampNeg) (f_sk (p_p + 1).toNatClampNeg)).toInt ≤ 0 := by have z := g5_le (a := (lg_cmp (f_sk p_p.toNatClampNeg) (f_sk (p_p + 1).toNatClampNeg)).toInt) (b := 0) (by rfl) (by decide) c_27; omega
                refine lv_lconst (v := 0) hx hb dX2_combine_163 (by decide) ?_
                refine lv_lstore (lv' := [(7, .long 0), (5, .long (f_sk (p_p + 1).toNatClampNeg)), (3, .long (f_sk p_p.toNatClampNeg)), (0, .ref a_j), (1, .int p_o), (2, .int p_p)]) hx hb dX2_combine_164 hl (by decide) rfl (fun ls hl => ?_)
                refine lv_aload_n hx hb dX2_combine_166 rfl (lv_at hl 3 rfl) ?_
                refine va_get (D := G.1) (ci := 2) (v := .ref a_sk) (C := RX2) (T := TX2) (N := 2) hx hb hts inG_X2 hown hK hP 0 rfl rfl 1 (by decide) (hts _ fl_X2_15) (fun _ h9 => h9) rfl dX2_combine_167 ?_
                refine lv_iload_n hx hb dX2_combine_170 rfl (lv_at hl 5 rfl) ?_
                refine lv_lload hx hb dX2_combine_171 (lv_at hl 0 rfl) ?_
                refine va_last hx hb hK hP hD hS 1 1 rfl rfl (i := p_p) (x := 0) (vp_in_iff.mpr ⟨by omega, by omega⟩) dX2_combine_173 (fun H locs hP hD hS => ?_)
                refine g5_rs [(a_j, (oc2 a_as a_sk)), (a_sk, (arJ G 50 (vp_updL f_sk p_p.toNatClampNeg 0)))] hP hD (fun hP hD => ?_)
                refine lv_lload hx hb dX2_combine_174 (lv_at hl 0 rfl) ?_
                refine lv_ldc2 (v := (-1000000000)) hx hb hown (hts _ kl_X2_54) dX2_combine_176 ?_
                refine W.lcmp hx hb dX2_combine_179 ?_
                refine g5_ti (v := 1) (by decide) ?_
                refine lv_if_lt (tgt := 196) hx hb dX2_combine_180 (by decide) (fun c_28 => ?_) (fun c_28 => ?_)
                ·
                  exact absurd c_28 (by decide)
                ·
                  refine lv_lload hx hb dX2_combine_183 (lv_at hl 0 rfl) ?_
                  refine lv_ldc2 (v := 1000000000) hx hb hown (hts _ kl_X2_56) dX2_combine_185 ?_
                  refine W.lcmp hx hb dX2_combine_188 ?_
                  refine g5_ti (v := (-1)) (by decide) ?_
                  refine lv_if_gt (tgt := 196) hx hb dX2_combine_189 (by decide) (fun c_29 => ?_) (fun c_29 => ?_)
                  ·
                    exact absurd c_29 (by decide)
                  ·
                    refine lv_iconst (v := 1) hx hb dX2_combine_192 (by decide) ?_
                    refine lv_goto (tgt := 197) hx hb dX2_combine_193 (by decide) ?_
                    exact W.zret (v := 1) hx hb hr rfl (fun t ht hW => ⟨⟨1, [(a_j, (oc2 a_as a_sk)), (a_sk, (arJ G 50 (vp_updL f_sk p_p.toNatClampNeg 0)))], rfl, ⟨1, (vp_updL f_sk p_p.toNatClampNeg 0), ⟨by have zc_o_r : (1 : Int32).toInt = 1 := (by decide); omega, by have zc_o_r : (1 : Int32).toInt = 1 := (by decide); omega⟩, Or.inr (by omega), rfl, rfl⟩, by rw [ht]; exact hP.sub [0, 1] rfl, hD.sub [0, 1] (by decide) rfl⟩, hS.F ht⟩) hS.2.2 dX2_combine_197
              ·
                have i_27 : (lg_cmp (f_sk p_p.toNatClampNeg) (f_sk (p_p + 1).toNatClampNeg)).toInt > 0 := by have z := g5_leN (a := (lg_cmp (f_sk p_p.toNatClampNeg) (f_sk (p_p + 1).toNatClampNeg)).toInt) (b := 0) (by rfl) (by decide) c_27; omega
                refine lv_goto (tgt := 159) hx hb dX2_combine_149 (by decide) ?_
                refine lv_lconst (v := 1) hx hb dX2_combine_159 (by decide) ?_
                refine lv_goto (tgt := 164) hx hb dX2_combine_160 (by decide) ?_
                refine lv_lstore (lv' := [(7, .long 1), (5, .long (f_sk (p_p + 1).toNatClampNeg)), (3, .long (f_sk p_p.toNatClampNeg)), (0, .ref a_j), (1, .int p_o), (2, .int p_p)]) hx hb dX2_combine_164 hl (by decide) rfl (fun ls hl => ?_)
                refine lv_aload_n hx hb dX2_combine_166 rfl (lv_at hl 3 rfl) ?_
                refine va_get (D := G.1) (ci := 2) (v := .ref a_sk) (C := RX2) (T := TX2) (N := 2) hx hb hts inG_X2 hown hK hP 0 rfl rfl 1 (by decide) (hts _ fl_X2_15) (fun _ h9 => h9) rfl dX2_combine_167 ?_
                refine lv_iload_n hx hb dX2_combine_170 rfl (lv_at hl 5 rfl) ?_
                refine lv_lload hx hb dX2_combine_171 (lv_at hl 0 rfl) ?_
                refine va_last hx hb hK hP hD hS 1 1 rfl rfl (i := p_p) (x := 1) (vp_in_iff.mpr ⟨by omega, by omega⟩) dX2_combine_173 (fun H locs hP hD hS => ?_)
                refine g5_rs [(a_j, (oc2 a_as a_sk)), (a_sk, (arJ G 50 (vp_updL f_sk p_p.toNatClampNeg 1)))] hP hD (fun hP hD => ?_)
                refine lv_lload hx hb dX2_combine_174 (lv_at hl 0 rfl) ?_
                refine lv_ldc2 (v := (-1000000000)) hx hb hown (hts _ kl_X2_54) dX2_combine_176 ?_
                refine W.lcmp hx hb dX2_combine_179 ?_
                refine g5_ti (v := 1) (by decide) ?_
                refine lv_if_lt (tgt := 196) hx hb dX2_combine_180 (by decide) (fun c_30 => ?_) (fun c_30 => ?_)
                ·
                  exact absurd c_30 (by decide)
                ·
                  refine lv_lload hx hb dX2_combine_183 (lv_at hl 0 rfl) ?_
                  refine lv_ldc2 (v := 1000000000) hx hb hown (hts _ kl_X2_56) dX2_combine_185 ?_
                  refine W.lcmp hx hb dX2_combine_188 ?_
                  refine g5_ti (v := (-1)) (by decide) ?_
                  refine lv_if_gt (tgt := 196) hx hb dX2_combine_189 (by decide) (fun c_31 => ?_) (fun c_31 => ?_)
                  ·
                    exact absurd c_31 (by decide)
                  ·
                    refine lv_iconst (v := 1) hx hb dX2_combine_192 (by decide) ?_
                    refine lv_goto (tgt := 197) hx hb dX2_combine_193 (by decide) ?_
                    exact W.zret (v := 1) hx hb hr rfl (fun t ht hW => ⟨⟨1, [(a_j, (oc2 a_as a_sk)), (a_sk, (arJ G 50 (vp_updL f_sk p_p.toNatClampNeg 1)))], rfl, ⟨1, (vp_updL f_sk p_p.toNatClampNeg 1), ⟨by have zc_o_r : (1 : Int32).toInt = 1 := (by decide); omega, by have zc_o_r : (1 : Int32).toInt = 1 := (by decide); omega⟩, Or.inr (by omega), rfl, rfl⟩, by rw [ht]; exact hP.sub [0, 1] rfl, hD.sub [0, 1] (by decide) rfl⟩, hS.F ht⟩) hS.2.2 dX2_combine_197
          ·
            have i_20 : p_o.toInt = 6 := by have z := g5_neN (a := p_o.toInt) (b := 6) (by rfl) (by decide) c_20; omega
            refine lv_lload_n hx hb dX2_combine_126 rfl (lv_at hl 1 rfl) ?_
            refine lv_lload hx hb dX2_combine_127 (lv_at hl 0 rfl) ?_
            refine W.lcmp hx hb dX2_combine_129 ?_
            refine lv_if_ge (tgt := 163) hx hb dX2_combine_130 (by decide) (fun c_32 => ?_) (fun c_32 => ?_)
            ·
              have i_32 : (lg_cmp (f_sk p_p.toNatClampNeg) (f_sk (p_p + 1).toNatClampNeg)).toInt ≥ 0 := by have z := g5_ge (a := (lg_cmp (f_sk p_p.toNatClampNeg) (f_sk (p_p + 1).toNatClampNeg)).toInt) (b := 0) (by rfl) (by decide) c_32; omega
              refine lv_lconst (v := 0) hx hb dX2_combine_163 (by decide) ?_
              refine lv_lstore (lv' := [(7, .long 0), (5, .long (f_sk (p_p + 1).toNatClampNeg)), (3, .long (f_sk p_p.toNatClampNeg)), (0, .ref a_j), (1, .int p_o), (2, .int p_p)]) hx hb dX2_combine_164 hl (by decide) rfl (fun ls hl => ?_)
              refine lv_aload_n hx hb dX2_combine_166 rfl (lv_at hl 3 rfl) ?_
              refine va_get (D := G.1) (ci := 2) (v := .ref a_sk) (C := RX2) (T := TX2) (N := 2) hx hb hts inG_X2 hown hK hP 0 rfl rfl 1 (by decide) (hts _ fl_X2_15) (fun _ h9 => h9) rfl dX2_combine_167 ?_
              refine lv_iload_n hx hb dX2_combine_170 rfl (lv_at hl 5 rfl) ?_
              refine lv_lload hx hb dX2_combine_171 (lv_at hl 0 rfl) ?_
              refine va_last hx hb hK hP hD hS 1 1 rfl rfl (i := p_p) (x := 0) (vp_in_iff.mpr ⟨by omega, by omega⟩) dX2_combine_173 (fun H locs hP hD hS => ?_)
              refine g5_rs [(a_j, (oc2 a_as a_sk)), (a_sk, (arJ G 50 (vp_updL f_sk p_p.toNatClampNeg 0)))] hP hD (fun hP hD => ?_)
              refine lv_lload hx hb dX2_combine_174 (lv_at hl 0 rfl) ?_
              refine lv_ldc2 (v := (-1000000000)) hx hb hown (hts _ kl_X2_54) dX2_combine_176 ?_
              refine W.lcmp hx hb dX2_combine_179 ?_
              refine g5_ti (v := 1) (by decide) ?_
              refine lv_if_lt (tgt := 196) hx hb dX2_combine_180 (by decide) (fun c_33 => ?_) (fun c_33 => ?_)
              ·
                exact absurd c_33 (by decide)
              ·
                refine lv_lload hx hb dX2_combine_183 (lv_at hl 0 rfl) ?_
                refine lv_ldc2 (v := 1000000000) hx hb hown (hts _ kl_X2_56) dX2_combine_185 ?_
                refine W.lcmp hx hb dX2_combine_188 ?_
                refine g5_ti (v := (-1)) (by decide) ?_
                refine lv_if_gt (tgt := 196) hx hb dX2_combine_189 (by decide) (fun c_34 => ?_) (fun c_34 => ?_)
                ·
                  exact absurd c_34 (by decide)
                ·
                  refine lv_iconst (v := 1) hx hb dX2_combine_192 (by decide) ?_
                  refine lv_goto (tgt := 197) hx hb dX2_combine_193 (by decide) ?_
                  exact W.zret (v := 1) hx hb hr rfl (fun t ht hW => ⟨⟨1, [(a_j, (oc2 a_as a_sk)), (a_sk, (arJ G 50 (vp_updL f_sk p_p.toNatClampNeg 0)))], rfl, ⟨1, (vp_updL f_sk p_p.toNatClampNeg 0), ⟨by have zc_o_r : (1 : Int32).toInt = 1 := (by decide); omega, by have zc_o_r : (1 : Int32).toInt = 1 := (by decide); omega⟩, Or.inr (by omega), rfl, rfl⟩, by rw [ht]; exact hP.sub [0, 1] rfl, hD.sub [0, 1] (by decide) rfl⟩, hS.F ht⟩) hS.2.2 dX2_combine_197
            ·
              have i_32 : (lg_cmp (f_sk p_p.toNatClampNeg) (f_sk (p_p + 1).toNatClampNeg)).toInt < 0 := by have z := g5_geN (a := (lg_cmp (f_sk p_p.toNatClampNeg) (f_sk (p_p + 1).toNatClampNeg)).toInt) (b := 0) (by rfl) (by decide) c_32; omega
              refine lv_goto (tgt := 159) hx hb dX2_combine_133 (by decide) ?_
              refine lv_lconst (v := 1) hx hb dX2_combine_159 (by decide) ?_
              refine lv_goto (tgt := 164) hx hb dX2_combine_160 (by decide) ?_
              refine lv_lstore (lv' := [(7, .long 1), (5, .long (f_sk (p_p + 1).toNatClampNeg)), (3, .long (f_sk p_p.toNatClampNeg)), (0, .ref a_j), (1, .int p_o), (2, .int p_p)]) hx hb dX2_combine_164 hl (by decide) rfl (fun ls hl => ?_)
              refine lv_aload_n hx hb dX2_combine_166 rfl (lv_at hl 3 rfl) ?_
              refine va_get (D := G.1) (ci := 2) (v := .ref a_sk) (C := RX2) (T := TX2) (N := 2) hx hb hts inG_X2 hown hK hP 0 rfl rfl 1 (by decide) (hts _ fl_X2_15) (fun _ h9 => h9) rfl dX2_combine_167 ?_
              refine lv_iload_n hx hb dX2_combine_170 rfl (lv_at hl 5 rfl) ?_
              refine lv_lload hx hb dX2_combine_171 (lv_at hl 0 rfl) ?_
              refine va_last hx hb hK hP hD hS 1 1 rfl rfl (i := p_p) (x := 1) (vp_in_iff.mpr ⟨by omega, by omega⟩) dX2_combine_173 (fun H locs hP hD hS => ?_)
              refine g5_rs [(a_j, (oc2 a_as a_sk)), (a_sk, (arJ G 50 (vp_updL f_sk p_p.toNatClampNeg 1)))] hP hD (fun hP hD => ?_)
              refine lv_lload hx hb dX2_combine_174 (lv_at hl 0 rfl) ?_
              refine lv_ldc2 (v := (-1000000000)) hx hb hown (hts _ kl_X2_54) dX2_combine_176 ?_
              refine W.lcmp hx hb dX2_combine_179 ?_
              refine g5_ti (v := 1) (by decide) ?_
              refine lv_if_lt (tgt := 196) hx hb dX2_combine_180 (by decide) (fun c_35 => ?_) (fun c_35 => ?_)
              ·
                exact absurd c_35 (by decide)
              ·
                refine lv_lload hx hb dX2_combine_183 (lv_at hl 0 rfl) ?_
                refine lv_ldc2 (v := 1000000000) hx hb hown (hts _ kl_X2_56) dX2_combine_185 ?_
                refine W.lcmp hx hb dX2_combine_188 ?_
                refine g5_ti (v := (-1)) (by decide) ?_
                refine lv_if_gt (tgt := 196) hx hb dX2_combine_189 (by decide) (fun c_36 => ?_) (fun c_36 => ?_)
                ·
                  exact absurd c_36 (by decide)
                ·
                  refine lv_iconst (v := 1) hx hb dX2_combine_192 (by decide) ?_
                  refine lv_goto (tgt := 197) hx hb dX2_combine_193 (by decide) ?_
                  exact W.zret (v := 1) hx hb hr rfl (fun t ht hW => ⟨⟨1, [(a_j, (oc2 a_as a_sk)), (a_sk, (arJ G 50 (vp_updL f_sk p_p.toNatClampNeg 1)))], rfl, ⟨1, (vp_updL f_sk p_p.toNatClampNeg 1), ⟨by have zc_o_r : (1 : Int32).toInt = 1 := (by decide); omega, by have zc_o_r : (1 : Int32).toInt = 1 := (by decide); omega⟩, Or.inr (by omega), rfl, rfl⟩, by rw [ht]; exact hP.sub [0, 1] rfl, hD.sub [0, 1] (by decide) rfl⟩, hS.F ht⟩) hS.2.2 dX2_combine_197
      ·
        have i_4 : p_o.toInt = 5 := by have z := g5_neN (a := p_o.toInt) (b := 5) (by rfl) (by decide) c_4; omega
        refine lv_aload_n hx hb dX2_combine_20 rfl (lv_at hl 0 rfl) ?_
        refine va_get (D := G.1) (ci := 2) (v := .ref a_sk) (C := RX2) (T := TX2) (N := 2) hx hb hts inG_X2 hown hK hP 0 rfl rfl 1 (by decide) (hts _ fl_X2_15) (fun _ h9 => h9) rfl dX2_combine_21 ?_
        refine lv_iload_n hx hb dX2_combine_24 rfl (lv_at hl 2 rfl) ?_
        refine lv_iconst (v := 1) hx hb dX2_combine_25 (by decide) ?_
        refine lv_iadd hx hb dX2_combine_26 ?_
        have t_37 : (p_p + 1).toInt = p_p.toInt + 1 := g5_iadd (a := p_p.toInt) (b := 1) (by rfl) (by decide) (by omega) (by omega)
        refine va_lald hx hb hK hP 1 1 rfl rfl (i := (p_p + 1)) (vp_in_iff.mpr ⟨by omega, by omega⟩) dX2_combine_27 ?_
        refine lv_lconst (v := 0) hx hb dX2_combine_28 (by decide) ?_
        refine W.lcmp hx hb dX2_combine_29 ?_
        refine lv_if_ne (tgt := 35) hx hb dX2_combine_30 (by decide) (fun c_38 => ?_) (fun c_38 => ?_)
        ·
          have n_38 : gNe ((lg_cmp (f_sk (p_p + 1).toNatClampNeg) 0).toInt) (0) := by have z := g5_ne (a := (lg_cmp (f_sk (p_p + 1).toNatClampNeg) 0).toInt) (b := 0) (by rfl) (by decide) c_38; unfold gNe; omega
          refine lv_aload_n hx hb dX2_combine_35 rfl (lv_at hl 0 rfl) ?_
          refine va_get (D := G.1) (ci := 2) (v := .ref a_sk) (C := RX2) (T := TX2) (N := 2) hx hb hts inG_X2 hown hK hP 0 rfl rfl 1 (by decide) (hts _ fl_X2_15) (fun _ h9 => h9) rfl dX2_combine_36 ?_
          refine lv_iload_n hx hb dX2_combine_39 rfl (lv_at hl 2 rfl) ?_
          refine va_lald hx hb hK hP 1 1 rfl rfl (i := p_p) (vp_in_iff.mpr ⟨by omega, by omega⟩) dX2_combine_40 ?_
          refine lv_lstore_n (lv' := [(3, .long (f_sk p_p.toNatClampNeg)), (0, .ref a_j), (1, .int p_o), (2, .int p_p)]) hx hb dX2_combine_41 rfl hl (by decide) rfl (fun ls hl => ?_)
          refine lv_aload_n hx hb dX2_combine_42 rfl (lv_at hl 1 rfl) ?_
          refine va_get (D := G.1) (ci := 2) (v := .ref a_sk) (C := RX2) (T := TX2) (N := 2) hx hb hts inG_X2 hown hK hP 0 rfl rfl 1 (by decide) (hts _ fl_X2_15) (fun _ h9 => h9) rfl dX2_combine_43 ?_
          refine lv_iload_n hx hb dX2_combine_46 rfl (lv_at hl 3 rfl) ?_
          refine lv_iconst (v := 1) hx hb dX2_combine_47 (by decide) ?_
          refine lv_iadd hx hb dX2_combine_48 ?_
          have t_39 : (p_p + 1).toInt = p_p.toInt + 1 := g5_iadd (a := p_p.toInt) (b := 1) (by rfl) (by decide) (by omega) (by omega)
          refine va_lald hx hb hK hP 1 1 rfl rfl (i := (p_p + 1)) (vp_in_iff.mpr ⟨by omega, by omega⟩) dX2_combine_49 ?_
          refine lv_lstore (lv' := [(5, .long (f_sk (p_p + 1).toNatClampNeg)), (3, .long (f_sk p_p.toNatClampNeg)), (0, .ref a_j), (1, .int p_o), (2, .int p_p)]) hx hb dX2_combine_50 hl (by decide) rfl (fun ls hl => ?_)
          refine lv_iload_n hx hb dX2_combine_52 rfl (lv_at hl 3 rfl) ?_
          have s_40 : p_o.toInt = 5 := by omega
          have i_40 : p_o.toInt = 5 := by omega
          refine lv_tableIn (tgt := 111) hx hb dX2_combine_53 (by omega) (by omega) (by rw [s_40]; rfl) (by decide) ?_
          refine lv_lload_n hx hb dX2_combine_111 rfl (lv_at hl 1 rfl) ?_
          refine lv_lload hx hb dX2_combine_112 (lv_at hl 0 rfl) ?_
          refine lv_ldiv hx hb dX2_combine_114 (g5_cmp1 n_38) ?_
          refine lv_lstore (lv' := [(7, .long ((f_sk p_p.toNatClampNeg) / (f_sk (p_p + 1).toNatClampNeg))), (5, .long (f_sk (p_p + 1).toNatClampNeg)), (3, .long (f_sk p_p.toNatClampNeg)), (0, .ref a_j), (1, .int p_o), (2, .int p_p)]) hx hb dX2_combine_115 hl (by decide) rfl (fun ls hl => ?_)
          refine lv_goto (tgt := 166) hx hb dX2_combine_117 (by decide) ?_
          refine lv_aload_n hx hb dX2_combine_166 rfl (lv_at hl 3 rfl) ?_
          refine va_get (D := G.1) (ci := 2) (v := .ref a_sk) (C := RX2) (T := TX2) (N := 2) hx hb hts inG_X2 hown hK hP 0 rfl rfl 1 (by decide) (hts _ fl_X2_15) (fun _ h9 => h9) rfl dX2_combine_167 ?_
          refine lv_iload_n hx hb dX2_combine_170 rfl (lv_at hl 5 rfl) ?_
          refine lv_lload hx hb dX2_combine_171 (lv_at hl 0 rfl) ?_
          refine va_last hx hb hK hP hD hS 1 1 rfl rfl (i := p_p) (x := ((f_sk p_p.toNatClampNeg) / (f_sk (p_p + 1).toNatClampNeg))) (vp_in_iff.mpr ⟨by omega, by omega⟩) dX2_combine_173 (fun H locs hP hD hS => ?_)
          refine g5_rs [(a_j, (oc2 a_as a_sk)), (a_sk, (arJ G 50 (vp_updL f_sk p_p.toNatClampNeg ((f_sk p_p.toNatClampNeg) / (f_sk (p_p + 1).toNatClampNeg)))))] hP hD (fun hP hD => ?_)
          refine lv_lload hx hb dX2_combine_174 (lv_at hl 0 rfl) ?_
          refine lv_ldc2 (v := (-1000000000)) hx hb hown (hts _ kl_X2_54) dX2_combine_176 ?_
          refine W.lcmp hx hb dX2_combine_179 ?_
          refine lv_if_lt (tgt := 196) hx hb dX2_combine_180 (by decide) (fun c_41 => ?_) (fun c_41 => ?_)
          ·
            have i_41 : (lg_cmp ((f_sk p_p.toNatClampNeg) / (f_sk (p_p + 1).toNatClampNeg)) (-1000000000)).toInt < 0 := by have z := g5_lt (a := (lg_cmp ((f_sk p_p.toNatClampNeg) / (f_sk (p_p + 1).toNatClampNeg)) (-1000000000)).toInt) (b := 0) (by rfl) (by decide) c_41; omega
            refine lv_iconst (v := 0) hx hb dX2_combine_196 (by decide) ?_
            exact W.zret (v := 0) hx hb hr rfl (fun t ht hW => ⟨⟨0, [(a_j, (oc2 a_as a_sk)), (a_sk, (arJ G 50 (vp_updL f_sk p_p.toNatClampNeg ((f_sk p_p.toNatClampNeg) / (f_sk (p_p + 1).toNatClampNeg)))))], rfl, ⟨0, (vp_updL f_sk p_p.toNatClampNeg ((f_sk p_p.toNatClampNeg) / (f_sk (p_p + 1).toNatClampNeg))), ⟨by have zc_o_r : (0 : Int32).toInt = 0 := (by decide); omega, by have zc_o_r : (0 : Int32).toInt = 0 := (by decide); omega⟩, Or.inl (by decide), rfl, rfl⟩, by rw [ht]; exact hP.sub [0, 1] rfl, hD.sub [0, 1] (by decide) rfl⟩, hS.F ht⟩) hS.2.2 dX2_combine_197
          ·
            have i_41 : (lg_cmp ((f_sk p_p.toNatClampNeg) / (f_sk (p_p + 1).toNatClampNeg)) (-1000000000)).toInt ≥ 0 := by have z := g5_ltN (a := (lg_cmp ((f_sk p_p.toNatClampNeg) / (f_sk (p_p + 1).toNatClampNeg)) (-1000000000)).toInt) (b := 0) (by rfl) (by decide) c_41; omega
            refine lv_lload hx hb dX2_combine_183 (lv_at hl 0 rfl) ?_
            refine lv_ldc2 (v := 1000000000) hx hb hown (hts _ kl_X2_56) dX2_combine_185 ?_
            refine W.lcmp hx hb dX2_combine_188 ?_
            refine lv_if_gt (tgt := 196) hx hb dX2_combine_189 (by decide) (fun c_42 => ?_) (fun c_42 => ?_)
            ·
              have i_42 : (lg_cmp ((f_sk p_p.toNatClampNeg) / (f_sk (p_p + 1).toNatClampNeg)) 1000000000).toInt > 0 := by have z := g5_gt (a := (lg_cmp ((f_sk p_p.toNatClampNeg) / (f_sk (p_p + 1).toNatClampNeg)) 1000000000).toInt) (b := 0) (by rfl) (by decide) c_42; omega
              refine lv_iconst (v := 0) hx hb dX2_combine_196 (by decide) ?_
              exact W.zret (v := 0) hx hb hr rfl (fun t ht hW => ⟨⟨0, [(a_j, (oc2 a_as a_sk)), (a_sk, (arJ G 50 (vp_updL f_sk p_p.toNatClampNeg ((f_sk p_p.toNatClampNeg) / (f_sk (p_p + 1).toNatClampNeg)))))], rfl, ⟨0, (vp_updL f_sk p_p.toNatClampNeg ((f_sk p_p.toNatClampNeg) / (f_sk (p_p + 1).toNatClampNeg))), ⟨by have zc_o_r : (0 : Int32).toInt = 0 := (by decide); omega, by have zc_o_r : (0 : Int32).toInt = 0 := (by decide); omega⟩, Or.inl (by decide), rfl, rfl⟩, by rw [ht]; exact hP.sub [0, 1] rfl, hD.sub [0, 1] (by decide) rfl⟩, hS.F ht⟩) hS.2.2 dX2_combine_197
            ·
              have i_42 : (lg_cmp ((f_sk p_p.toNatClampNeg) / (f_sk (p_p + 1).toNatClampNeg)) 1000000000).toInt ≤ 0 := by have z := g5_gtN (a := (lg_cmp ((f_sk p_p.toNatClampNeg) / (f_sk (p_p + 1).toNatClampNeg)) 1000000000).toInt) (b := 0) (by rfl) (by decide) c_42; omega
              refine lv_iconst (v := 1) hx hb dX2_combine_192 (by decide) ?_
              refine lv_goto (tgt := 197) hx hb dX2_combine_193 (by decide) ?_
              exact W.zret (v := 1) hx hb hr rfl (fun t ht hW => ⟨⟨1, [(a_j, (oc2 a_as a_sk)), (a_sk, (arJ G 50 (vp_updL f_sk p_p.toNatClampNeg ((f_sk p_p.toNatClampNeg) / (f_sk (p_p + 1).toNatClampNeg)))))], rfl, ⟨1, (vp_updL f_sk p_p.toNatClampNeg ((f_sk p_p.toNatClampNeg) / (f_sk (p_p + 1).toNatClampNeg))), ⟨by have zc_o_r : (1 : Int32).toInt = 1 := (by decide); omega, by have zc_o_r : (1 : Int32).toInt = 1 := (by decide); omega⟩, Or.inr (by omega), rfl, rfl⟩, by rw [ht]; exact hP.sub [0, 1] rfl, hD.sub [0, 1] (by decide) rfl⟩, hS.F ht⟩) hS.2.2 dX2_combine_197
        ·
          have i_38 : (lg_cmp (f_sk (p_p + 1).toNatClampNeg) 0).toInt = 0 := by have z := g5_neN (a := (lg_cmp (f_sk (p_p + 1).toNatClampNeg) 0).toInt) (b := 0) (by rfl) (by decide) c_38; omega
          refine lv_iconst (v := 0) hx hb dX2_combine_33 (by decide) ?_
          exact W.zret (v := 0) hx hb hr rfl (fun t ht hW => ⟨⟨0, [(a_j, (oc2 a_as a_sk)), (a_sk, (arJ G 50 f_sk))], rfl, ⟨0, f_sk, ⟨by have zc_o_r : (0 : Int32).toInt = 0 := (by decide); omega, by have zc_o_r : (0 : Int32).toInt = 0 := (by decide); omega⟩, Or.inl (by decide), rfl, rfl⟩, by rw [ht]; exact hP.sub [0, 1] rfl, hD.sub [0, 1] (by decide) rfl⟩, hS.F ht⟩) hS.2.2 dX2_combine_34
