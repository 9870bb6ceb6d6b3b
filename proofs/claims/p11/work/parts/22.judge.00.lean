theorem dX2_combine_0 : decode cX2_combine 0 = .ok (.iload_n 2, 1) := by decide +kernel
theorem dX2_combine_1 : decode cX2_combine 1 = .ok (.ifCond .lt 32, 3) := by decide +kernel
theorem dX2_combine_4 : decode cX2_combine 4 = .ok (.iload_n 2, 1) := by decide +kernel
theorem dX2_combine_5 : decode cX2_combine 5 = .ok (.iconst 1, 1) := by decide +kernel
theorem dX2_combine_6 : decode cX2_combine 6 = .ok (.iadd, 1) := by decide +kernel
theorem dX2_combine_7 : decode cX2_combine 7 = .ok (.aload_n 0, 1) := by decide +kernel
theorem dX2_combine_8 : decode cX2_combine 8 = .ok (.getfield 15, 3) := by decide +kernel
theorem dX2_combine_11 : decode cX2_combine 11 = .ok (.arraylength, 1) := by decide +kernel
theorem dX2_combine_12 : decode cX2_combine 12 = .ok (.if_icmp .ge 21, 3) := by decide +kernel
theorem dX2_combine_15 : decode cX2_combine 15 = .ok (.iload_n 1, 1) := by decide +kernel
theorem dX2_combine_16 : decode cX2_combine 16 = .ok (.iconst 5, 1) := by decide +kernel
theorem dX2_combine_17 : decode cX2_combine 17 = .ok (.if_icmp .ne 18, 3) := by decide +kernel
theorem dX2_combine_20 : decode cX2_combine 20 = .ok (.aload_n 0, 1) := by decide +kernel
theorem dX2_combine_21 : decode cX2_combine 21 = .ok (.getfield 15, 3) := by decide +kernel
theorem dX2_combine_24 : decode cX2_combine 24 = .ok (.iload_n 2, 1) := by decide +kernel
theorem dX2_combine_25 : decode cX2_combine 25 = .ok (.iconst 1, 1) := by decide +kernel
theorem dX2_combine_26 : decode cX2_combine 26 = .ok (.iadd, 1) := by decide +kernel
theorem dX2_combine_27 : decode cX2_combine 27 = .ok (.laload, 1) := by decide +kernel
theorem dX2_combine_28 : decode cX2_combine 28 = .ok (.lconst 0, 1) := by decide +kernel
theorem dX2_combine_29 : decode cX2_combine 29 = .ok (.lcmp, 1) := by decide +kernel
theorem dX2_combine_30 : decode cX2_combine 30 = .ok (.ifCond .ne 5, 3) := by decide +kernel
theorem dX2_combine_33 : decode cX2_combine 33 = .ok (.iconst 0, 1) := by decide +kernel
theorem dX2_combine_34 : decode cX2_combine 34 = .ok (.ireturn, 1) := by decide +kernel
theorem dX2_combine_35 : decode cX2_combine 35 = .ok (.aload_n 0, 1) := by decide +kernel
theorem dX2_combine_36 : decode cX2_combine 36 = .ok (.getfield 15, 3) := by decide +kernel
theorem dX2_combine_39 : decode cX2_combine 39 = .ok (.iload_n 2, 1) := by decide +kernel
theorem dX2_combine_40 : decode cX2_combine 40 = .ok (.laload, 1) := by decide +kernel
theorem dX2_combine_41 : decode cX2_combine 41 = .ok (.lstore_n 3, 1) := by decide +kernel
theorem dX2_combine_42 : decode cX2_combine 42 = .ok (.aload_n 0, 1) := by decide +kernel
theorem dX2_combine_43 : decode cX2_combine 43 = .ok (.getfield 15, 3) := by decide +kernel
theorem dX2_combine_46 : decode cX2_combine 46 = .ok (.iload_n 2, 1) := by decide +kernel
theorem dX2_combine_47 : decode cX2_combine 47 = .ok (.iconst 1, 1) := by decide +kernel
theorem dX2_combine_48 : decode cX2_combine 48 = .ok (.iadd, 1) := by decide +kernel
theorem dX2_combine_49 : decode cX2_combine 49 = .ok (.laload, 1) := by decide +kernel
theorem dX2_combine_50 : decode cX2_combine 50 = .ok (.lstore 5, 2) := by decide +kernel
theorem dX2_combine_52 : decode cX2_combine 52 = .ok (.iload_n 1, 1) := by decide +kernel
theorem dX2_combine_53 : decode cX2_combine 53 = .ok (.tableswitch 67 2 5 #[31, 40, 49, 58], 31) := by decide +kernel
theorem dX2_combine_84 : decode cX2_combine 84 = .ok (.lload_n 3, 1) := by decide +kernel
theorem dX2_combine_85 : decode cX2_combine 85 = .ok (.lload 5, 2) := by decide +kernel
theorem dX2_combine_87 : decode cX2_combine 87 = .ok (.ladd, 1) := by decide +kernel
theorem dX2_combine_88 : decode cX2_combine 88 = .ok (.lstore 7, 2) := by decide +kernel
theorem dX2_combine_90 : decode cX2_combine 90 = .ok (.goto 76, 3) := by decide +kernel
theorem dX2_combine_93 : decode cX2_combine 93 = .ok (.lload_n 3, 1) := by decide +kernel
theorem dX2_combine_94 : decode cX2_combine 94 = .ok (.lload 5, 2) := by decide +kernel
theorem dX2_combine_96 : decode cX2_combine 96 = .ok (.lsub, 1) := by decide +kernel
theorem dX2_combine_97 : decode cX2_combine 97 = .ok (.lstore 7, 2) := by decide +kernel
theorem dX2_combine_99 : decode cX2_combine 99 = .ok (.goto 67, 3) := by decide +kernel
theorem dX2_combine_102 : decode cX2_combine 102 = .ok (.lload_n 3, 1) := by decide +kernel
theorem dX2_combine_103 : decode cX2_combine 103 = .ok (.lload 5, 2) := by decide +kernel
theorem dX2_combine_105 : decode cX2_combine 105 = .ok (.lmul, 1) := by decide +kernel
theorem dX2_combine_106 : decode cX2_combine 106 = .ok (.lstore 7, 2) := by decide +kernel
theorem dX2_combine_108 : decode cX2_combine 108 = .ok (.goto 58, 3) := by decide +kernel
theorem dX2_combine_111 : decode cX2_combine 111 = .ok (.lload_n 3, 1) := by decide +kernel
theorem dX2_combine_112 : decode cX2_combine 112 = .ok (.lload 5, 2) := by decide +kernel
theorem dX2_combine_114 : decode cX2_combine 114 = .ok (.ldiv, 1) := by decide +kernel
theorem dX2_combine_115 : decode cX2_combine 115 = .ok (.lstore 7, 2) := by decide +kernel
theorem dX2_combine_117 : decode cX2_combine 117 = .ok (.goto 49, 3) := by decide +kernel
theorem dX2_combine_120 : decode cX2_combine 120 = .ok (.iload_n 1, 1) := by decide +kernel
theorem dX2_combine_121 : decode cX2_combine 121 = .ok (.bipush 6, 2) := by decide +kernel
theorem dX2_combine_123 : decode cX2_combine 123 = .ok (.if_icmp .ne 13, 3) := by decide +kernel
theorem dX2_combine_126 : decode cX2_combine 126 = .ok (.lload_n 3, 1) := by decide +kernel
theorem dX2_combine_127 : decode cX2_combine 127 = .ok (.lload 5, 2) := by decide +kernel
theorem dX2_combine_129 : decode cX2_combine 129 = .ok (.lcmp, 1) := by decide +kernel
theorem dX2_combine_130 : decode cX2_combine 130 = .ok (.ifCond .ge 33, 3) := by decide +kernel
theorem dX2_combine_133 : decode cX2_combine 133 = .ok (.goto 26, 3) := by decide +kernel
theorem dX2_combine_136 : decode cX2_combine 136 = .ok (.iload_n 1, 1) := by decide +kernel
theorem dX2_combine_137 : decode cX2_combine 137 = .ok (.bipush 7, 2) := by decide +kernel
theorem dX2_combine_139 : decode cX2_combine 139 = .ok (.if_icmp .ne 13, 3) := by decide +kernel
theorem dX2_combine_142 : decode cX2_combine 142 = .ok (.lload_n 3, 1) := by decide +kernel
theorem dX2_combine_143 : decode cX2_combine 143 = .ok (.lload 5, 2) := by decide +kernel
theorem dX2_combine_145 : decode cX2_combine 145 = .ok (.lcmp, 1) := by decide +kernel
theorem dX2_combine_146 : decode cX2_combine 146 = .ok (.ifCond .le 17, 3) := by decide +kernel
theorem dX2_combine_149 : decode cX2_combine 149 = .ok (.goto 10, 3) := by decide +kernel
theorem dX2_combine_152 : decode cX2_combine 152 = .ok (.lload_n 3, 1) := by decide +kernel
theorem dX2_combine_153 : decode cX2_combine 153 = .ok (.lload 5, 2) := by decide +kernel
theorem dX2_combine_155 : decode cX2_combine 155 = .ok (.lcmp, 1) := by decide +kernel
theorem dX2_combine_156 : decode cX2_combine 156 = .ok (.ifCond .ne 7, 3) := by decide +kernel
theorem dX2_combine_159 : decode cX2_combine 159 = .ok (.lconst 1, 1) := by decide +kernel
theorem dX2_combine_160 : decode cX2_combine 160 = .ok (.goto 4, 3) := by decide +kernel
theorem dX2_combine_163 : decode cX2_combine 163 = .ok (.lconst 0, 1) := by decide +kernel
theorem dX2_combine_164 : decode cX2_combine 164 = .ok (.lstore 7, 2) := by decide +kernel
theorem dX2_combine_166 : decode cX2_combine 166 = .ok (.aload_n 0, 1) := by decide +kernel
theorem dX2_combine_167 : decode cX2_combine 167 = .ok (.getfield 15, 3) := by decide +kernel
theorem dX2_combine_170 : decode cX2_combine 170 = .ok (.iload_n 2, 1) := by decide +kernel
theorem dX2_combine_171 : decode cX2_combine 171 = .ok (.lload 7, 2) := by decide +kernel
theorem dX2_combine_173 : decode cX2_combine 173 = .ok (.lastore, 1) := by decide +kernel
theorem dX2_combine_174 : decode cX2_combine 174 = .ok (.lload 7, 2) := by decide +kernel
theorem dX2_combine_176 : decode cX2_combine 176 = .ok (.ldc2_w 54, 3) := by decide +kernel
theorem dX2_combine_179 : decode cX2_combine 179 = .ok (.lcmp, 1) := by decide +kernel
theorem dX2_combine_180 : decode cX2_combine 180 = .ok (.ifCond .lt 16, 3) := by decide +kernel
theorem dX2_combine_183 : decode cX2_combine 183 = .ok (.lload 7, 2) := by decide +kernel
theorem dX2_combine_185 : decode cX2_combine 185 = .ok (.ldc2_w 56, 3) := by decide +kernel
theorem dX2_combine_188 : decode cX2_combine 188 = .ok (.lcmp, 1) := by decide +kernel
theorem dX2_combine_189 : decode cX2_combine 189 = .ok (.ifCond .gt 7, 3) := by decide +kernel
theorem dX2_combine_192 : decode cX2_combine 192 = .ok (.iconst 1, 1) := by decide +kernel
theorem dX2_combine_193 : decode cX2_combine 193 = .ok (.goto 4, 3) := by decide +kernel
theorem dX2_combine_196 : decode cX2_combine 196 = .ok (.iconst 0, 1) := by decide +kernel
theorem dX2_combine_197 : decode cX2_combine 197 = .ok (.ireturn, 1) := by decide +kernel
theorem inG_X2 : ∀ w ∈ wsX20, w ∈ tblG := tgs [237, 239] (by decide +kernel) (by decide +kernel)
theorem fl_X2_15 : Cond.fieldLink RX2 15 "LateGlass$Judge" "stack" "[J" ∈ tblG := tg 236 (by decide +kernel) (by decide +kernel)
theorem kl_X2_54 : Cond.constantLong RX2 54 (-1000000000) ∈ tblG := tg 850 (by decide +kernel) (by decide +kernel)
theorem kl_X2_56 : Cond.constantLong RX2 56 1000000000 ∈ tblG := tg 851 (by decide +kernel) (by decide +kernel)
set_option maxHeartbeats 4000000 in
set_option maxRecDepth 100000 in
theorem j_combine (l : Launch) (G : g5_G) (a_j a_sk a_as : Nat) (sz : Nat) (p_o : Int32) (p_p : Int32) (f_sk : Nat → Int64) (h_p_p : (-2) ≤ p_p.toInt ∧ p_p.toInt ≤ 49) : Met l yX2_combine (wsG yX2_combine cX2_combine 9 (some .boolean)) ({ frames := 0, cells := 0, slots := 0, locals := 0 }) (va_Pc [.ref a_j, .int p_o, .int p_p] (g5_P G [(a_j, .inr (2, [.ref a_as, .ref a_sk])), (a_sk, .inl (G.2 1, 50, .inr (.inl f_sk)))] sz)) (va_Qi (fun (r : Int32) (u : va_W) => (∃ (o_r : Int32) (o_k : Nat → Int64), (0 ≤ o_r.toInt ∧ o_r.toInt ≤ 1) ∧ (o_r.toInt = 0 ∨ 0 ≤ p_p.toInt) ∧ (r = o_r) ∧ (u = [(a_j, .inr (2, [.ref a_as, .ref a_sk])), (a_sk, .inl (G.2 1, 50, .inr (.inl o_k)))]))) (g5_B G (va_A [(a_j, .inr (2, [.ref a_as, .ref a_sk])), (a_sk, .inl (G.2 1, 50, .inr (.inl f_sk)))] sz)) (va_A [(a_j, .inr (2, [.ref a_as, .ref a_sk])), (a_sk, .inl (G.2 1, 50, .inr (.inl f_sk)))] sz)) 0 0 (va_A [(a_j, .inr (2, [.ref a_as, .ref a_sk])), (a_sk, .inl (G.2 1, 50, .inr (.inl f_sk)))] sz) := by
  refine Met.ofW (cc := cX2_combine) (maxL := 9) (ret := (some .boolean)) (by decide) rfl ?_
  intro p e s m args below meth c s₁ B hml hv
  obtain ⟨rfl, hsz, hP, hK, hD0, hN, hT⟩ := hv
  have hx := B.exec
  have hb := B.bytes
  have hr := B.returns
  have hts : ∀ w ∈ tblG, w.before _ s = true := fun w h => atoms_spec (ws := (wsG yX2_combine cX2_combine 9 (some .boolean))) B.pre w (List.mem_cons_of_mem _ h)
  have hown : s.vm.findClass RX2 = some m.cls := findClass_of_methodNamed B.named
  have hlocks := B.notSynchronized
  subst hsz
  have hD := hD0.self (sz := s.heap.size)
  generalize hAe : va_A [(a_j, .inr (2, [.ref a_as, .ref a_sk])), (a_sk, .inl (G.2 1, 50, .inr (.inl f_sk)))] s.heap.size = A at hD hT ⊢
  have hA : ∀ q : Nat, s.heap.size ≤ q → A q := fun q h => by rw [← hAe]; exact Or.inr h
  have hS : va_S A s.heap s.heap [] := va_S.rf
  have hP : va_P G.1 vwCl [(a_j, .inr (2, [.ref a_as, .ref a_sk])), (a_sk, .inl (G.2 1, 50, .inr (.inl f_sk)))] s.heap := hP
  have hl := lv_entry ([.ref a_j, .int p_o, .int p_p]) (n := 9) (Nat.le_of_ble_eq_true rfl)
  rw [lg_entry_eq]
  generalize (lg_sl ([.ref a_j, .int p_o, .int p_p]) ++ List.replicate (9 - (lg_sl ([.ref a_j, .int p_o, .int p_p])).length) Slot.unset).toArray = ls at hl ⊢
  have hl : lv_has ls 9 [(0, .ref a_j), (1, .int p_o), (2, .int p_p)] := hl
  refine lv_iload_n hx hb dX2_combine_0 rfl (lv_at hl 2 rfl) ?_
  refine lv_if_lt (tgt := 33) hx hb dX2_combine_1 (by decide) (fun c_1 => ?_) (fun c_1 => ?_)
  ·
    have i_1 : p_p.toInt < 0 := by have z := g5_lt (a := p_p.toInt) (b := 0) (by rfl) (by decide) c_1; omega
    refine lv_iconst (v := 0) hx hb dX2_combine_33 (by decide) ?_
    exact W.zret (v := 0) hx hb hr rfl (fun t ht hW => ⟨⟨0, [(a_j, .inr (2, [.ref a_as, .ref a_sk])), (a_sk, .inl (G.2 1, 50, .inr (.inl f_sk)))], rfl, ⟨0, f_sk, ⟨by have zc_o_r : (0 : Int32).toInt = 0 := (by decide); omega, by have zc_o_r : (0 : Int32).toInt = 0 := (by decide); omega⟩, Or.inl (by decide), rfl, rfl⟩, by rw [ht]; exact hP.sub [0, 1] rfl, hD.sub [0, 1] (by decide) rfl⟩, hS.F ht⟩) hS.2.2 dX2_combine_34
  ·
    have i_1 : p_p.toInt ≥ 0 := by have z := g5_ltN (a := p_p.toInt) (b := 0) (by rfl) (by decide) c_1; omega
    refine lv_iload_n hx hb dX2_combine_4 rfl (lv_at hl 2 rfl) ?_
    refine lv_iconst (v := 1) hx hb dX2_combine_5 (by decide) ?_
    refine lv_iadd hx hb dX2_combine_6 ?_
    have t_2 : (p_p + 1).toInt = p_p.toInt + 1 := g5_iadd (a := p_p.toInt) (b := 1) (by rfl) (by decide) (by omega) (by omega)
    refine lv_aload_n hx hb dX2_combine_7 rfl (lv_at hl 0 rfl) ?_
    refine va_get (D := G.1) (ci := 2) (v := .ref a_sk) (C := RX2) (T := TX2) (N := 2) hx hb hts inG_X2 hown hK hP 0 rfl rfl 1 (by decide) (hts _ fl_X2_15) (fun _ h9 => h9) rfl dX2_combine_8 ?_
    refine va_alen hx hb hK hP 1 1 rfl rfl (v := 50) (by show Int32.ofNat 50 = 50; decide) dX2_combine_11 ?_
    refine lv_icmp_ge (tgt := 33) hx hb dX2_combine_12 (by decide) (fun c_3 => ?_) (fun c_3 => ?_)
    ·
      have i_3 : (p_p.toInt + 1) ≥ 50 := by have z := g5_ge (a := (p_p + 1).toInt) (b := 50) (by rfl) (by decide) c_3; omega
      refine lv_iconst (v := 0) hx hb dX2_combine_33 (by decide) ?_
      exact W.zret (v := 0) hx hb hr rfl (fun t ht hW => ⟨⟨0, [(a_j, .inr (2, [.ref a_as, .ref a_sk])), (a_sk, .inl (G.2 1, 50, .inr (.inl f_sk)))], rfl, ⟨0, f_sk, ⟨by have zc_o_r : (0 : Int32).toInt = 0 := (by decide); omega, by have zc_o_r : (0 : Int32).toInt = 0 := (by decide); omega⟩, Or.inl (by decide), rfl, rfl⟩, by rw [ht]; exact hP.sub [0, 1] rfl, hD.sub [0, 1] (by decide) rfl⟩, hS.F ht⟩) hS.2.2 dX2_combine_34
    ·
      have i_3 : (p_p.toInt + 1) < 50 := by have z := g5_geN (a := (p_p + 1).toInt) (b := 50) (by rfl) (by decide) c_3; omega
      refine lv_iload_n hx hb dX2_combine_15 rfl (lv_at hl 1 rfl) ?_
      refine lv_iconst (v := 5) hx hb dX2_combine_16 (by decide) ?_
      refine lv_icmp_ne (tgt := 35) hx hb dX2_combine_17 (by decide) (fun c_4 => ?_) (fun c_4 => ?_)
      ·
        have i_4 : p_o.toInt ≠ 5 := by have z := g5_ne (a := p_o.toInt) (b := 5) (by rfl) (by decide) c_4; omega
        refine lv_aload_n hx hb dX2_combine_35 rfl (lv_at hl 0 rfl) ?_
        refine va_get (D := G.1) (ci := 2) (v := .ref a_sk) (C := RX2) (T := TX2) (N := 2) hx hb hts inG_X2 hown hK hP 0 rfl rfl 1 (by decide) (hts _ fl_X2_15) (fun _ h9 => h9) rfl dX2_combine_36 ?_
        refine lv_iload_n hx hb dX2_combine_39 rfl (lv_at hl 2 rfl) ?_
        refine va_lald hx hb hK hP 1 1 rfl rfl (i := p_p) (vp_in_iff.mpr ⟨by omega, by omega⟩) dX2_combine_40 ?_
        refine lv_lstore_n (lv' := [(3, .long (f_sk p_p.toNatClampNeg)), (0, .ref a_j), (1, .int p_o), (2, .int p_p)]) hx hb dX2_combine_41 rfl hl (by decide) rfl (fun ls hl => ?_)
        refine lv_aload_n hx hb dX2_combine_42 rfl (lv_at hl 1 rfl) ?_
        refine va_get (D := G.1) (ci := 2) (v := .ref a_sk) (C := RX2) (T := TX2) (N := 2) hx hb hts inG_X2 hown hK hP 0 rfl rfl 1 (by decide) (hts _ fl_X2_15) (fun _ h9 => h9) rfl dX2_combine_43 ?_
        refine lv_iload_n hx hb dX2_combine_46 rfl (lv_at hl 3 rfl) ?_
        refine lv_iconst (v := 1) hx hb dX2_combine_47 (by decide) ?_
        refine lv_iadd hx hb dX2_combine_48 ?_
        have t_5 : (p_p + 1).toInt = p_p.toInt + 1 := g5_iadd (a := p_p.toInt) (b := 1) (by rfl) (by decide) (by omega) (by omega)
        refine va_lald hx hb hK hP 1 1 rfl rfl (i := (p_p + 1)) (vp_in_iff.mpr ⟨by omega, by omega⟩) dX2_combine_49 ?_
        refine lv_lstore (lv' := [(5, .long (f_sk (p_p + 1).toNatClampNeg)), (3, .long (f_sk p_p.toNatClampNeg)), (0, .ref a_j), (1, .int p_o), (2, .int p_p)]) hx hb dX2_combine_50 hl (by decide) rfl (fun ls hl => ?_)
        refine lv_iload_n hx hb dX2_combine_52 rfl (lv_at hl 3 rfl) ?_
        rcases (show p_o.toInt = 2 ∨ p_o.toInt = 3 ∨ p_o.toInt = 4 ∨ p_o.toInt = 5 ∨ p_o.toInt < 2 ∨ p_o.toInt > 5 by omega) with s_6 | s_6 | s_6 | s_6 | s_6 | s_6
        ·
          have i_6 : p_o.toInt = 2 := by omega
          refine lv_tableIn (tgt := 84) hx hb dX2_combine_53 (by omega) (by omega) (by rw [s_6]; rfl) (by decide) ?_
          refine lv_lload_n hx hb dX2_combine_84 rfl (lv_at hl 1 rfl) ?_
          refine lv_lload hx hb dX2_combine_85 (lv_at hl 0 rfl) ?_
          refine lv_ladd hx hb dX2_combine_87 ?_
          refine lv_lstore (lv' := [(7, .long ((f_sk p_p.toNatClampNeg) + (f_sk (p_p + 1).toNatClampNeg))), (5, .long (f_sk (p_p + 1).toNatClampNeg)), (3, .long (f_sk p_p.toNatClampNeg)), (0, .ref a_j), (1, .int p_o), (2, .int p_p)]) hx hb dX2_combine_88 hl (by decide) rfl (fun ls hl => ?_)
          refine lv_goto (tgt := 166) hx hb dX2_combine_90 (by decide) ?_
          refine lv_aload_n hx hb dX2_combine_166 rfl (lv_at hl 3 rfl) ?_
          refine va_get (D := G.1) (ci := 2) (v := .ref a_sk) (C := RX2) (T := TX2) (N := 2) hx hb hts inG_X2 hown hK hP 0 rfl rfl 1 (by decide) (hts _ fl_X2_15) (fun _ h9 => h9) rfl dX2_combine_167 ?_
          refine lv_iload_n hx hb dX2_combine_170 rfl (lv_at hl 5 rfl) ?_
          refine lv_lload hx hb dX2_combine_171 (lv_at hl 0 rfl) ?_
          refine va_last hx hb hK hP hD hS 1 1 rfl rfl (i := p_p) (x := ((f_sk p_p.toNatClampNeg) + (f_sk (p_p + 1).toNatClampNeg))) (vp_in_iff.mpr ⟨by omega, by omega⟩) dX2_combine_173 (fun H locs hP hD hS => ?_)
          have hP : va_P G.1 vwCl [(a_j, .inr (2, [.ref a_as, .ref a_sk])), (a_sk, .inl (G.2 1, 50, .inr (.inl (vp_updL f_sk p_p.toNatClampNeg ((f_sk p_p.toNatClampNeg) + (f_sk (p_p + 1).toNatClampNeg))))))] H := hP
          have hD : va_D A [(a_j, .inr (2, [.ref a_as, .ref a_sk])), (a_sk, .inl (G.2 1, 50, .inr (.inl (vp_updL f_sk p_p.toNatClampNeg ((f_sk p_p.toNatClampNeg) + (f_sk (p_p + 1).toNatClampNeg))))))] := hD
          refine lv_lload hx hb dX2_combine_174 (lv_at hl 0 rfl) ?_
          refine lv_ldc2 (v := (-1000000000)) hx hb hown (hts _ kl_X2_54) dX2_combine_176 ?_
          refine W.lcmp hx hb dX2_combine_179 ?_
          refine lv_if_lt (tgt := 196) hx hb dX2_combine_180 (by decide) (fun c_7 => ?_) (fun c_7 => ?_)
          ·
            have i_7 : (lg_cmp ((f_sk p_p.toNatClampNeg) + (f_sk (p_p + 1).toNatClampNeg)) (-1000000000)).toInt < 0 := by have z := g5_lt (a := (lg_cmp ((f_sk p_p.toNatClampNeg) + (f_sk (p_p + 1).toNatClampNeg)) (-1000000000)).toInt) (b := 0) (by rfl) (by decide) c_7; omega
            refine lv_iconst (v := 0) hx hb dX2_combine_196 (by decide) ?_
            exact W.zret (v := 0) hx hb hr rfl (fun t ht hW => ⟨⟨0, [(a_j, .inr (2, [.ref a_as, .ref a_sk])), (a_sk, .inl (G.2 1, 50, .inr (.inl (vp_updL f_sk p_p.toNatClampNeg ((f_sk p_p.toNatClampNeg) + (f_sk (p_p + 1).toNatClampNeg))))))], rfl, ⟨0, (vp_updL f_sk p_p.toNatClampNeg ((f_sk p_p.toNatClampNeg) + (f_sk (p_p + 1).toNatClampNeg))), ⟨by have zc_o_r : (0 : Int32).toInt = 0 := (by decide); omega, by have zc_o_r : (0 : Int32).toInt = 0 := (by decide); omega⟩, Or.inl (by decide), rfl, rfl⟩, by rw [ht]; exact hP.sub [0, 1] rfl, hD.sub [0, 1] (by decide) rfl⟩, hS.F ht⟩) hS.2.2 dX2_combine_197
          ·
            have i_7 : (lg_cmp ((f_sk p_p.toNatClampNeg) + (f_sk (p_p + 1).toNatClampNeg)) (-1000000000)).toInt ≥ 0 := by have z := g5_ltN (a := (lg_cmp ((f_sk p_p.toNatClampNeg) + (f_sk (p_p + 1).toNatClampNeg)) (-1000000000)).toInt) (b := 0) (by rfl) (by decide) c_7; omega
            refine lv_lload hx hb dX2_combine_183 (lv_at hl 0 rfl) ?_
            refine lv_ldc2 (v := 1000000000) hx hb hown (hts _ kl_X2_56) dX2_combine_185 ?_
            refine W.lcmp hx hb dX2_combine_188 ?_
            refine lv_if_gt (tgt := 196) hx hb dX2_combine_189 (by decide) (fun c_8 => ?_) (fun c_8 => ?_)
            ·
              have i_8 : (lg_cmp ((f_sk p_p.toNatClampNeg) + (f_sk (p_p + 1).toNatClampNeg)) 1000000000).toInt > 0 := by have z := g5_gt (a := (lg_cmp ((f_sk p_p.toNatClampNeg) + (f_sk (p_p + 1).toNatClampNeg)) 1000000000).toInt) (b := 0) (by rfl) (by decide) c_8; omega
              refine lv_iconst (v := 0) hx hb dX2_combine_196 (by decide) ?_
              exact W.zret (v := 0) hx hb hr rfl (fun t ht hW => ⟨⟨0, [(a_j, .inr (2, [.ref a_as, .ref a_sk])), (a_sk, .inl (G.2 1, 50, .inr (.inl (vp_updL f_sk p_p.toNatClampNeg ((f_sk p_p.toNatClampNeg) + (f_sk (p_p + 1).toNatClampNeg))))))], rfl, ⟨0, (vp_updL f_sk p_p.toNatClampNeg ((f_sk p_p.toNatClampNeg) + (f_sk (p_p + 1).toNatClampNeg))), ⟨by have zc_o_r : (0 : Int32).toInt = 0 := (by decide); omega, by have zc_o_r : (0 : Int32).toInt = 0 := (by decide); omega⟩, Or.inl (by decide), rfl, rfl⟩, by rw [ht]; exact hP.sub [0, 1] rfl, hD.sub [0, 1] (by decide) rfl⟩, hS.F ht⟩) hS.2.2 dX2_combine_197
            ·
              have i_8 : (lg_cmp ((f_sk p_p.toNatClampNeg) + (f_sk (p_p + 1).toNatClampNeg)) 1000000000).toInt ≤ 0 := by have z := g5_gtN (a := (lg_cmp ((f_sk p_p.toNatClampNeg) + (f_sk (p_p + 1).toNatClampNeg)) 1000000000).toInt) (b := 0) (by rfl) (by decide) c_8; omega
              refine lv_iconst (v := 1) hx hb dX2_combine_192 (by decide) ?_
              refine lv_goto (tgt := 197) hx hb dX2_combine_193 (by decide) ?_
              exact W.zret (v := 1) hx hb hr rfl (fun t ht hW => ⟨⟨1, [(a_j, .inr (2, [.ref a_as, .ref a_sk])), (a_sk, .inl (G.2 1, 50, .inr (.inl (vp_updL f_sk p_p.toNatClampNeg ((f_sk p_p.toNatClampNeg) + (f_sk (p_p + 1).toNatClampNeg))))))], rfl, ⟨1, (vp_updL f_sk p_p.toNatClampNeg ((f_sk p_p.toNatClampNeg) + (f_sk (p_p + 1).toNatClampNeg))), ⟨by have zc_o_r : (1 : Int32).toInt = 1 := (by decide); omega, by have zc_o_r : (1 : Int32).toInt = 1 := (by decide); omega⟩, Or.inr (by omega), rfl, rfl⟩, by rw [ht]; exact hP.sub [0, 1] rfl, hD.sub [0, 1] (by decide) rfl⟩, hS.F ht⟩) hS.2.2 dX2_combine_197
        ·
          have i_6 : p_o.toInt = 3 := by omega
          refine lv_tableIn (tgt := 93) hx hb dX2_combine_53 (by omega) (by omega) (by rw [s_6]; rfl) (by decide) ?_
          refine lv_lload_n hx hb dX2_combine_93 rfl (lv_at hl 1 rfl) ?_
          refine lv_lload hx hb dX2_combine_94 (lv_at hl 0 rfl) ?_
          refine lv_lsub hx hb dX2_combine_96 ?_
          refine lv_lstore (lv' := [(7, .long ((f_sk p_p.toNatClampNeg) - (f_sk (p_p + 1).toNatClampNeg))), (5, .long (f_sk (p_p + 1).toNatClampNeg)), (3, .long (f_sk p_p.toNatClampNeg)), (0, .ref a_j), (1, .int p_o), (2, .int p_p)]) hx hb dX2_combine_97 hl (by decide) rfl (fun ls hl => ?_)
          refine lv_goto (tgt := 166) hx hb dX2_combine_99 (by decide) ?_
          refine lv_aload_n hx hb dX2_combine_166 rfl (lv_at hl 3 rfl) ?_
          refine va_get (D := G.1) (ci := 2) (v := .ref a_sk) (C := RX2) (T := TX2) (N := 2) hx hb hts inG_X2 hown hK hP 0 rfl rfl 1 (by decide) (hts _ fl_X2_15) (fun _ h9 => h9) rfl dX2_combine_167 ?_
          refine lv_iload_n hx hb dX2_combine_170 rfl (lv_at hl 5 rfl) ?_
          refine lv_lload hx hb dX2_combine_171 (lv_at hl 0 rfl) ?_
          refine va_last hx hb hK hP hD hS 1 1 rfl rfl (i := p_p) (x := ((f_sk p_p.toNatClampNeg) - (f_sk (p_p + 1).toNatClampNeg))) (vp_in_iff.mpr ⟨by omega, by omega⟩) dX2_combine_173 (fun H locs hP hD hS => ?_)
          have hP : va_P G.1 vwCl [(a_j, .inr (2, [.ref a_as, .ref a_sk])), (a_sk, .inl (G.2 1, 50, .inr (.inl (vp_updL f_sk p_p.toNatClampNeg ((f_sk p_p.toNatClampNeg) - (f_sk (p_p + 1).toNatClampNeg))))))] H := hP
          have hD : va_D A [(a_j, .inr (2, [.ref a_as, .ref a_sk])), (a_sk, .inl (G.2 1, 50, .inr (.inl (vp_updL f_sk p_p.toNatClampNeg ((f_sk p_p.toNatClampNeg) - (f_sk (p_p + 1).toNatClampNeg))))))] := hD
          refine lv_lload hx hb dX2_combine_174 (lv_at hl 0 rfl) ?_
          refine lv_ldc2 (v := (-1000000000)) hx hb hown (hts _ kl_X2_54) dX2_combine_176 ?_
          refine W.lcmp hx hb dX2_combine_179 ?_
          refine lv_if_lt (tgt := 196) hx hb dX2_combine_180 (by decide) (fun c_9 => ?_) (fun c_9 => ?_)
          ·
            have i_9 : (lg_cmp ((f_sk p_p.toNatClampNeg) - (f_sk (p_p + 1).toNatClampNeg)) (-1000000000)).toInt < 0 := by have z := g5_lt (a := (lg_cmp ((f_sk p_p.toNatClampNeg) - (f_sk (p_p + 1).toNatClampNeg)) (-1000000000)).toInt) (b := 0) (by rfl) (by decide) c_9; omega
            refine lv_iconst (v := 0) hx hb dX2_combine_196 (by decide) ?_
            exact W.zret (v := 0) hx hb hr rfl (fun t ht hW => ⟨⟨0, [(a_j, .inr (2, [.ref a_as, .ref a_sk])), (a_sk, .inl (G.2 1, 50, .inr (.inl (vp_updL f_sk p_p.toNatClampNeg ((f_sk p_p.toNatClampNeg) - (f_sk (p_p + 1).toNatClampNeg))))))], rfl, ⟨0, (vp_updL f_sk p_p.toNatClampNeg ((f_sk p_p.toNatClampNeg) - (f_sk (p_p + 1).toNatClampNeg))), ⟨by have zc_o_r : (0 : Int32).toInt = 0 := (by decide); omega, by have zc_o_r : (0 : Int32).toInt = 0 := (by decide); omega⟩, Or.inl (by decide), rfl, rfl⟩, by rw [ht]; exact hP.sub [0, 1] rfl, hD.sub [0, 1] (by decide) rfl⟩, hS.F ht⟩) hS.2.2 dX2_combine_197
          ·
            have i_9 : (lg_cmp ((f_sk p_p.toNatClampNeg) - (f_sk (p_p + 1).toNatClampNeg)) (-1000000000)).toInt ≥ 0 := by have z := g5_ltN (a := (lg_cmp ((f_sk p_p.toNatClampNeg) - (f_sk (p_p + 1).toNatClampNeg)) (-1000000000)).toInt) (b := 0) (by rfl) (by decide) c_9; omega
            refine lv_lload hx hb dX2_combine_183 (lv_at hl 0 rfl) ?_
            refine lv_ldc2 (v := 1000000000) hx hb hown (hts _ kl_X2_56) dX2_combine_185 ?_
            refine W.lcmp hx hb dX2_combine_188 ?_
            refine lv_if_gt (tgt := 196) hx hb dX2_combine_189 (by decide) (fun c_10 => ?_) (fun c_10 => ?_)
            ·
              have i_10 : (lg_cmp ((f_sk p_p.toNatClampNeg) - (f_sk (p_p + 1).toNatClampNeg)) 1000000000).toInt > 0 := by have z := g5_gt (a := (lg_cmp ((f_sk p_p.toNatClampNeg) - (f_sk (p_p + 1).toNatClampNeg)) 1000000000).toInt) (b := 0) (by rfl) (by decide) c_10; omega
              refine lv_iconst (v := 0) hx hb dX2_combine_196 (by decide) ?_
              exact W.zret (v := 0) hx hb hr rfl (fun t ht hW => ⟨⟨0, [(a_j, .inr (2, [.ref a_as, .ref a_sk])), (a_sk, .inl (G.2 1, 50, .inr (.inl (vp_updL f_sk p_p.toNatClampNeg ((f_sk p_p.toNatClampNeg) - (f_sk (p_p + 1).toNatClampNeg))))))], rfl, ⟨0, (vp_updL f_sk p_p.toNatClampNeg ((f_sk p_p.toNatClampNeg) - (f_sk (p_p + 1).toNatClampNeg))), ⟨by have zc_o_r : (0 : Int32).toInt = 0 := (by decide); omega, by have zc_o_r : (0 : Int32).toInt = 0 := (by decide); omega⟩, Or.inl (by decide), rfl, rfl⟩, by rw [ht]; exact hP.sub [0, 1] rfl, hD.sub [0, 1] (by decide) rfl⟩, hS.F ht⟩) hS.2.2 dX2_combine_197
            ·
              have i_10 : (lg_cmp ((f_sk p_p.toNatClampNeg) - (f_sk (p_p + 1).toNatClampNeg)) 1000000000).toInt ≤ 0 := by have z := g5_gtN (a := (lg_cmp ((f_sk p_p.toNatClampNeg) - (f_sk (p_p + 1).toNatClampNeg)) 1000000000).toInt) (b := 0) (by rfl) (by decide) c_10; omega
              refine lv_iconst (v := 1) hx hb dX2_combine_192 (by decide) ?_
              refine lv_goto (tgt := 197) hx hb dX2_combine_193 (by decide) ?_
              exact W.zret (v := 1) hx hb hr rfl (fun t ht hW => ⟨⟨1, [(a_j, .inr (2, [.ref a_as, .ref a_sk])), (a_sk, .inl (G.2 1, 50, .inr (.inl (vp_updL f_sk p_p.toNatClampNeg ((f_sk p_p.toNatClampNeg) - (f_sk (p_p + 1).toNatClampNeg))))))], rfl, ⟨1, (vp_updL f_sk p_p.toNatClampNeg ((f_sk p_p.toNatClampNeg) - (f_sk (p_p + 1).toNatClampNeg))), ⟨by have zc_o_r : (1 : Int32).toInt = 1 := (by decide); omega, by have zc_o_r : (1 : Int32).toInt = 1 := (by decide); omega⟩, Or.inr (by omega), rfl, rfl⟩, by rw [ht]; exact hP.sub [0, 1] rfl, hD.sub [0, 1] (by decide) rfl⟩, hS.F ht⟩) hS.2.2 dX2_combine_197
        ·
          have i_6 : p_o.toInt = 4 := by omega
          refine lv_tableIn (tgt := 102) hx hb dX2_combine_53 (by omega) (by omega) (by rw [s_6]; rfl) (by decide) ?_
          refine lv_lload_n hx hb dX2_combine_102 rfl (lv_at hl 1 rfl) ?_
          refine lv_lload hx hb dX2_combine_103 (lv_at hl 0 rfl) ?_
          refine lv_lmul hx hb dX2_combine_105 ?_
          refine lv_lstore (lv' := [(7, .long ((f_sk p_p.toNatClampNeg) * (f_sk (p_p + 1).toNatClampNeg))), (5, .long (f_sk (p_p + 1).toNatClampNeg)), (3, .long (f_sk p_p.toNatClampNeg)), (0, .ref a_j), (1, .int p_o), (2, .int p_p)]) hx hb dX2_combine_106 hl (by decide) rfl (fun ls hl => ?_)
          refine lv_goto (tgt := 166) hx hb dX2_combine_108 (by decide) ?_
          refine lv_aload_n hx hb dX2_combine_166 rfl (lv_at hl 3 rfl) ?_
          refine va_get (D := G.1) (ci := 2) (v := .ref a_sk) (C := RX2) (T := TX2) (N := 2) hx hb hts inG_X2 hown hK hP 0 rfl rfl 1 (by decide) (hts _ fl_X2_15) (fun _ h9 => h9) rfl dX2_combine_167 ?_
          refine lv_iload_n hx hb dX2_combine_170 rfl (lv_at hl 5 rfl) ?_
          refine lv_lload hx hb dX2_combine_171 (lv_at hl 0 rfl) ?_
          refine va_last hx hb hK hP hD hS 1 1 rfl rfl (i := p_p) (x := ((f_sk p_p.toNatClampNeg) * (f_sk (p_p + 1).toNatClampNeg))) (vp_in_iff.mpr ⟨by omega, by omega⟩) dX2_combine_173 (fun H locs hP hD hS => ?_)
          have hP : va_P G.1 vwCl [(a_j, .inr (2, [.ref a_as, .ref a_sk])), (a_sk, .inl (G.2 1, 50, .inr (.inl (vp_updL f_sk p_p.toNatClampNeg ((f_sk p_p.toNatClampNeg) * (f_sk (p_p + 1).toNatClampNeg))))))] H := hP
          have hD : va_D A [(a_j, .inr (2, [.ref a_as, .ref a_sk])), (a_sk, .inl (G.2 1, 50, .inr (.inl (vp_updL f_sk p_p.toNatClampNeg ((f_sk p_p.toNatClampNeg) * (f_sk (p_p + 1).toNatClampNeg))))))] := hD
          refine lv_lload hx hb dX2_combine_174 (lv_at hl 0 rfl) ?_
          refine lv_ldc2 (v := (-1000000000)) hx hb hown (hts _ kl_X2_54) dX2_combine_176 ?_
          refine W.lcmp hx hb dX2_combine_179 ?_
          refine lv_if_lt (tgt := 196) hx hb dX2_combine_180 (by decide) (fun c_11 => ?_) (fun c_11 => ?_)
          ·
            have i_11 : (lg_cmp ((f_sk p_p.toNatClampNeg) * (f_sk (p_p + 1).toNatClampNeg)) (-1000000000)).toInt < 0 := by have z := g5_lt (a := (lg_cmp ((f_sk p_p.toNatClampNeg) * (f_sk (p_p + 1).toNatClampNeg)) (-1000000000)).toInt) (b := 0) (by rfl) (by decide) c_11; omega
            refine lv_iconst (v := 0) hx hb dX2_combine_196 (by decide) ?_
            exact W.zret (v := 0) hx hb hr rfl (fun t ht hW => ⟨⟨0, [(a_j, .inr (2, [.ref a_as, .ref a_sk])), (a_sk, .inl (G.2 1, 50, .inr (.inl (vp_updL f_sk p_p.toNatClampNeg ((f_sk p_p.toNatClampNeg) * (f_sk (p_p + 1).toNatClampNeg))))))], rfl, ⟨0, (vp_updL f_sk p_p.toNatClampNeg ((f_sk p_p.toNatClampNeg) * (f_sk (p_p + 1).toNatClampNeg))), ⟨by have zc_o_r : (0 : Int32).toInt = 0 := (by decide); omega, by have zc_o_r : (0 : Int32).toInt = 0 := (by decide); omega⟩, Or.inl (by decide), rfl, rfl⟩, by rw [ht]; exact hP.sub [0, 1] rfl, hD.sub [0, 1] (by decide) rfl⟩, hS.F ht⟩) hS.2.2 dX2_combine_197
          ·
            have i_11 : (lg_cmp ((f_sk p_p.toNatClampNeg) * (f_sk (p_p + 1).toNatClampNeg)) (-1000000000)).toInt ≥ 0 := by have z := g5_ltN (a := (lg_cmp ((f_sk p_p.toNatClampNeg) * (f_sk (p_p + 1).toNatClampNeg)) (-1000000000)).toInt) (b := 0) (by rfl) (by decide) c_11; omega
            refine lv_lload hx hb dX2_combine_183 (lv_at hl 0 rfl) ?_
            refine lv_ldc2 (v := 1000000000) hx hb hown (hts _ kl_X2_56) dX2_combine_185 ?_
            refine W.lcmp hx hb dX2_combine_188 ?_
            refine lv_if_gt (tgt := 196) hx hb dX2_combine_189 (by decide) (fun c_12 => ?_) (fun c_12 => ?_)
            ·
              have i_12 : (lg_cmp ((f_sk p_p.toNatClampNeg) * (f_sk (p_p + 1).toNatClampNeg)) 1000000000).toInt > 0 := by have z := g5_gt (a := (lg_cmp ((f_sk p_p.toNatClampNeg) * (f_sk (p_p + 1).toNatClampNeg)) 1000000000).toInt) (b := 0) (by rfl) (by decide) c_12; omega
              refine lv_iconst (v := 0) hx hb dX2_combine_196 (by decide) ?_
              exact W.zret (v := 0) hx hb hr rfl (fun t ht hW => ⟨⟨0, [(a_j, .inr (2, [.ref a_as, .ref a_sk])), (a_sk, .inl (G.2 1, 50, .inr (.inl (vp_updL f_sk p_p.toNatClampNeg ((f_sk p_p.toNatClampNeg) * (f_sk (p_p + 1).toNatClampNeg))))))], rfl, ⟨0, (vp_updL f_sk p_p.toNatClampNeg ((f_sk p_p.toNatClampNeg) * (f_sk (p_p + 1).toNatClampNeg))), ⟨by have zc_o_r : (0 : Int32).toInt = 0 := (by decide); omega, by have zc_o_r : (0 : Int32).toInt = 0 := (by decide); omega⟩, Or.inl (by decide), rfl, rfl⟩, by rw [ht]; exact hP.sub [0, 1] rfl, hD.sub [0, 1] (by decide) rfl⟩, hS.F ht⟩) hS.2.2 dX2_combine_197
            ·
              have i_12 : (lg_cmp ((f_sk p_p.toNatClampNeg) * (f_sk (p_p + 1).toNatClampNeg)) 1000000000).toInt ≤ 0 := by have z := g5_gtN (a := (lg_cmp ((f_sk p_p.toNatClampNeg) * (f_sk (p_p + 1).toNatClampNeg)) 1000000000).toInt) (b := 0) (by rfl) (by decide) c_12; omega
              refine lv_iconst (v := 1) hx hb dX2_combine_192 (by decide) ?_
              refine lv_goto (tgt := 197) hx hb dX2_combine_193 (by decide) ?_
              exact W.zret (v := 1) hx hb hr rfl (fun t ht hW => ⟨⟨1, [(a_j, .inr (2, [.ref a_as, .ref a_sk])), (a_sk, .inl (G.2 1, 50, .inr (.inl (vp_updL f_sk p_p.toNatClampNeg ((f_sk p_p.toNatClampNeg) * (f_sk (p_p + 1).toNatClampNeg))))))], rfl, ⟨1, (vp_updL f_sk p_p.toNatClampNeg ((f_sk p_p.toNatClampNeg) * (f_sk (p_p + 1).toNatClampNeg))), ⟨by have zc_o_r : (1 : Int32).toInt = 1 := (by decide); omega, by have zc_o_r : (1 : Int32).toInt = 1 := (by decide); omega⟩, Or.inr (by omega), rfl, rfl⟩, by rw [ht]; exact hP.sub [0, 1] rfl, hD.sub [0, 1] (by decide) rfl⟩, hS.F ht⟩) hS.2.2 dX2_combine_197
        ·
          have i_6 : p_o.toInt = 5 := by omega
          refine lv_tableIn (tgt := 111) hx hb dX2_combine_53 (by omega) (by omega) (by rw [s_6]; rfl) (by decide) ?_
          exact absurd (show False by omega) (fun h => h)
        ·
          have i_6 : p_o.toInt < 2 := by omega
          refine lv_tableOut (tgt := 120) hx hb dX2_combine_53 (by omega) (by decide) ?_
          refine lv_iload_n hx hb dX2_combine_120 rfl (lv_at hl 3 rfl) ?_
          refine lv_bipush (v := 6) hx hb dX2_combine_121 (by decide) ?_
          refine lv_icmp_ne (tgt := 136) hx hb dX2_combine_123 (by decide) (fun c_13 => ?_) (fun c_13 => ?_)
          ·
            have i_13 : p_o.toInt ≠ 6 := by have z := g5_ne (a := p_o.toInt) (b := 6) (by rfl) (by decide) c_13; omega
            refine lv_iload_n hx hb dX2_combine_136 rfl (lv_at hl 3 rfl) ?_
            refine lv_bipush (v := 7) hx hb dX2_combine_137 (by decide) ?_
            refine lv_icmp_ne (tgt := 152) hx hb dX2_combine_139 (by decide) (fun c_14 => ?_) (fun c_14 => ?_)
            ·
              have i_14 : p_o.toInt ≠ 7 := by have z := g5_ne (a := p_o.toInt) (b := 7) (by rfl) (by decide) c_14; omega
              refine lv_lload_n hx hb dX2_combine_152 rfl (lv_at hl 1 rfl) ?_
              refine lv_lload hx hb dX2_combine_153 (lv_at hl 0 rfl) ?_
              refine W.lcmp hx hb dX2_combine_155 ?_
              refine lv_if_ne (tgt := 163) hx hb dX2_combine_156 (by decide) (fun c_15 => ?_) (fun c_15 => ?_)
              ·
                have i_15 : (lg_cmp (f_sk p_p.toNatClampNeg) (f_sk (p_p + 1).toNatClampNeg)).toInt ≠ 0 := by have z := g5_ne (a := (lg_cmp (f_sk p_p.toNatClampNeg) (f_sk (p_p + 1).toNatClampNeg)).toInt) (b := 0) (by rfl) (by decide) c_15; omega
                refine lv_lconst (v := 0) hx hb dX2_combine_163 (by decide) ?_
                refine lv_lstore (lv' := [(7, .long 0), (5, .long (f_sk (p_p + 1).toNatClampNeg)), (3, .long (f_sk p_p.toNatClampNeg)), (0, .ref a_j), (1, .int p_o), (2, .int p_p)]) hx hb dX2_combine_164 hl (by decide) rfl (fun ls hl => ?_)
                refine lv_aload_n hx hb dX2_combine_166 rfl (lv_at hl 3 rfl) ?_
                refine va_get (D := G.1) (ci := 2) (v := .ref a_sk) (C := RX2) (T := TX2) (N := 2) hx hb hts inG_X2 hown hK hP 0 rfl rfl 1 (by decide) (hts _ fl_X2_15) (fun _ h9 => h9) rfl dX2_combine_167 ?_
                refine lv_iload_n hx hb dX2_combine_170 rfl (lv_at hl 5 rfl) ?_
                refine lv_lload hx hb dX2_combine_171 (lv_at hl 0 rfl) ?_
                refine va_last hx hb hK hP hD hS 1 1 rfl rfl (i := p_p) (x := 0) (vp_in_iff.mpr ⟨by omega, by omega⟩) dX2_combine_173 (fun H locs hP hD hS => ?_)
                have hP : va_P G.1 vwCl [(a_j, .inr (2, [.ref a_as, .ref a_sk])), (a_sk, .inl (G.2 1, 50, .inr (.inl (vp_updL f_sk p_p.toNatClampNeg 0))))] H := hP
                have hD : va_D A [(a_j, .inr (2, [.ref a_as, .ref a_sk])), (a_sk, .inl (G.2 1, 50, .inr (.inl (vp_updL f_sk p_p.toNatClampNeg 0))))] := hD
                refine lv_lload hx hb dX2_combine_174 (lv_at hl 0 rfl) ?_
                refine lv_ldc2 (v := (-1000000000)) hx hb hown (hts _ kl_X2_54) dX2_combine_176 ?_
                refine W.lcmp hx hb dX2_combine_179 ?_
                refine g5_ti (v := 1) (by decide) ?_
                refine lv_if_lt (tgt := 196) hx hb dX2_combine_180 (by decide) (fun c_16 => ?_) (fun c_16 => ?_)
                ·
                  exact absurd c_16 (by decide)
                ·
                  refine lv_lload hx hb dX2_combine_183 (lv_at hl 0 rfl) ?_
                  refine lv_ldc2 (v := 1000000000) hx hb hown (hts _ kl_X2_56) dX2_combine_185 ?_
                  refine W.lcmp hx hb dX2_combine_188 ?_
                  refine g5_ti (v := (-1)) (by decide) ?_
                  refine lv_if_gt (tgt := 196) hx hb dX2_combine_189 (by decide) (fun c_17 => ?_) (fun c_17 => ?_)
                  ·
                    exact absurd c_17 (by decide)
                  ·
                    refine lv_iconst (v := 1) hx hb dX2_combine_192 (by decide) ?_
                    refine lv_goto (tgt := 197) hx hb dX2_combine_193 (by decide) ?_
                    exact W.zret (v := 1) hx hb hr rfl (fun t ht hW => ⟨⟨1, [(a_j, .inr (2, [.ref a_as, .ref a_sk])), (a_sk, .inl (G.2 1, 50, .inr (.inl (vp_updL f_sk p_p.toNatClampNeg 0))))], rfl, ⟨1, (vp_updL f_sk p_p.toNatClampNeg 0), ⟨by have zc_o_r : (1 : Int32).toInt = 1 := (by decide); omega, by have zc_o_r : (1 : Int32).toInt = 1 := (by decide); omega⟩, Or.inr (by omega), rfl, rfl⟩, by rw [ht]; exact hP.sub [0, 1] rfl, hD.sub [0, 1] (by decide) rfl⟩, hS.F ht⟩) hS.2.2 dX2_combine_197
              ·
                have i_15 : (lg_cmp (f_sk p_p.toNatClampNeg) (f_sk (p_p + 1).toNatClampNeg)).toInt = 0 := by have z := g5_neN (a := (lg_cmp (f_sk p_p.toNatClampNeg) (f_sk (p_p + 1).toNatClampNeg)).toInt) (b := 0) (by rfl) (by decide) c_15; omega
                refine lv_lconst (v := 1) hx hb dX2_combine_159 (by decide) ?_
                refine lv_goto (tgt := 164) hx hb dX2_combine_160 (by decide) ?_
                refine lv_lstore (lv' := [(7, .long 1), (5, .long (f_sk (p_p + 1).toNatClampNeg)), (3, .long (f_sk p_p.toNatClampNeg)), (0, .ref a_j), (1, .int p_o), (2, .int p_p)]) hx hb dX2_combine_164 hl (by decide) rfl (fun ls hl => ?_)
                refine lv_aload_n hx hb dX2_combine_166 rfl (lv_at hl 3 rfl) ?_
                refine va_get (D := G.1) (ci := 2) (v := .ref a_sk) (C := RX2) (T := TX2) (N := 2) hx hb hts inG_X2 hown hK hP 0 rfl rfl 1 (by decide) (hts _ fl_X2_15) (fun _ h9 => h9) rfl dX2_combine_167 ?_
                refine lv_iload_n hx hb dX2_combine_170 rfl (lv_at hl 5 rfl) ?_
                refine lv_lload hx hb dX2_combine_171 (lv_at hl 0 rfl) ?_
                refine va_last hx hb hK hP hD hS 1 1 rfl rfl (i := p_p) (x := 1) (vp_in_iff.mpr ⟨by omega, by omega⟩) dX2_combine_173 (fun H locs hP hD hS => ?_)
                have hP : va_P G.1 vwCl [(a_j, .inr (2, [.ref a_as, .ref a_sk])), (a_sk, .inl (G.2 1, 50, .inr (.inl (vp_updL f_sk p_p.toNatClampNeg 1))))] H := hP
                have hD : va_D A [(a_j, .inr (2, [.ref a_as, .ref a_sk])), (a_sk, .inl (G.2 1, 50, .inr (.inl (vp_updL f_sk p_p.toNatClampNeg 1))))] := hD
                refine lv_lload hx hb dX2_combine_174 (lv_at hl 0 rfl) ?_
                refine lv_ldc2 (v := (-1000000000)) hx hb hown (hts _ kl_X2_54) dX2_combine_176 ?_
                refine W.lcmp hx hb dX2_combine_179 ?_
                refine g5_ti (v := 1) (by decide) ?_
                refine lv_if_lt (tgt := 196) hx hb dX2_combine_180 (by decide) (fun c_18 => ?_) (fun c_18 => ?_)
                ·
                  exact absurd c_18 (by decide)
                ·
                  refine lv_lload hx hb dX2_combine_183 (lv_at hl 0 rfl) ?_
                  refine lv_ldc2 (v := 1000000000) hx hb hown (hts _ kl_X2_56) dX2_combine_185 ?_
                  refine W.lcmp hx hb dX2_combine_188 ?_
                  refine g5_ti (v := (-1)) (by decide) ?_
                  refine lv_if_gt (tgt := 196) hx hb dX2_combine_189 (by decide) (fun c_19 => ?_) (fun c_19 => ?_)
                  ·
                    exact absurd c_19 (by decide)
                  ·
                    refine lv_iconst (v := 1) hx hb dX2_combine_192 (by decide) ?_
                    refine lv_goto (tgt := 197) hx hb dX2_combine_193 (by decide) ?_
                    exact W.zret (v := 1) hx hb hr rfl (fun t ht hW => ⟨⟨1, [(a_j, .inr (2, [.ref a_as, .ref a_sk])), (a_sk, .inl (G.2 1, 50, .inr (.inl (vp_updL f_sk p_p.toNatClampNeg 1))))], rfl, ⟨1, (vp_updL f_sk p_p.toNatClampNeg 1), ⟨by have zc_o_r : (1 : Int32).toInt = 1 := (by decide); omega, by have zc_o_r : (1 : Int32).toInt = 1 := (by decide); omega⟩, Or.inr (by omega), rfl, rfl⟩, by rw [ht]; exact hP.sub [0, 1] rfl, hD.sub [0, 1] (by decide) rfl⟩, hS.F ht⟩) hS.2.2 dX2_combine_197
            ·
              have i_14 : p_o.toInt = 7 := by have z := g5_neN (a := p_o.toInt) (b := 7) (by rfl) (by decide) c_14; omega
              omega
          ·
            have i_13 : p_o.toInt = 6 := by have z := g5_neN (a := p_o.toInt) (b := 6) (by rfl) (by decide) c_13; omega
            omega
        ·
          have i_6 : p_o.toInt > 5 := by omega
          refine lv_tableOut (tgt := 120) hx hb dX2_combine_53 (by omega) (by decide) ?_
          refine lv_iload_n hx hb dX2_combine_120 rfl (lv_at hl 3 rfl) ?_
          refine lv_bipush (v := 6) hx hb dX2_combine_121 (by decide) ?_
          refine lv_icmp_ne (tgt := 136) hx hb dX2_combine_123 (by decide) (fun c_20 => ?_) (fun c_20 => ?_)
          ·
            have i_20 : p_o.toInt ≠ 6 := by have z := g5_ne (a := p_o.toInt) (b := 6) (by rfl) (by decide) c_20; omega
            refine lv_iload_n hx hb dX2_combine_136 rfl (lv_at hl 3 rfl) ?_
            refine lv_bipush (v := 7) hx hb dX2_combine_137 (by decide) ?_
            refine lv_icmp_ne (tgt := 152) hx hb dX2_combine_139 (by decide) (fun c_21 => ?_) (fun c_21 => ?_)
            ·
              have i_21 : p_o.toInt ≠ 7 := by have z := g5_ne (a := p_o.toInt) (b := 7) (by rfl) (by decide) c_21; omega
              refine lv_lload_n hx hb dX2_combine_152 rfl (lv_at hl 1 rfl) ?_
              refine lv_lload hx hb dX2_combine_153 (lv_at hl 0 rfl) ?_
              refine W.lcmp hx hb dX2_combine_155 ?_
              refine lv_if_ne (tgt := 163) hx hb dX2_combine_156 (by decide) (fun c_22 => ?_) (fun c_22 => ?_)
              ·
                have i_22 : (lg_cmp (f_sk p_p.toNatClampNeg) (f_sk (p_p + 1).toNatClampNeg)).toInt ≠ 0 := by have z := g5_ne (a := (lg_cmp (f_sk p_p.toNatClampNeg) (f_sk (p_p + 1).toNatClampNeg)).toInt) (b := 0) (by rfl) (by decide) c_22; omega
                refine lv_lconst (v := 0) hx hb dX2_combine_163 (by decide) ?_
                refine lv_lstore (lv' := [(7, .long 0), (5, .long (f_sk (p_p + 1).toNatClampNeg)), (3, .long (f_sk p_p.toNatClampNeg)), (0, .ref a_j), (1, .int p_o), (2, .int p_p)]) hx hb dX2_combine_164 hl (by decide) rfl (fun ls hl => ?_)
                refine lv_aload_n hx hb dX2_combine_166 rfl (lv_at hl 3 rfl) ?_
                refine va_get (D := G.1) (ci := 2) (v := .ref a_sk) (C := RX2) (T := TX2) (N := 2) hx hb hts inG_X2 hown hK hP 0 rfl rfl 1 (by decide) (hts _ fl_X2_15) (fun _ h9 => h9) rfl dX2_combine_167 ?_
                refine lv_iload_n hx hb dX2_combine_170 rfl (lv_at hl 5 rfl) ?_
                refine lv_lload hx hb dX2_combine_171 (lv_at hl 0 rfl) ?_
                refine va_last hx hb hK hP hD hS 1 1 rfl rfl (i := p_p) (x := 0) (vp_in_iff.mpr ⟨by omega, by omega⟩) dX2_combine_173 (fun H locs hP hD hS => ?_)
                have hP : va_P G.1 vwCl [(a_j, .inr (2, [.ref a_as, .ref a_sk])), (a_sk, .inl (G.2 1, 50, .inr (.inl (vp_updL f_sk p_p.toNatClampNeg 0))))] H := hP
                have hD : va_D A [(a_j, .inr (2, [.ref a_as, .ref a_sk])), (a_sk, .inl (G.2 1, 50, .inr (.inl (vp_updL f_sk p_p.toNatClampNeg 0))))] := hD
                refine lv_lload hx hb dX2_combine_174 (lv_at hl 0 rfl) ?_
                refine lv_ldc2 (v := (-1000000000)) hx hb hown (hts _ kl_X2_54) dX2_combine_176 ?_
                refine W.lcmp hx hb dX2_combine_179 ?_
                refine g5_ti (v := 1) (by decide) ?_
                refine lv_if_lt (tgt := 196) hx hb dX2_combine_180 (by decide) (fun c_23 => ?_) (fun c_23 => ?_)
                ·
                  exact absurd c_23 (by decide)
                ·
                  refine lv_lload hx hb dX2_combine_183 (lv_at hl 0 rfl) ?_
                  refine lv_ldc2 (v := 1000000000) hx hb hown (hts _ kl_X2_56) dX2_combine_185 ?_
                  refine W.lcmp hx hb dX2_combine_188 ?_
                  refine g5_ti (v := (-1)) (by decide) ?_
                  refine lv_if_gt (tgt := 196) hx hb dX2_combine_189 (by decide) (fun c_24 => ?_) (fun c_24 => ?_)
                  ·
                    exact absurd c_24 (by decide)
                  ·
                    refine lv_iconst (v := 1) hx hb dX2_combine_192 (by decide) ?_
                    refine lv_goto (tgt := 197) hx hb dX2_combine_193 (by decide) ?_
                    exact W.zret (v := 1) hx hb hr rfl (fun t ht hW => ⟨⟨1, [(a_j, .inr (2, [.ref a_as, .ref a_sk])), (a_sk, .inl (G.2 1, 50, .inr (.inl (vp_updL f_sk p_p.toNatClampNeg 0))))], rfl, ⟨1, (vp_updL f_sk p_p.toNatClampNeg 0), ⟨by have zc_o_r : (1 : Int32).toInt = 1 := (by decide); omega, by have zc_o_r : (1 : Int32).toInt = 1 := (by decide); omega⟩, Or.inr (by omega), rfl, rfl⟩, by rw [ht]; exact hP.sub [0, 1] rfl, hD.sub [0, 1] (by decide) rfl⟩, hS.F ht⟩) hS.2.2 dX2_combine_197
              ·
                have i_22 : (lg_cmp (f_sk p_p.toNatClampNeg) (f_sk (p_p + 1).toNatClampNeg)).toInt = 0 := by have z := g5_neN (a := (lg_cmp (f_sk p_p.toNatClampNeg) (f_sk (p_p + 1).toNatClampNeg)).toInt) (b := 0) (by rfl) (by decide) c_22; omega
                refine lv_lconst (v := 1) hx hb dX2_combine_159 (by decide) ?_
                refine lv_goto (tgt := 164) hx hb dX2_combine_160 (by decide) ?_
                refine lv_lstore (lv' := [(7, .long 1), (5, .long (f_sk (p_p + 1).toNatClampNeg)), (3, .long (f_sk p_p.toNatClampNeg)), (0, .ref a_j), (1, .int p_o), (2, .int p_p)]) hx hb dX2_combine_164 hl (by decide) rfl (fun ls hl => ?_)
                refine lv_aload_n hx hb dX2_combine_166 rfl (lv_at hl 3 rfl) ?_
                refine va_get (D := G.1) (ci := 2) (v := .ref a_sk) (C := RX2) (T := TX2) (N := 2) hx hb hts inG_X2 hown hK hP 0 rfl rfl 1 (by decide) (hts _ fl_X2_15) (fun _ h9 => h9) rfl dX2_combine_167 ?_
                refine lv_iload_n hx hb dX2_combine_170 rfl (lv_at hl 5 rfl) ?_
                refine lv_lload hx hb dX2_combine_171 (lv_at hl 0 rfl) ?_
                refine va_last hx hb hK hP hD hS 1 1 rfl rfl (i := p_p) (x := 1) (vp_in_iff.mpr ⟨by omega, by omega⟩) dX2_combine_173 (fun H locs hP hD hS => ?_)
                have hP : va_P G.1 vwCl [(a_j, .inr (2, [.ref a_as, .ref a_sk])), (a_sk, .inl (G.2 1, 50, .inr (.inl (vp_updL f_sk p_p.toNatClampNeg 1))))] H := hP
                have hD : va_D A [(a_j, .inr (2, [.ref a_as, .ref a_sk])), (a_sk, .inl (G.2 1, 50, .inr (.inl (vp_updL f_sk p_p.toNatClampNeg 1))))] := hD
                refine lv_lload hx hb dX2_combine_174 (lv_at hl 0 rfl) ?_
                refine lv_ldc2 (v := (-1000000000)) hx hb hown (hts _ kl_X2_54) dX2_combine_176 ?_
                refine W.lcmp hx hb dX2_combine_179 ?_
                refine g5_ti (v := 1) (by decide) ?_
                refine lv_if_lt (tgt := 196) hx hb dX2_combine_180 (by decide) (fun c_25 => ?_) (fun c_25 => ?_)
                ·
                  exact absurd c_25 (by decide)
                ·
                  refine lv_lload hx hb dX2_combine_183 (lv_at hl 0 rfl) ?_
                  refine lv_ldc2 (v := 1000000000) hx hb hown (hts _ kl_X2_56) dX2_combine_185 ?_
                  refine W.lcmp hx hb dX2_combine_188 ?_
                  refine g5_ti (v := (-1)) (by decide) ?_
                  refine lv_if_gt (tgt := 196) hx hb dX2_combine_189 (by decide) (fun c_26 => ?_) (fun c_26 => ?_)
                  ·
                    exact absurd c_26 (by decide)
                  ·
                    refine lv_iconst (v := 1) hx hb dX2_combine_192 (by decide) ?_
                    refine lv_goto (tgt := 197) hx hb dX2_combine_193 (by decide) ?_
                    exact W.zret (v := 1) hx hb hr rfl (fun t ht hW => ⟨⟨1, [(a_j, .inr (2, [.ref a_as, .ref a_sk])), (a_sk, .inl (G.2 1, 50, .inr (.inl (vp_updL f_sk p_p.toNatClampNeg 1))))], rfl, ⟨1, (vp_updL f_sk p_p.toNatClampNeg 1), ⟨by have zc_o_r : (1 : Int32).toInt = 1 := (by decide); omega, by have zc_o_r : (1 : Int32).toInt = 1 := (by decide); omega⟩, Or.inr (by omega), rfl, rfl⟩, by rw [ht]; exact hP.sub [0, 1] rfl, hD.sub [0, 1] (by decide) rfl⟩, hS.F ht⟩) hS.2.2 dX2_combine_197
            ·
              have i_21 : p_o.toInt = 7 := by have z := g5_neN (a := p_o.toInt) (b := 7) (by rfl) (by decide) c_21; omega
              refine lv_lload_n hx hb dX2_combine_142 rfl (lv_at hl 1 rfl) ?_
              refine lv_lload hx hb dX2_combine_143 (lv_at hl 0 rfl) ?_
              refine W.lcmp hx hb dX2_combine_145 ?_
              refine lv_if_le (tgt := 163) hx hb dX2_combine_146 (by decide) (fun c_27 => ?_) (fun c_27 => ?_)
              ·
                have i_27 : (lg_cmp (f_sk p_p.toNatClampNeg) (f_sk (p_p + 1).toNatClampNeg)).toInt ≤ 0 := by have z := g5_le (a := (lg_cmp (f_sk p_p.toNatClampNeg) (f_sk (p_p + 1).toNatClampNeg)).toInt) (b := 0) (by rfl) (by decide) c_27; omega
                refine lv_lconst (v := 0) hx hb dX2_combine_163 (by decide) ?_
                refine lv_lstore (lv' := [(7, .long 0), (5, .long (f_sk (p_p + 1).toNatClampNeg)), (3, .long (f_sk p_p.toNatClampNeg)), (0, .ref a_j), (1, .int p_o), (2, .int p_p)]) hx hb dX2_combine_164 hl (by decide) rfl (fun ls hl => ?_)
                refine lv_aload_n hx hb dX2_combine_166 rfl (lv_at hl 3 rfl) ?_
                refine va_get (D := G.1) (ci := 2) (v := .ref a_sk) (C := RX2) (T := TX2) (N := 2) hx hb hts inG_X2 hown hK hP 0 rfl rfl 1 (by decide) (hts _ fl_X2_15) (fun _ h9 => h9) rfl dX2_combine_167 ?_
                refine lv_iload_n hx hb dX2_combine_170 rfl (lv_at hl 5 rfl) ?_
                refine lv_lload hx hb dX2_combine_171 (lv_at hl 0 rfl) ?_
                refine va_last hx hb hK hP hD hS 1 1 rfl rfl (i := p_p) (x := 0) (vp_in_iff.mpr ⟨by omega, by omega⟩) dX2_combine_173 (fun H locs hP hD hS => ?_)
                have hP : va_P G.1 vwCl [(a_j, .inr (2, [.ref a_as, .ref a_sk])), (a_sk, .inl (G.2 1, 50, .inr (.inl (vp_updL f_sk p_p.toNatClampNeg 0))))] H := hP
                have hD : va_D A [(a_j, .inr (2, [.ref a_as, .ref a_sk])), (a_sk, .inl (G.2 1, 50, .inr (.inl (vp_updL f_sk p_p.toNatClampNeg 0))))] := hD
                refine lv_lload hx hb dX2_combine_174 (lv_at hl 0 rfl) ?_
                refine lv_ldc2 (v := (-1000000000)) hx hb hown (hts _ kl_X2_54) dX2_combine_176 ?_
                refine W.lcmp hx hb dX2_combine_179 ?_
                refine g5_ti (v := 1) (by decide) ?_
                refine lv_if_lt (tgt := 196) hx hb dX2_combine_180 (by decide) (fun c_28 => ?_) (fun c_28 => ?_)
                ·
                  exact absurd c_28 (by decide)
                ·
                  refine lv_lload hx hb dX2_combine_183 (lv_at hl 0 rfl) ?_
                  refine lv_ldc2 (v := 1000000000) hx hb hown (hts _ kl_X2_56) dX2_combine_185 ?_
                  refine W.lcmp hx hb dX2_combine_188 ?_
                  refine g5_ti (v := (-1)) (by decide) ?_
                  refine lv_if_gt (tgt := 196) hx hb dX2_combine_189 (by decide) (fun c_29 => ?_) (fun c_29 => ?_)
                  ·
                    exact absurd c_29 (by decide)
                  ·
                    refine lv_iconst (v := 1) hx hb dX2_combine_192 (by decide) ?_
                    refine lv_goto (tgt := 197) hx hb dX2_combine_193 (by decide) ?_
                    exact W.zret (v := 1) hx hb hr rfl (fun t ht hW => ⟨⟨1, [(a_j, .inr (2, [.ref a_as, .ref a_sk])), (a_sk, .inl (G.2 1, 50, .inr (.inl (vp_updL f_sk p_p.toNatClampNeg 0))))], rfl, ⟨1, (vp_updL f_sk p_p.toNatClampNeg 0), ⟨by have zc_o_r : (1 : Int32).toInt = 1 := (by decide); omega, by have zc_o_r : (1 : Int32).toInt = 1 := (by decide); omega⟩, Or.inr (by omega), rfl, rfl⟩, by rw [ht]; exact hP.sub [0, 1] rfl, hD.sub [0, 1] (by decide) rfl⟩, hS.F ht⟩) hS.2.2 dX2_combine_197
              ·
                have i_27 : (lg_cmp (f_sk p_p.toNatClampNeg) (f_sk (p_p + 1).toNatClampNeg)).toInt > 0 := by have z := g5_leN (a := (lg_cmp (f_sk p_p.toNatClampNeg) (f_sk (p_p + 1).toNatClampNeg)).toInt) (b := 0) (by rfl) (by decide) c_27; omega
                refine lv_goto (tgt := 159) hx hb dX2_combine_149 (by decide) ?_
                refine lv_lconst (v := 1) hx hb dX2_combine_159 (by decide) ?_
                refine lv_goto (tgt := 164) hx hb dX2_combine_160 (by decide) ?_
                refine lv_lstore (lv' := [(7, .long 1), (5, .long (f_sk (p_p + 1).toNatClampNeg)), (3, .long (f_sk p_p.toNatClampNeg)), (0, .ref a_j), (1, .int p_o), (2, .int p_p)]) hx hb dX2_combine_164 hl (by decide) rfl (fun ls hl => ?_)
                refine lv_aload_n hx hb dX2_combine_166 rfl (lv_at hl 3 rfl) ?_
                refine va_get (D := G.1) (ci := 2) (v := .ref a_sk) (C := RX2) (T := TX2) (N := 2) hx hb hts inG_X2 hown hK hP 0 rfl rfl 1 (by decide) (hts _ fl_X2_15) (fun _ h9 => h9) rfl dX2_combine_167 ?_
                refine lv_iload_n hx hb dX2_combine_170 rfl (lv_at hl 5 rfl) ?_
                refine lv_lload hx hb dX2_combine_171 (lv_at hl 0 rfl) ?_
                refine va_last hx hb hK hP hD hS 1 1 rfl rfl (i := p_p) (x := 1) (vp_in_iff.mpr ⟨by omega, by omega⟩) dX2_combine_173 (fun H locs hP hD hS => ?_)
                have hP : va_P G.1 vwCl [(a_j, .inr (2, [.ref a_as, .ref a_sk])), (a_sk, .inl (G.2 1, 50, .inr (.inl (vp_updL f_sk p_p.toNatClampNeg 1))))] H := hP
                have hD : va_D A [(a_j, .inr (2, [.ref a_as, .ref a_sk])), (a_sk, .inl (G.2 1, 50, .inr (.inl (vp_updL f_sk p_p.toNatClampNeg 1))))] := hD
                refine lv_lload hx hb dX2_combine_174 (lv_at hl 0 rfl) ?_
                refine lv_ldc2 (v := (-1000000000)) hx hb hown (hts _ kl_X2_54) dX2_combine_176 ?_
                refine W.lcmp hx hb dX2_combine_179 ?_
                refine g5_ti (v := 1) (by decide) ?_
                refine lv_if_lt (tgt := 196) hx hb dX2_combine_180 (by decide) (fun c_30 => ?_) (fun c_30 => ?_)
                ·
                  exact absurd c_30 (by decide)
                ·
                  refine lv_lload hx hb dX2_combine_183 (lv_at hl 0 rfl) ?_
                  refine lv_ldc2 (v := 1000000000) hx hb hown (hts _ kl_X2_56) dX2_combine_185 ?_
                  refine W.lcmp hx hb dX2_combine_188 ?_
                  refine g5_ti (v := (-1)) (by decide) ?_
                  refine lv_if_gt (tgt := 196) hx hb dX2_combine_189 (by decide) (fun c_31 => ?_) (fun c_31 => ?_)
                  ·
                    exact absurd c_31 (by decide)
                  ·
                    refine lv_iconst (v := 1) hx hb dX2_combine_192 (by decide) ?_
                    refine lv_goto (tgt := 197) hx hb dX2_combine_193 (by decide) ?_
                    exact W.zret (v := 1) hx hb hr rfl (fun t ht hW => ⟨⟨1, [(a_j, .inr (2, [.ref a_as, .ref a_sk])), (a_sk, .inl (G.2 1, 50, .inr (.inl (vp_updL f_sk p_p.toNatClampNeg 1))))], rfl, ⟨1, (vp_updL f_sk p_p.toNatClampNeg 1), ⟨by have zc_o_r : (1 : Int32).toInt = 1 := (by decide); omega, by have zc_o_r : (1 : Int32).toInt = 1 := (by decide); omega⟩, Or.inr (by omega), rfl, rfl⟩, by rw [ht]; exact hP.sub [0, 1] rfl, hD.sub [0, 1] (by decide) rfl⟩, hS.F ht⟩) hS.2.2 dX2_combine_197
          ·
            have i_20 : p_o.toInt = 6 := by have z := g5_neN (a := p_o.toInt) (b := 6) (by rfl) (by decide) c_20; omega
            refine lv_lload_n hx hb dX2_combine_126 rfl (lv_at hl 1 rfl) ?_
            refine lv_lload hx hb dX2_combine_127 (lv_at hl 0 rfl) ?_
            refine W.lcmp hx hb dX2_combine_129 ?_
            refine lv_if_ge (tgt := 163) hx hb dX2_combine_130 (by decide) (fun c_32 => ?_) (fun c_32 => ?_)
            ·
              have i_32 : (lg_cmp (f_sk p_p.toNatClampNeg) (f_sk (p_p + 1).toNatClampNeg)).toInt ≥ 0 := by have z := g5_ge (a := (lg_cmp (f_sk p_p.toNatClampNeg) (f_sk (p_p + 1).toNatClampNeg)).toInt) (b := 0) (by rfl) (by decide) c_32; omega
              refine lv_lconst (v := 0) hx hb dX2_combine_163 (by decide) ?_
              refine lv_lstore (lv' := [(7, .long 0), (5, .long (f_sk (p_p + 1).toNatClampNeg)), (3, .long (f_sk p_p.toNatClampNeg)), (0, .ref a_j), (1, .int p_o), (2, .int p_p)]) hx hb dX2_combine_164 hl (by decide) rfl (fun ls hl => ?_)
              refine lv_aload_n hx hb dX2_combine_166 rfl (lv_at hl 3 rfl) ?_
              refine va_get (D := G.1) (ci := 2) (v := .ref a_sk) (C := RX2) (T := TX2) (N := 2) hx hb hts inG_X2 hown hK hP 0 rfl rfl 1 (by decide) (hts _ fl_X2_15) (fun _ h9 => h9) rfl dX2_combine_167 ?_
              refine lv_iload_n hx hb dX2_combine_170 rfl (lv_at hl 5 rfl) ?_
              refine lv_lload hx hb dX2_combine_171 (lv_at hl 0 rfl) ?_
              refine va_last hx hb hK hP hD hS 1 1 rfl rfl (i := p_p) (x := 0) (vp_in_iff.mpr ⟨by omega, by omega⟩) dX2_combine_173 (fun H locs hP hD hS => ?_)
              have hP : va_P G.1 vwCl [(a_j, .inr (2, [.ref a_as, .ref a_sk])), (a_sk, .inl (G.2 1, 50, .inr (.inl (vp_updL f_sk p_p.toNatClampNeg 0))))] H := hP
              have hD : va_D A [(a_j, .inr (2, [.ref a_as, .ref a_sk])), (a_sk, .inl (G.2 1, 50, .inr (.inl (vp_updL f_sk p_p.toNatClampNeg 0))))] := hD
              refine lv_lload hx hb dX2_combine_174 (lv_at hl 0 rfl) ?_
              refine lv_ldc2 (v := (-1000000000)) hx hb hown (hts _ kl_X2_54) dX2_combine_176 ?_
              refine W.lcmp hx hb dX2_combine_179 ?_
              refine g5_ti (v := 1) (by decide) ?_
              refine lv_if_lt (tgt := 196) hx hb dX2_combine_180 (by decide) (fun c_33 => ?_) (fun c_33 => ?_)
              ·
                exact absurd c_33 (by decide)
              ·
                refine lv_lload hx hb dX2_combine_183 (lv_at hl 0 rfl) ?_
                refine lv_ldc2 (v := 1000000000) hx hb hown (hts _ kl_X2_56) dX2_combine_185 ?_
                refine W.lcmp hx hb dX2_combine_188 ?_
                refine g5_ti (v := (-1)) (by decide) ?_
                refine lv_if_gt (tgt := 196) hx hb dX2_combine_189 (by decide) (fun c_34 => ?_) (fun c_34 => ?_)
                ·
                  exact absurd c_34 (by decide)
                ·
                  refine lv_iconst (v := 1) hx hb dX2_combine_192 (by decide) ?_
                  refine lv_goto (tgt := 197) hx hb dX2_combine_193 (by decide) ?_
                  exact W.zret (v := 1) hx hb hr rfl (fun t ht hW => ⟨⟨1, [(a_j, .inr (2, [.ref a_as, .ref a_sk])), (a_sk, .inl (G.2 1, 50, .inr (.inl (vp_updL f_sk p_p.toNatClampNeg 0))))], rfl, ⟨1, (vp_updL f_sk p_p.toNatClampNeg 0), ⟨by have zc_o_r : (1 : Int32).toInt = 1 := (by decide); omega, by have zc_o_r : (1 : Int32).toInt = 1 := (by decide); omega⟩, Or.inr (by omega), rfl, rfl⟩, by rw [ht]; exact hP.sub [0, 1] rfl, hD.sub [0, 1] (by decide) rfl⟩, hS.F ht⟩) hS.2.2 dX2_combine_197
            ·
              have i_32 : (lg_cmp (f_sk p_p.toNatClampNeg) (f_sk (p_p + 1).toNatClampNeg)).toInt < 0 := by have z := g5_geN (a := (lg_cmp (f_sk p_p.toNatClampNeg) (f_sk (p_p + 1).toNatClampNeg)).toInt) (b := 0) (by rfl) (by decide) c_32; omega
              refine lv_goto (tgt := 159) hx hb dX2_combine_133 (by decide) ?_
              refine lv_lconst (v := 1) hx hb dX2_combine_159 (by decide) ?_
              refine lv_goto (tgt := 164) hx hb dX2_combine_160 (by decide) ?_
              refine lv_lstore (lv' := [(7, .long 1), (5, .long (f_sk (p_p + 1).toNatClampNeg)), (3, .long (f_sk p_p.toNatClampNeg)), (0, .ref a_j), (1, .int p_o), (2, .int p_p)]) hx hb dX2_combine_164 hl (by decide) rfl (fun ls hl => ?_)
              refine lv_aload_n hx hb dX2_combine_166 rfl (lv_at hl 3 rfl) ?_
              refine va_get (D := G.1) (ci := 2) (v := .ref a_sk) (C := RX2) (T := TX2) (N := 2) hx hb hts inG_X2 hown hK hP 0 rfl rfl 1 (by decide) (hts _ fl_X2_15) (fun _ h9 => h9) rfl dX2_combine_167 ?_
              refine lv_iload_n hx hb dX2_combine_170 rfl (lv_at hl 5 rfl) ?_
              refine lv_lload hx hb dX2_combine_171 (lv_at hl 0 rfl) ?_
              refine va_last hx hb hK hP hD hS 1 1 rfl rfl (i := p_p) (x := 1) (vp_in_iff.mpr ⟨by omega, by omega⟩) dX2_combine_173 (fun H locs hP hD hS => ?_)
              have hP : va_P G.1 vwCl [(a_j, .inr (2, [.ref a_as, .ref a_sk])), (a_sk, .inl (G.2 1, 50, .inr (.inl (vp_updL f_sk p_p.toNatClampNeg 1))))] H := hP
              have hD : va_D A [(a_j, .inr (2, [.ref a_as, .ref a_sk])), (a_sk, .inl (G.2 1, 50, .inr (.inl (vp_updL f_sk p_p.toNatClampNeg 1))))] := hD
              refine lv_lload hx hb dX2_combine_174 (lv_at hl 0 rfl) ?_
              refine lv_ldc2 (v := (-1000000000)) hx hb hown (hts _ kl_X2_54) dX2_combine_176 ?_
              refine W.lcmp hx hb dX2_combine_179 ?_
              refine g5_ti (v := 1) (by decide) ?_
              refine lv_if_lt (tgt := 196) hx hb dX2_combine_180 (by decide) (fun c_35 => ?_) (fun c_35 => ?_)
              ·
                exact absurd c_35 (by decide)
              ·
                refine lv_lload hx hb dX2_combine_183 (lv_at hl 0 rfl) ?_
                refine lv_ldc2 (v := 1000000000) hx hb hown (hts _ kl_X2_56) dX2_combine_185 ?_
                refine W.lcmp hx hb dX2_combine_188 ?_
                refine g5_ti (v := (-1)) (by decide) ?_
                refine lv_if_gt (tgt := 196) hx hb dX2_combine_189 (by decide) (fun c_36 => ?_) (fun c_36 => ?_)
                ·
                  exact absurd c_36 (by decide)
                ·
                  refine lv_iconst (v := 1) hx hb dX2_combine_192 (by decide) ?_
                  refine lv_goto (tgt := 197) hx hb dX2_combine_193 (by decide) ?_
                  exact W.zret (v := 1) hx hb hr rfl (fun t ht hW => ⟨⟨1, [(a_j, .inr (2, [.ref a_as, .ref a_sk])), (a_sk, .inl (G.2 1, 50, .inr (.inl (vp_updL f_sk p_p.toNatClampNeg 1))))], rfl, ⟨1, (vp_updL f_sk p_p.toNatClampNeg 1), ⟨by have zc_o_r : (1 : Int32).toInt = 1 := (by decide); omega, by have zc_o_r : (1 : Int32).toInt = 1 := (by decide); omega⟩, Or.inr (by omega), rfl, rfl⟩, by rw [ht]; exact hP.sub [0, 1] rfl, hD.sub [0, 1] (by decide) rfl⟩, hS.F ht⟩) hS.2.2 dX2_combine_197
      ·
        have i_4 : p_o.toInt = 5 := by have z := g5_neN (a := p_o.toInt) (b := 5) (by rfl) (by decide) c_4; omega
        refine lv_aload_n hx hb dX2_combine_20 rfl (lv_at hl 0 rfl) ?_
        refine va_get (D := G.1) (ci := 2) (v := .ref a_sk) (C := RX2) (T := TX2) (N := 2) hx hb hts inG_X2 hown hK hP 0 rfl rfl 1 (by decide) (hts _ fl_X2_15) (fun _ h9 => h9) rfl dX2_combine_21 ?_
        refine lv_iload_n hx hb dX2_combine_24 rfl (lv_at hl 2 rfl) ?_
        refine lv_iconst (v := 1) hx hb dX2_combine_25 (by decide) ?_
        refine lv_iadd hx hb dX2_combine_26 ?_
        have t_37 : (p_p + 1).toInt = p_p.toInt + 1 := g5_iadd (a := p_p.toInt) (b := 1) (by rfl) (by decide) (by omega) (by omega)
        refine va_lald hx hb hK hP 1 1 rfl rfl (i := (p_p + 1)) (vp_in_iff.mpr ⟨by omega, by omega⟩) dX2_combine_27 ?_
        refine lv_lconst (v := 0) hx hb dX2_combine_28 (by decide) ?_
        refine W.lcmp hx hb dX2_combine_29 ?_
        refine lv_if_ne (tgt := 35) hx hb dX2_combine_30 (by decide) (fun c_38 => ?_) (fun c_38 => ?_)
        ·
          have i_38 : (lg_cmp (f_sk (p_p + 1).toNatClampNeg) 0).toInt ≠ 0 := by have z := g5_ne (a := (lg_cmp (f_sk (p_p + 1).toNatClampNeg) 0).toInt) (b := 0) (by rfl) (by decide) c_38; omega
          refine lv_aload_n hx hb dX2_combine_35 rfl (lv_at hl 0 rfl) ?_
          refine va_get (D := G.1) (ci := 2) (v := .ref a_sk) (C := RX2) (T := TX2) (N := 2) hx hb hts inG_X2 hown hK hP 0 rfl rfl 1 (by decide) (hts _ fl_X2_15) (fun _ h9 => h9) rfl dX2_combine_36 ?_
          refine lv_iload_n hx hb dX2_combine_39 rfl (lv_at hl 2 rfl) ?_
          refine va_lald hx hb hK hP 1 1 rfl rfl (i := p_p) (vp_in_iff.mpr ⟨by omega, by omega⟩) dX2_combine_40 ?_
          refine lv_lstore_n (lv' := [(3, .long (f_sk p_p.toNatClampNeg)), (0, .ref a_j), (1, .int p_o), (2, .int p_p)]) hx hb dX2_combine_41 rfl hl (by decide) rfl (fun ls hl => ?_)
          refine lv_aload_n hx hb dX2_combine_42 rfl (lv_at hl 1 rfl) ?_
          refine va_get (D := G.1) (ci := 2) (v := .ref a_sk) (C := RX2) (T := TX2) (N := 2) hx hb hts inG_X2 hown hK hP 0 rfl rfl 1 (by decide) (hts _ fl_X2_15) (fun _ h9 => h9) rfl dX2_combine_43 ?_
          refine lv_iload_n hx hb dX2_combine_46 rfl (lv_at hl 3 rfl) ?_
          refine lv_iconst (v := 1) hx hb dX2_combine_47 (by decide) ?_
          refine lv_iadd hx hb dX2_combine_48 ?_
          have t_39 : (p_p + 1).toInt = p_p.toInt + 1 := g5_iadd (a := p_p.toInt) (b := 1) (by rfl) (by decide) (by omega) (by omega)
          refine va_lald hx hb hK hP 1 1 rfl rfl (i := (p_p + 1)) (vp_in_iff.mpr ⟨by omega, by omega⟩) dX2_combine_49 ?_
          refine lv_lstore (lv' := [(5, .long (f_sk (p_p + 1).toNatClampNeg)), (3, .long (f_sk p_p.toNatClampNeg)), (0, .ref a_j), (1, .int p_o), (2, .int p_p)]) hx hb dX2_combine_50 hl (by decide) rfl (fun ls hl => ?_)
          refine lv_iload_n hx hb dX2_combine_52 rfl (lv_at hl 3 rfl) ?_
          have s_40 : p_o.toInt = 5 := by omega
          have i_40 : p_o.toInt = 5 := by omega
          refine lv_tableIn (tgt := 111) hx hb dX2_combine_53 (by omega) (by omega) (by rw [s_40]; rfl) (by decide) ?_
          refine lv_lload_n hx hb dX2_combine_111 rfl (lv_at hl 1 rfl) ?_
          refine lv_lload hx hb dX2_combine_112 (lv_at hl 0 rfl) ?_
          refine lv_ldiv hx hb dX2_combine_114 (g5_cmp1 i_38) ?_
          refine lv_lstore (lv' := [(7, .long ((f_sk p_p.toNatClampNeg) / (f_sk (p_p + 1).toNatClampNeg))), (5, .long (f_sk (p_p + 1).toNatClampNeg)), (3, .long (f_sk p_p.toNatClampNeg)), (0, .ref a_j), (1, .int p_o), (2, .int p_p)]) hx hb dX2_combine_115 hl (by decide) rfl (fun ls hl => ?_)
          refine lv_goto (tgt := 166) hx hb dX2_combine_117 (by decide) ?_
          refine lv_aload_n hx hb dX2_combine_166 rfl (lv_at hl 3 rfl) ?_
          refine va_get (D := G.1) (ci := 2) (v := .ref a_sk) (C := RX2) (T := TX2) (N := 2) hx hb hts inG_X2 hown hK hP 0 rfl rfl 1 (by decide) (hts _ fl_X2_15) (fun _ h9 => h9) rfl dX2_combine_167 ?_
          refine lv_iload_n hx hb dX2_combine_170 rfl (lv_at hl 5 rfl) ?_
          refine lv_lload hx hb dX2_combine_171 (lv_at hl 0 rfl) ?_
          refine va_last hx hb hK hP hD hS 1 1 rfl rfl (i := p_p) (x := ((f_sk p_p.toNatClampNeg) / (f_sk (p_p + 1).toNatClampNeg))) (vp_in_iff.mpr ⟨by omega, by omega⟩) dX2_combine_173 (fun H locs hP hD hS => ?_)
          have hP : va_P G.1 vwCl [(a_j, .inr (2, [.ref a_as, .ref a_sk])), (a_sk, .inl (G.2 1, 50, .inr (.inl (vp_updL f_sk p_p.toNatClampNeg ((f_sk p_p.toNatClampNeg) / (f_sk (p_p + 1).toNatClampNeg))))))] H := hP
          have hD : va_D A [(a_j, .inr (2, [.ref a_as, .ref a_sk])), (a_sk, .inl (G.2 1, 50, .inr (.inl (vp_updL f_sk p_p.toNatClampNeg ((f_sk p_p.toNatClampNeg) / (f_sk (p_p + 1).toNatClampNeg))))))] := hD
          refine lv_lload hx hb dX2_combine_174 (lv_at hl 0 rfl) ?_
          refine lv_ldc2 (v := (-1000000000)) hx hb hown (hts _ kl_X2_54) dX2_combine_176 ?_
          refine W.lcmp hx hb dX2_combine_179 ?_
          refine lv_if_lt (tgt := 196) hx hb dX2_combine_180 (by decide) (fun c_41 => ?_) (fun c_41 => ?_)
          ·
            have i_41 : (lg_cmp ((f_sk p_p.toNatClampNeg) / (f_sk (p_p + 1).toNatClampNeg)) (-1000000000)).toInt < 0 := by have z := g5_lt (a := (lg_cmp ((f_sk p_p.toNatClampNeg) / (f_sk (p_p + 1).toNatClampNeg)) (-1000000000)).toInt) (b := 0) (by rfl) (by decide) c_41; omega
            refine lv_iconst (v := 0) hx hb dX2_combine_196 (by decide) ?_
            exact W.zret (v := 0) hx hb hr rfl (fun t ht hW => ⟨⟨0, [(a_j, .inr (2, [.ref a_as, .ref a_sk])), (a_sk, .inl (G.2 1, 50, .inr (.inl (vp_updL f_sk p_p.toNatClampNeg ((f_sk p_p.toNatClampNeg) / (f_sk (p_p + 1).toNatClampNeg))))))], rfl, ⟨0, (vp_updL f_sk p_p.toNatClampNeg ((f_sk p_p.toNatClampNeg) / (f_sk (p_p + 1).toNatClampNeg))), ⟨by have zc_o_r : (0 : Int32).toInt = 0 := (by decide); omega, by have zc_o_r : (0 : Int32).toInt = 0 := (by decide); omega⟩, Or.inl (by decide), rfl, rfl⟩, by rw [ht]; exact hP.sub [0, 1] rfl, hD.sub [0, 1] (by decide) rfl⟩, hS.F ht⟩) hS.2.2 dX2_combine_197
          ·
            have i_41 : (lg_cmp ((f_sk p_p.toNatClampNeg) / (f_sk (p_p + 1).toNatClampNeg)) (-1000000000)).toInt ≥ 0 := by have z := g5_ltN (a := (lg_cmp ((f_sk p_p.toNatClampNeg) / (f_sk (p_p + 1).toNatClampNeg)) (-1000000000)).toInt) (b := 0) (by rfl) (by decide) c_41; omega
            refine lv_lload hx hb dX2_combine_183 (lv_at hl 0 rfl) ?_
            refine lv_ldc2 (v := 1000000000) hx hb hown (hts _ kl_X2_56) dX2_combine_185 ?_
            refine W.lcmp hx hb dX2_combine_188 ?_
            refine lv_if_gt (tgt := 196) hx hb dX2_combine_189 (by decide) (fun c_42 => ?_) (fun c_42 => ?_)
            ·
              have i_42 : (lg_cmp ((f_sk p_p.toNatClampNeg) / (f_sk (p_p + 1).toNatClampNeg)) 1000000000).toInt > 0 := by have z := g5_gt (a := (lg_cmp ((f_sk p_p.toNatClampNeg) / (f_sk (p_p + 1).toNatClampNeg)) 1000000000).toInt) (b := 0) (by rfl) (by decide) c_42; omega
              refine lv_iconst (v := 0) hx hb dX2_combine_196 (by decide) ?_
              exact W.zret (v := 0) hx hb hr rfl (fun t ht hW => ⟨⟨0, [(a_j, .inr (2, [.ref a_as, .ref a_sk])), (a_sk, .inl (G.2 1, 50, .inr (.inl (vp_updL f_sk p_p.toNatClampNeg ((f_sk p_p.toNatClampNeg) / (f_sk (p_p + 1).toNatClampNeg))))))], rfl, ⟨0, (vp_updL f_sk p_p.toNatClampNeg ((f_sk p_p.toNatClampNeg) / (f_sk (p_p + 1).toNatClampNeg))), ⟨by have zc_o_r : (0 : Int32).toInt = 0 := (by decide); omega, by have zc_o_r : (0 : Int32).toInt = 0 := (by decide); omega⟩, Or.inl (by decide), rfl, rfl⟩, by rw [ht]; exact hP.sub [0, 1] rfl, hD.sub [0, 1] (by decide) rfl⟩, hS.F ht⟩) hS.2.2 dX2_combine_197
            ·
              have i_42 : (lg_cmp ((f_sk p_p.toNatClampNeg) / (f_sk (p_p + 1).toNatClampNeg)) 1000000000).toInt ≤ 0 := by have z := g5_gtN (a := (lg_cmp ((f_sk p_p.toNatClampNeg) / (f_sk (p_p + 1).toNatClampNeg)) 1000000000).toInt) (b := 0) (by rfl) (by decide) c_42; omega
              refine lv_iconst (v := 1) hx hb dX2_combine_192 (by decide) ?_
              refine lv_goto (tgt := 197) hx hb dX2_combine_193 (by decide) ?_
              exact W.zret (v := 1) hx hb hr rfl (fun t ht hW => ⟨⟨1, [(a_j, .inr (2, [.ref a_as, .ref a_sk])), (a_sk, .inl (G.2 1, 50, .inr (.inl (vp_updL f_sk p_p.toNatClampNeg ((f_sk p_p.toNatClampNeg) / (f_sk (p_p + 1).toNatClampNeg))))))], rfl, ⟨1, (vp_updL f_sk p_p.toNatClampNeg ((f_sk p_p.toNatClampNeg) / (f_sk (p_p + 1).toNatClampNeg))), ⟨by have zc_o_r : (1 : Int32).toInt = 1 := (by decide); omega, by have zc_o_r : (1 : Int32).toInt = 1 := (by decide); omega⟩, Or.inr (by omega), rfl, rfl⟩, by rw [ht]; exact hP.sub [0, 1] rfl, hD.sub [0, 1] (by decide) rfl⟩, hS.F ht⟩) hS.2.2 dX2_combine_197
        ·
          have i_38 : (lg_cmp (f_sk (p_p + 1).toNatClampNeg) 0).toInt = 0 := by have z := g5_neN (a := (lg_cmp (f_sk (p_p + 1).toNatClampNeg) 0).toInt) (b := 0) (by rfl) (by decide) c_38; omega
          refine lv_iconst (v := 0) hx hb dX2_combine_33 (by decide) ?_
          exact W.zret (v := 0) hx hb hr rfl (fun t ht hW => ⟨⟨0, [(a_j, .inr (2, [.ref a_as, .ref a_sk])), (a_sk, .inl (G.2 1, 50, .inr (.inl f_sk)))], rfl, ⟨0, f_sk, ⟨by have zc_o_r : (0 : Int32).toInt = 0 := (by decide); omega, by have zc_o_r : (0 : Int32).toInt = 0 := (by decide); omega⟩, Or.inl (by decide), rfl, rfl⟩, by rw [ht]; exact hP.sub [0, 1] rfl, hD.sub [0, 1] (by decide) rfl⟩, hS.F ht⟩) hS.2.2 dX2_combine_34
theorem dJ9_max_7cf53_0 : decode cJ9_max_7cf53 0 = .ok (.iload_n 0, 1) := by decide +kernel
theorem dJ9_max_7cf53_1 : decode cJ9_max_7cf53 1 = .ok (.iload_n 1, 1) := by decide +kernel
theorem dJ9_max_7cf53_2 : decode cJ9_max_7cf53 2 = .ok (.if_icmp .lt 7, 3) := by decide +kernel
theorem dJ9_max_7cf53_5 : decode cJ9_max_7cf53 5 = .ok (.iload_n 0, 1) := by decide +kernel
theorem dJ9_max_7cf53_6 : decode cJ9_max_7cf53 6 = .ok (.goto 4, 3) := by decide +kernel
theorem dJ9_max_7cf53_9 : decode cJ9_max_7cf53 9 = .ok (.iload_n 1, 1) := by decide +kernel
theorem dJ9_max_7cf53_10 : decode cJ9_max_7cf53 10 = .ok (.ireturn, 1) := by decide +kernel
set_option maxHeartbeats 4000000 in
set_option maxRecDepth 100000 in
theorem j_max (l : Launch) (G : g5_G) (sz : Nat) (p_a : Int32) (p_b : Int32) : Met l yJ9_max_7cf53 (wsG yJ9_max_7cf53 cJ9_max_7cf53 2 (some .int)) ({ frames := 0, cells := 0, slots := 0, locals := 0 }) (va_Pc [.int p_a, .int p_b] (g5_P G [] sz)) (va_Qi (fun (r : Int32) (u : va_W) => (∃ (o_r : Int32), (p_a.toInt ≤ o_r.toInt ∧ p_b.toInt ≤ o_r.toInt ∧ (o_r.toInt = p_a.toInt ∨ o_r.toInt = p_b.toInt)) ∧ (r = o_r) ∧ (u = []))) (g5_B G (va_A [] sz)) (va_A [] sz)) 0 0 (va_A [] sz) := by
  refine Met.ofW (cc := cJ9_max_7cf53) (maxL := 2) (ret := (some .int)) (by decide) rfl ?_
  intro p e s m args below meth c s₁ B hml hv
  obtain ⟨rfl, hsz, hP, hK, hD0, hN, hT⟩ := hv
  have hx := B.exec
  have hb := B.bytes
  have hr := B.returns
  have hts : ∀ w ∈ tblG, w.before _ s = true := fun w h => atoms_spec (ws := (wsG yJ9_max_7cf53 cJ9_max_7cf53 2 (some .int))) B.pre w (List.mem_cons_of_mem _ h)
  have hown : s.vm.findClass RJ9 = some m.cls := findClass_of_methodNamed B.named
  have hlocks := B.notSynchronized
  subst hsz
  have hD := hD0.self (sz := s.heap.size)
  generalize hAe : va_A [] s.heap.size = A at hD hT ⊢
  have hA : ∀ q : Nat, s.heap.size ≤ q → A q := fun q h => by rw [← hAe]; exact Or.inr h
  have hS : va_S A s.heap s.heap [] := va_S.rf
  have hP : va_P G.1 vwCl [] s.heap := hP
  have hl := lv_entry ([.int p_a, .int p_b]) (n := 2) (Nat.le_of_ble_eq_true rfl)
  rw [lg_entry_eq]
  generalize (lg_sl ([.int p_a, .int p_b]) ++ List.replicate (2 - (lg_sl ([.int p_a, .int p_b])).length) Slot.unset).toArray = ls at hl ⊢
  have hl : lv_has ls 2 [(0, .int p_a), (1, .int p_b)] := hl
  refine lv_iload_n hx hb dJ9_max_7cf53_0 rfl (lv_at hl 0 rfl) ?_
  refine lv_iload_n hx hb dJ9_max_7cf53_1 rfl (lv_at hl 1 rfl) ?_
  refine lv_icmp_lt (tgt := 9) hx hb dJ9_max_7cf53_2 (by decide) (fun c_1 => ?_) (fun c_1 => ?_)
  ·
    have i_1 : p_a.toInt < p_b.toInt := by have z := g5_lt (a := p_a.toInt) (b := p_b.toInt) (by rfl) (by rfl) c_1; omega
    refine lv_iload_n hx hb dJ9_max_7cf53_9 rfl (lv_at hl 1 rfl) ?_
    exact W.iret (v := p_b) hx hb hr (fun t ht hW => ⟨⟨p_b, [], rfl, ⟨p_b, by omega, rfl, rfl⟩, by rw [ht]; exact hP.sub [] rfl, hD.sub [] (by decide) rfl⟩, hS.F ht⟩) hS.2.2 dJ9_max_7cf53_10
  ·
    have i_1 : p_a.toInt ≥ p_b.toInt := by have z := g5_ltN (a := p_a.toInt) (b := p_b.toInt) (by rfl) (by rfl) c_1; omega
    refine lv_iload_n hx hb dJ9_max_7cf53_5 rfl (lv_at hl 0 rfl) ?_
    refine lv_goto (tgt := 10) hx hb dJ9_max_7cf53_6 (by decide) ?_
    exact W.iret (v := p_a) hx hb hr (fun t ht hW => ⟨⟨p_a, [], rfl, ⟨p_a, by omega, rfl, rfl⟩, by rw [ht]; exact hP.sub [] rfl, hD.sub [] (by decide) rfl⟩, hS.F ht⟩) hS.2.2 dJ9_max_7cf53_10
theorem dX2_holds_0 : decode cX2_holds 0 = .ok (.iconst 0, 1) := by decide +kernel
theorem dX2_holds_1 : decode cX2_holds 1 = .ok (.istore_n 3, 1) := by decide +kernel
theorem dX2_holds_2 : decode cX2_holds 2 = .ok (.aload_n 1, 1) := by decide +kernel
theorem dX2_holds_3 : decode cX2_holds 3 = .ok (.getfield 41, 3) := by decide +kernel
theorem dX2_holds_6 : decode cX2_holds 6 = .ok (.iload_n 2, 1) := by decide +kernel
theorem dX2_holds_7 : decode cX2_holds 7 = .ok (.iconst 1, 1) := by decide +kernel
theorem dX2_holds_8 : decode cX2_holds 8 = .ok (.iadd, 1) := by decide +kernel
theorem dX2_holds_9 : decode cX2_holds 9 = .ok (.iaload, 1) := by decide +kernel
theorem dX2_holds_10 : decode cX2_holds 10 = .ok (.istore 4, 2) := by decide +kernel
theorem dX2_holds_12 : decode cX2_holds 12 = .ok (.aload_n 1, 1) := by decide +kernel
theorem dX2_holds_13 : decode cX2_holds 13 = .ok (.getfield 41, 3) := by decide +kernel
theorem dX2_holds_16 : decode cX2_holds 16 = .ok (.iload_n 2, 1) := by decide +kernel
theorem dX2_holds_17 : decode cX2_holds 17 = .ok (.iaload, 1) := by decide +kernel
theorem dX2_holds_18 : decode cX2_holds 18 = .ok (.istore 5, 2) := by decide +kernel
theorem dX2_holds_20 : decode cX2_holds 20 = .ok (.iload 5, 2) := by decide +kernel
theorem dX2_holds_22 : decode cX2_holds 22 = .ok (.iload 4, 2) := by decide +kernel
theorem dX2_holds_24 : decode cX2_holds 24 = .ok (.if_icmp .ge 219, 3) := by decide +kernel
theorem dX2_holds_27 : decode cX2_holds 27 = .ok (.aload_n 1, 1) := by decide +kernel
theorem dX2_holds_28 : decode cX2_holds 28 = .ok (.getfield 44, 3) := by decide +kernel
theorem dX2_holds_31 : decode cX2_holds 31 = .ok (.iload 5, 2) := by decide +kernel
theorem dX2_holds_33 : decode cX2_holds 33 = .ok (.iaload, 1) := by decide +kernel
theorem dX2_holds_34 : decode cX2_holds 34 = .ok (.bipush 12, 2) := by decide +kernel
theorem dX2_holds_36 : decode cX2_holds 36 = .ok (.ishr, 1) := by decide +kernel
theorem dX2_holds_37 : decode cX2_holds 37 = .ok (.istore 6, 2) := by decide +kernel
theorem dX2_holds_39 : decode cX2_holds 39 = .ok (.aload_n 1, 1) := by decide +kernel
theorem dX2_holds_40 : decode cX2_holds 40 = .ok (.getfield 44, 3) := by decide +kernel
theorem dX2_holds_43 : decode cX2_holds 43 = .ok (.iload 5, 2) := by decide +kernel
theorem dX2_holds_45 : decode cX2_holds 45 = .ok (.iaload, 1) := by decide +kernel
theorem dX2_holds_46 : decode cX2_holds 46 = .ok (.sipush 4095, 3) := by decide +kernel
theorem dX2_holds_49 : decode cX2_holds 49 = .ok (.iand, 1) := by decide +kernel
theorem dX2_holds_50 : decode cX2_holds 50 = .ok (.istore 7, 2) := by decide +kernel
theorem dX2_holds_52 : decode cX2_holds 52 = .ok (.iload 6, 2) := by decide +kernel
theorem dX2_holds_54 : decode cX2_holds 54 = .ok (.ifCond .eq 9, 3) := by decide +kernel
theorem dX2_holds_57 : decode cX2_holds 57 = .ok (.iload 6, 2) := by decide +kernel
theorem dX2_holds_59 : decode cX2_holds 59 = .ok (.iconst 1, 1) := by decide +kernel
theorem dX2_holds_60 : decode cX2_holds 60 = .ok (.if_icmp .ne 45, 3) := by decide +kernel
theorem dX2_holds_63 : decode cX2_holds 63 = .ok (.iload_n 3, 1) := by decide +kernel
theorem dX2_holds_64 : decode cX2_holds 64 = .ok (.aload_n 0, 1) := by decide +kernel
theorem dX2_holds_65 : decode cX2_holds 65 = .ok (.getfield 15, 3) := by decide +kernel
theorem dX2_holds_68 : decode cX2_holds 68 = .ok (.arraylength, 1) := by decide +kernel
theorem dX2_holds_69 : decode cX2_holds 69 = .ok (.if_icmp .lt 5, 3) := by decide +kernel
theorem dX2_holds_72 : decode cX2_holds 72 = .ok (.iconst 0, 1) := by decide +kernel
theorem dX2_holds_73 : decode cX2_holds 73 = .ok (.ireturn, 1) := by decide +kernel
theorem dX2_holds_74 : decode cX2_holds 74 = .ok (.aload_n 0, 1) := by decide +kernel
theorem dX2_holds_75 : decode cX2_holds 75 = .ok (.getfield 15, 3) := by decide +kernel
theorem dX2_holds_78 : decode cX2_holds 78 = .ok (.iload_n 3, 1) := by decide +kernel
theorem dX2_holds_79 : decode cX2_holds 79 = .ok (.iload 6, 2) := by decide +kernel
theorem dX2_holds_81 : decode cX2_holds 81 = .ok (.ifCond .ne 9, 3) := by decide +kernel
theorem dX2_holds_84 : decode cX2_holds 84 = .ok (.iload 7, 2) := by decide +kernel
theorem dX2_holds_86 : decode cX2_holds 86 = .ok (.i2l, 1) := by decide +kernel
theorem dX2_holds_87 : decode cX2_holds 87 = .ok (.goto 11, 3) := by decide +kernel
theorem dX2_holds_90 : decode cX2_holds 90 = .ok (.aload_n 0, 1) := by decide +kernel
theorem dX2_holds_91 : decode cX2_holds 91 = .ok (.getfield 9, 3) := by decide +kernel
theorem dX2_holds_94 : decode cX2_holds 94 = .ok (.iload 7, 2) := by decide +kernel
theorem dX2_holds_96 : decode cX2_holds 96 = .ok (.iaload, 1) := by decide +kernel
theorem dX2_holds_97 : decode cX2_holds 97 = .ok (.i2l, 1) := by decide +kernel
theorem dX2_holds_98 : decode cX2_holds 98 = .ok (.lastore, 1) := by decide +kernel
theorem dX2_holds_99 : decode cX2_holds 99 = .ok (.iinc 3 1, 3) := by decide +kernel
theorem dX2_holds_102 : decode cX2_holds 102 = .ok (.goto 135, 3) := by decide +kernel
theorem dX2_holds_105 : decode cX2_holds 105 = .ok (.iload 6, 2) := by decide +kernel
theorem dX2_holds_107 : decode cX2_holds 107 = .ok (.bipush 8, 2) := by decide +kernel
theorem dX2_holds_109 : decode cX2_holds 109 = .ok (.if_icmp .gt 20, 3) := by decide +kernel
theorem dX2_holds_112 : decode cX2_holds 112 = .ok (.iinc 3 (-1), 3) := by decide +kernel
theorem dX2_holds_115 : decode cX2_holds 115 = .ok (.aload_n 0, 1) := by decide +kernel
theorem dX2_holds_116 : decode cX2_holds 116 = .ok (.iload 6, 2) := by decide +kernel
theorem dX2_holds_118 : decode cX2_holds 118 = .ok (.iload_n 3, 1) := by decide +kernel
theorem dX2_holds_119 : decode cX2_holds 119 = .ok (.iconst 1, 1) := by decide +kernel
theorem dX2_holds_120 : decode cX2_holds 120 = .ok (.isub, 1) := by decide +kernel
theorem dX2_holds_121 : decode cX2_holds 121 = .ok (.invokevirtual 47, 3) := by decide +kernel
theorem dX2_holds_124 : decode cX2_holds 124 = .ok (.ifCond .ne 113, 3) := by decide +kernel
theorem dX2_holds_127 : decode cX2_holds 127 = .ok (.iconst 0, 1) := by decide +kernel
theorem dX2_holds_128 : decode cX2_holds 128 = .ok (.ireturn, 1) := by decide +kernel
theorem dX2_holds_129 : decode cX2_holds 129 = .ok (.iload_n 3, 1) := by decide +kernel
theorem dX2_holds_130 : decode cX2_holds 130 = .ok (.iconst 1, 1) := by decide +kernel
theorem dX2_holds_131 : decode cX2_holds 131 = .ok (.if_icmp .ge 5, 3) := by decide +kernel
theorem dX2_holds_134 : decode cX2_holds 134 = .ok (.iconst 0, 1) := by decide +kernel
theorem dX2_holds_135 : decode cX2_holds 135 = .ok (.ireturn, 1) := by decide +kernel
theorem dX2_holds_136 : decode cX2_holds 136 = .ok (.iload 6, 2) := by decide +kernel
theorem dX2_holds_138 : decode cX2_holds 138 = .ok (.bipush 9, 2) := by decide +kernel
theorem dX2_holds_140 : decode cX2_holds 140 = .ok (.if_icmp .ne 24, 3) := by decide +kernel
theorem dX2_holds_143 : decode cX2_holds 143 = .ok (.aload_n 0, 1) := by decide +kernel
theorem dX2_holds_144 : decode cX2_holds 144 = .ok (.getfield 15, 3) := by decide +kernel
theorem dX2_holds_147 : decode cX2_holds 147 = .ok (.iload_n 3, 1) := by decide +kernel
theorem dX2_holds_148 : decode cX2_holds 148 = .ok (.iconst 1, 1) := by decide +kernel
theorem dX2_holds_149 : decode cX2_holds 149 = .ok (.isub, 1) := by decide +kernel
theorem dX2_holds_150 : decode cX2_holds 150 = .ok (.lconst 1, 1) := by decide +kernel
theorem dX2_holds_151 : decode cX2_holds 151 = .ok (.aload_n 0, 1) := by decide +kernel
theorem dX2_holds_152 : decode cX2_holds 152 = .ok (.getfield 15, 3) := by decide +kernel
theorem dX2_holds_155 : decode cX2_holds 155 = .ok (.iload_n 3, 1) := by decide +kernel
theorem dX2_holds_156 : decode cX2_holds 156 = .ok (.iconst 1, 1) := by decide +kernel
theorem dX2_holds_157 : decode cX2_holds 157 = .ok (.isub, 1) := by decide +kernel
theorem dX2_holds_158 : decode cX2_holds 158 = .ok (.laload, 1) := by decide +kernel
theorem dX2_holds_159 : decode cX2_holds 159 = .ok (.lsub, 1) := by decide +kernel
theorem dX2_holds_160 : decode cX2_holds 160 = .ok (.lastore, 1) := by decide +kernel
theorem dX2_holds_161 : decode cX2_holds 161 = .ok (.goto 76, 3) := by decide +kernel
theorem dX2_holds_164 : decode cX2_holds 164 = .ok (.iload 6, 2) := by decide +kernel
theorem dX2_holds_166 : decode cX2_holds 166 = .ok (.bipush 10, 2) := by decide +kernel
theorem dX2_holds_168 : decode cX2_holds 168 = .ok (.if_icmp .ne 19, 3) := by decide +kernel
theorem dX2_holds_171 : decode cX2_holds 171 = .ok (.iinc 3 (-1), 3) := by decide +kernel
theorem dX2_holds_174 : decode cX2_holds 174 = .ok (.aload_n 0, 1) := by decide +kernel
theorem dX2_holds_175 : decode cX2_holds 175 = .ok (.getfield 15, 3) := by decide +kernel
theorem dX2_holds_178 : decode cX2_holds 178 = .ok (.iload_n 3, 1) := by decide +kernel
theorem dX2_holds_179 : decode cX2_holds 179 = .ok (.laload, 1) := by decide +kernel
theorem dX2_holds_180 : decode cX2_holds 180 = .ok (.lconst 0, 1) := by decide +kernel
theorem dX2_holds_181 : decode cX2_holds 181 = .ok (.lcmp, 1) := by decide +kernel
theorem dX2_holds_182 : decode cX2_holds 182 = .ok (.ifCond .ne 55, 3) := by decide +kernel
theorem dX2_holds_185 : decode cX2_holds 185 = .ok (.iconst 0, 1) := by decide +kernel
theorem dX2_holds_186 : decode cX2_holds 186 = .ok (.ireturn, 1) := by decide +kernel
theorem dX2_holds_187 : decode cX2_holds 187 = .ok (.aload_n 0, 1) := by decide +kernel
theorem dX2_holds_188 : decode cX2_holds 188 = .ok (.getfield 15, 3) := by decide +kernel
theorem dX2_holds_191 : decode cX2_holds 191 = .ok (.iload_n 3, 1) := by decide +kernel
theorem dX2_holds_192 : decode cX2_holds 192 = .ok (.iconst 1, 1) := by decide +kernel
theorem dX2_holds_193 : decode cX2_holds 193 = .ok (.isub, 1) := by decide +kernel
theorem dX2_holds_194 : decode cX2_holds 194 = .ok (.laload, 1) := by decide +kernel
theorem dX2_holds_195 : decode cX2_holds 195 = .ok (.lconst 0, 1) := by decide +kernel
theorem dX2_holds_196 : decode cX2_holds 196 = .ok (.lcmp, 1) := by decide +kernel
theorem dX2_holds_197 : decode cX2_holds 197 = .ok (.ifCond .eq 7, 3) := by decide +kernel
theorem dX2_holds_200 : decode cX2_holds 200 = .ok (.iconst 1, 1) := by decide +kernel
theorem dX2_holds_201 : decode cX2_holds 201 = .ok (.goto 4, 3) := by decide +kernel
theorem dX2_holds_204 : decode cX2_holds 204 = .ok (.iconst 0, 1) := by decide +kernel
theorem dX2_holds_205 : decode cX2_holds 205 = .ok (.iload 6, 2) := by decide +kernel
theorem dX2_holds_207 : decode cX2_holds 207 = .ok (.bipush 11, 2) := by decide +kernel
theorem dX2_holds_209 : decode cX2_holds 209 = .ok (.if_icmp .ne 7, 3) := by decide +kernel
theorem dX2_holds_212 : decode cX2_holds 212 = .ok (.iconst 1, 1) := by decide +kernel
theorem dX2_holds_213 : decode cX2_holds 213 = .ok (.goto 4, 3) := by decide +kernel
theorem dX2_holds_216 : decode cX2_holds 216 = .ok (.iconst 0, 1) := by decide +kernel
theorem dX2_holds_217 : decode cX2_holds 217 = .ok (.if_icmp .ne 17, 3) := by decide +kernel
theorem dX2_holds_220 : decode cX2_holds 220 = .ok (.iload 5, 2) := by decide +kernel
theorem dX2_holds_222 : decode cX2_holds 222 = .ok (.iload 7, 2) := by decide +kernel
theorem dX2_holds_224 : decode cX2_holds 224 = .ok (.iconst 1, 1) := by decide +kernel
theorem dX2_holds_225 : decode cX2_holds 225 = .ok (.isub, 1) := by decide +kernel
theorem dX2_holds_226 : decode cX2_holds 226 = .ok (.invokestatic 51, 3) := by decide +kernel
theorem dX2_holds_229 : decode cX2_holds 229 = .ok (.istore 5, 2) := by decide +kernel
theorem dX2_holds_231 : decode cX2_holds 231 = .ok (.goto 6, 3) := by decide +kernel
theorem dX2_holds_234 : decode cX2_holds 234 = .ok (.iinc 3 (-1), 3) := by decide +kernel
theorem dX2_holds_237 : decode cX2_holds 237 = .ok (.iinc 5 1, 3) := by decide +kernel
theorem dX2_holds_240 : decode cX2_holds 240 = .ok (.goto (-220), 3) := by decide +kernel
theorem dX2_holds_243 : decode cX2_holds 243 = .ok (.iconst 1, 1) := by decide +kernel
theorem dX2_holds_244 : decode cX2_holds 244 = .ok (.ireturn, 1) := by decide +kernel
theorem inG_X3 : ∀ w ∈ wsX30, w ∈ tblG := tgs [786, 788, 790, 792] (by decide +kernel) (by decide +kernel)
theorem fl_X2_41 : Cond.fieldLink RX2 41 "LateGlass$Law" "starts" "[I" ∈ tblG := tg 783 (by decide +kernel) (by decide +kernel)
theorem fl_X2_44 : Cond.fieldLink RX2 44 "LateGlass$Law" "code" "[I" ∈ tblG := tg 785 (by decide +kernel) (by decide +kernel)
theorem ml_X2_51 : Cond.methodLink RX2 51 yJ9_max_7cf53 ∈ tblG := tg 852 (by decide +kernel) (by decide +kernel)
theorem st_J9_max_7cf53 : Cond.static yJ9_max_7cf53 ∈ tblG := tg 853 (by decide +kernel) (by decide +kernel)
theorem ini_J9 : Cond.initialized RJ9 ∈ tblG := tg 106 (by decide +kernel) (by decide +kernel)
theorem cd_J9_max_7cf53 : Cond.code yJ9_max_7cf53 cJ9_max_7cf53 2 (some .int) ∈ tblG := tg 854 (by decide +kernel) (by decide +kernel)
theorem gW_J9_max_7cf53 : GoodIn tblG (wsG yJ9_max_7cf53 cJ9_max_7cf53 2 (some .int)) := tgi cd_J9_max_7cf53
theorem gS_X2_51 : GoodIn tblG (va_wsS RX2 51 yJ9_max_7cf53 (wsG yJ9_max_7cf53 cJ9_max_7cf53 2 (some .int))) := tgS ml_X2_51 st_J9_max_7cf53 ini_J9 gW_J9_max_7cf53
theorem hs_J9_max_7cf53 : yJ9_max_7cf53.cls ≠ "java/lang/invoke/MethodHandle" ∧ yJ9_max_7cf53.cls ≠ "java/lang/invoke/VarHandle" ∧ (parseMethodDescriptor yJ9_max_7cf53.desc).map (fun d => d.parameters.length) = some 2 := by decide +kernel
theorem ml_X2_47 : Cond.methodLink RX2 47 yX2_combine ∈ tblG := tg 846 (by decide +kernel) (by decide +kernel)
theorem im_X2_combine : Cond.instanceMethod yX2_combine ∈ tblG := tg 848 (by decide +kernel) (by decide +kernel)
theorem se_X2_combine : Cond.selects RX2 yX2_combine yX2_combine ∈ tblG := tg 17 (by decide +kernel) (by decide +kernel)
theorem ini_X2 : Cond.initialized RX2 ∈ tblG := tg 92 (by decide +kernel) (by decide +kernel)
theorem cd_X2_combine : Cond.code yX2_combine cX2_combine 9 (some .boolean) ∈ tblG := tg 849 (by decide +kernel) (by decide +kernel)
theorem gW_X2_combine : GoodIn tblG (wsG yX2_combine cX2_combine 9 (some .boolean)) := tgi cd_X2_combine
theorem gV_X2_47 : GoodIn tblG (wsV RX2 47 RX2 yX2_combine (wsG yX2_combine cX2_combine 9 (some .boolean))) := tgV ml_X2_47 im_X2_combine se_X2_combine ini_X2 gW_X2_combine
theorem hv_X2_combine : yX2_combine.cls = RX2 ∧ yX2_combine.cls ≠ "java/lang/invoke/MethodHandle" ∧ yX2_combine.cls ≠ "java/lang/invoke/VarHandle" ∧ (parseMethodDescriptor yX2_combine.desc).map (fun d => d.parameters.length) = some 2 := by decide +kernel
theorem fl_X2_9 : Cond.fieldLink RX2 9 "LateGlass$Judge" "asked" "[I" ∈ tblG := tg 234 (by decide +kernel) (by decide +kernel)
