set_option maxHeartbeats 4000000 in
set_option maxRecDepth 100000 in
theorem x_isLook (l : Launch) (G : g5_G) (sz : Nat) (p_c : Int32) (p_w : Int32) (p_h : Int32) : Met l yX11_isLook (wsG yX11_isLook cX11_isLook 3 (some .boolean)) ({ frames := 1, cells := 0, slots := 0, locals := 20 }) (va_Pc [.int p_c, .int p_w, .int p_h] (g5_P G [] sz)) (va_Qi (fun (r : Int32) (u : va_W) => (((0 ≤ p_c.toInt ∧ p_c.toInt ≤ 63) ∧ (0 ≤ p_w.toInt ∧ p_w.toInt ≤ 3) ∧ (0 ≤ p_h.toInt ∧ p_h.toInt ≤ 23)) ∧ (r = 1) ∧ (u = [])) ∨ ((r = 0) ∧ (u = []))) (g5_B G (va_A [] sz)) (va_A [] sz)) 0 0 (va_A [] sz) := by
  refine Met.ofW (cc := cX11_isLook) (maxL := 3) (ret := (some .boolean)) (by decide) rfl ?_
  intro p e s m args below meth c s₁ B hml hv
  obtain ⟨rfl, hsz, hP, hK, hD0, hN, hT⟩ := hv
  have hx := B.exec
  have hb := B.bytes
  have hr := B.returns
  have hts : ∀ w ∈ tblG, w.before _ s = true := fun w h => atoms_spec (ws := (wsG yX11_isLook cX11_isLook 3 (some .boolean))) B.pre w (List.mem_cons_of_mem _ h)
  have hown : s.vm.findClass RX11 = some m.cls := findClass_of_methodNamed B.named
  have hlocks := B.notSynchronized
  subst hsz
  have hD := hD0.self (sz := s.heap.size)
  generalize hAe : va_A [] s.heap.size = A at hD hT ⊢
  have hA : ∀ q : Nat, s.heap.size ≤ q → A q := fun q h => by rw [← hAe]; exact Or.inr h
  have hS : va_S A s.heap s.heap [] := va_S.rf
  have hP : va_P G.1 vwCl [] s.heap := hP
  have hl := lv_entry ([.int p_c, .int p_w, .int p_h]) (n := 3) (Nat.le_of_ble_eq_true rfl)
  rw [lg_entry_eq]
  generalize (lg_sl ([.int p_c, .int p_w, .int p_h]) ++ List.replicate (3 - (lg_sl ([.int p_c, .int p_w, .int p_h])).length) Slot.unset).toArray = ls at hl ⊢
  have hl : lv_has ls 3 [(0, .int p_c), (1, .int p_w), (2, .int p_h)] := hl
  refine lv_iload_n hx hb dX11_isLook_0 rfl (lv_at hl 0 rfl) ?_
  have hPc := hP.sub (ws' := []) [] rfl
  have hDc := hD.sub (ws' := []) [] (by decide) rfl
  have hFc := va_free (wc := []) hD hS hA [] rfl
  refine va_calli (va_runS (As := [.int p_c]) (rest := []) ⟨hx, hb, hml, hown, hts⟩ (kX11_isCell l G s.heap.size p_c) (va_cwS 1 hts gS_X11_97 rfl rfl rfl hs_X11_isCell ⟨Nat.le_of_ble_eq_true rfl, Nat.le_of_ble_eq_true rfl⟩) (g5_preS hPc hK hDc hN hT hS hFc) rfl rfl hl.1 rfl (lv_room (Nat.le_of_ble_eq_true rfl)) dX11_isLook_1 ⟨Nat.le_of_ble_eq_true rfl, Nat.le_of_ble_eq_true rfl⟩) hS (fun q _ h => hFc q h) hFc (fun r u t H1 locs ht hvm hw hB hz1 hk1 hS => ?_)
  obtain ⟨hP1, hD1⟩ := hB
  rw [ht] at hP1
  rcases hw with ⟨i_1, rfl, rfl⟩ | ⟨i_2, i_3, rfl, rfl⟩ | ⟨i_4, i_5, rfl, rfl⟩
  ·
    have hP := g5_same hP hk1
    generalize H1 = H at hP hS ⊢
    refine lv_if_eq (tgt := 27) hx hb dX11_isLook_4 (by decide) (fun c_6 => ?_) (fun c_6 => ?_)
    ·
      refine lv_iconst (v := 0) hx hb dX11_isLook_27 (by decide) ?_
      exact W.zret (v := 0) hx hb hr rfl (fun t ht hW => ⟨⟨0, [], rfl, Or.inr (⟨rfl, rfl⟩), by rw [ht]; exact hP.sub [] rfl, hD.sub [] (by decide) rfl⟩, hS.F ht⟩) hS.2.2 dX11_isLook_28
    ·
      exact absurd c_6 (by decide)
  ·
    have hP := g5_same hP hk1
    generalize H1 = H at hP hS ⊢
    refine lv_if_eq (tgt := 27) hx hb dX11_isLook_4 (by decide) (fun c_7 => ?_) (fun c_7 => ?_)
    ·
      refine lv_iconst (v := 0) hx hb dX11_isLook_27 (by decide) ?_
      exact W.zret (v := 0) hx hb hr rfl (fun t ht hW => ⟨⟨0, [], rfl, Or.inr (⟨rfl, rfl⟩), by rw [ht]; exact hP.sub [] rfl, hD.sub [] (by decide) rfl⟩, hS.F ht⟩) hS.2.2 dX11_isLook_28
    ·
      exact absurd c_7 (by decide)
  ·
    have hP := g5_same hP hk1
    generalize H1 = H at hP hS ⊢
    refine lv_if_eq (tgt := 27) hx hb dX11_isLook_4 (by decide) (fun c_8 => ?_) (fun c_8 => ?_)
    ·
      exact absurd c_8 (by decide)
    ·
      refine lv_iload_n hx hb dX11_isLook_7 rfl (lv_at hl 1 rfl) ?_
      refine lv_if_lt (tgt := 27) hx hb dX11_isLook_8 (by decide) (fun c_9 => ?_) (fun c_9 => ?_)
      ·
        have i_9 : p_w.toInt < 0 := by have z := g5_lt (a := p_w.toInt) (b := 0) (by rfl) (by decide) c_9; omega
        refine lv_iconst (v := 0) hx hb dX11_isLook_27 (by decide) ?_
        exact W.zret (v := 0) hx hb hr rfl (fun t ht hW => ⟨⟨0, [], rfl, Or.inr (⟨rfl, rfl⟩), by rw [ht]; exact hP.sub [] rfl, hD.sub [] (by decide) rfl⟩, hS.F ht⟩) hS.2.2 dX11_isLook_28
      ·
        have i_9 : p_w.toInt ≥ 0 := by have z := g5_ltN (a := p_w.toInt) (b := 0) (by rfl) (by decide) c_9; omega
        refine lv_iload_n hx hb dX11_isLook_11 rfl (lv_at hl 1 rfl) ?_
        refine lv_iconst (v := 4) hx hb dX11_isLook_12 (by decide) ?_
        refine lv_icmp_ge (tgt := 27) hx hb dX11_isLook_13 (by decide) (fun c_10 => ?_) (fun c_10 => ?_)
        ·
          have i_10 : p_w.toInt ≥ 4 := by have z := g5_ge (a := p_w.toInt) (b := 4) (by rfl) (by decide) c_10; omega
          refine lv_iconst (v := 0) hx hb dX11_isLook_27 (by decide) ?_
          exact W.zret (v := 0) hx hb hr rfl (fun t ht hW => ⟨⟨0, [], rfl, Or.inr (⟨rfl, rfl⟩), by rw [ht]; exact hP.sub [] rfl, hD.sub [] (by decide) rfl⟩, hS.F ht⟩) hS.2.2 dX11_isLook_28
        ·
          have i_10 : p_w.toInt < 4 := by have z := g5_geN (a := p_w.toInt) (b := 4) (by rfl) (by decide) c_10; omega
          refine lv_iload_n hx hb dX11_isLook_16 rfl (lv_at hl 2 rfl) ?_
          have hPc := hP.sub (ws' := []) [] rfl
          have hDc := hD.sub (ws' := []) [] (by decide) rfl
          have hFc := va_free (wc := []) hD hS hA [] rfl
          refine va_calli (va_runS (As := [.int p_h]) (rest := []) ⟨hx, hb, hml, hown, hts⟩ (kX11_isHour l G H.size p_h) (va_cwS 1 hts gS_X11_127 rfl rfl rfl hs_X11_isHour ⟨Nat.le_of_ble_eq_true rfl, Nat.le_of_ble_eq_true rfl⟩) (g5_preS hPc hK hDc hN hT hS hFc) rfl rfl hl.1 rfl (lv_room (Nat.le_of_ble_eq_true rfl)) dX11_isLook_17 ⟨Nat.le_of_ble_eq_true rfl, Nat.le_of_ble_eq_true rfl⟩) hS (fun q _ h => hFc q h) hFc (fun r u t H1 locs ht hvm hw hB hz1 hk1 hS => ?_)
          obtain ⟨hP1, hD1⟩ := hB
          rw [ht] at hP1
          rcases hw with ⟨i_11, rfl, rfl⟩ | ⟨i_12, i_13, rfl, rfl⟩ | ⟨i_14, i_15, rfl, rfl⟩
          ·
            have hP := g5_same hP hk1
            generalize H1 = H at hP hS ⊢
            refine lv_if_eq (tgt := 27) hx hb dX11_isLook_20 (by decide) (fun c_16 => ?_) (fun c_16 => ?_)
            ·
              refine lv_iconst (v := 0) hx hb dX11_isLook_27 (by decide) ?_
              exact W.zret (v := 0) hx hb hr rfl (fun t ht hW => ⟨⟨0, [], rfl, Or.inr (⟨rfl, rfl⟩), by rw [ht]; exact hP.sub [] rfl, hD.sub [] (by decide) rfl⟩, hS.F ht⟩) hS.2.2 dX11_isLook_28
            ·
              exact absurd c_16 (by decide)
          ·
            have hP := g5_same hP hk1
            generalize H1 = H at hP hS ⊢
            refine lv_if_eq (tgt := 27) hx hb dX11_isLook_20 (by decide) (fun c_17 => ?_) (fun c_17 => ?_)
            ·
              refine lv_iconst (v := 0) hx hb dX11_isLook_27 (by decide) ?_
              exact W.zret (v := 0) hx hb hr rfl (fun t ht hW => ⟨⟨0, [], rfl, Or.inr (⟨rfl, rfl⟩), by rw [ht]; exact hP.sub [] rfl, hD.sub [] (by decide) rfl⟩, hS.F ht⟩) hS.2.2 dX11_isLook_28
            ·
              exact absurd c_17 (by decide)
          ·
            have hP := g5_same hP hk1
            generalize H1 = H at hP hS ⊢
            refine lv_if_eq (tgt := 27) hx hb dX11_isLook_20 (by decide) (fun c_18 => ?_) (fun c_18 => ?_)
            ·
              exact absurd c_18 (by decide)
            ·
              refine lv_iconst (v := 1) hx hb dX11_isLook_23 (by decide) ?_
              refine lv_goto (tgt := 28) hx hb dX11_isLook_24 (by decide) ?_
              exact W.zret (v := 1) hx hb hr rfl (fun t ht hW => ⟨⟨1, [], rfl, Or.inl (⟨by omega, rfl, rfl⟩), by rw [ht]; exact hP.sub [] rfl, hD.sub [] (by decide) rfl⟩, hS.F ht⟩) hS.2.2 dX11_isLook_28
theorem dX5_run_0 : decode cX5_run 0 = .ok (.aload_n 0, 1) := by decide +kernel
theorem dX5_run_1 : decode cX5_run 1 = .ok (.iload_n 1, 1) := by decide +kernel
theorem dX5_run_2 : decode cX5_run 2 = .ok (.putfield 26, 3) := by decide +kernel
theorem dX5_run_5 : decode cX5_run 5 = .ok (.aload_n 0, 1) := by decide +kernel
theorem dX5_run_6 : decode cX5_run 6 = .ok (.iload_n 2, 1) := by decide +kernel
theorem dX5_run_7 : decode cX5_run 7 = .ok (.putfield 30, 3) := by decide +kernel
theorem dX5_run_10 : decode cX5_run 10 = .ok (.aload_n 0, 1) := by decide +kernel
theorem dX5_run_11 : decode cX5_run 11 = .ok (.iload_n 3, 1) := by decide +kernel
theorem dX5_run_12 : decode cX5_run 12 = .ok (.putfield 33, 3) := by decide +kernel
theorem dX5_run_15 : decode cX5_run 15 = .ok (.aload_n 0, 1) := by decide +kernel
theorem dX5_run_16 : decode cX5_run 16 = .ok (.iconst 0, 1) := by decide +kernel
theorem dX5_run_17 : decode cX5_run 17 = .ok (.putfield 36, 3) := by decide +kernel
theorem dX5_run_20 : decode cX5_run 20 = .ok (.aload_n 0, 1) := by decide +kernel
theorem dX5_run_21 : decode cX5_run 21 = .ok (.iconst (-1), 1) := by decide +kernel
theorem dX5_run_22 : decode cX5_run 22 = .ok (.putfield 39, 3) := by decide +kernel
theorem dX5_run_25 : decode cX5_run 25 = .ok (.aload_n 0, 1) := by decide +kernel
theorem dX5_run_26 : decode cX5_run 26 = .ok (.iconst (-1), 1) := by decide +kernel
theorem dX5_run_27 : decode cX5_run 27 = .ok (.putfield 42, 3) := by decide +kernel
theorem dX5_run_30 : decode cX5_run 30 = .ok (.aload_n 0, 1) := by decide +kernel
theorem dX5_run_31 : decode cX5_run 31 = .ok (.ldc 45, 2) := by decide +kernel
theorem dX5_run_33 : decode cX5_run 33 = .ok (.putfield 46, 3) := by decide +kernel
theorem dX5_run_36 : decode cX5_run 36 = .ok (.aload_n 0, 1) := by decide +kernel
theorem dX5_run_37 : decode cX5_run 37 = .ok (.iconst 0, 1) := by decide +kernel
theorem dX5_run_38 : decode cX5_run 38 = .ok (.putfield 49, 3) := by decide +kernel
theorem dX5_run_41 : decode cX5_run 41 = .ok (.aload_n 0, 1) := by decide +kernel
theorem dX5_run_42 : decode cX5_run 42 = .ok (.iload_n 1, 1) := by decide +kernel
theorem dX5_run_43 : decode cX5_run 43 = .ok (.iload_n 2, 1) := by decide +kernel
theorem dX5_run_44 : decode cX5_run 44 = .ok (.iload_n 3, 1) := by decide +kernel
theorem dX5_run_45 : decode cX5_run 45 = .ok (.invokestatic 52, 3) := by decide +kernel
theorem dX5_run_48 : decode cX5_run 48 = .ok (.ifCond .ne 7, 3) := by decide +kernel
theorem dX5_run_51 : decode cX5_run 51 = .ok (.iconst 1, 1) := by decide +kernel
theorem dX5_run_52 : decode cX5_run 52 = .ok (.goto 4, 3) := by decide +kernel
theorem dX5_run_55 : decode cX5_run 55 = .ok (.iconst 0, 1) := by decide +kernel
theorem dX5_run_56 : decode cX5_run 56 = .ok (.putfield 56, 3) := by decide +kernel
theorem dX5_run_59 : decode cX5_run 59 = .ok (.aload_n 0, 1) := by decide +kernel
theorem dX5_run_60 : decode cX5_run 60 = .ok (.getfield 22, 3) := by decide +kernel
theorem dX5_run_63 : decode cX5_run 63 = .ok (.getfield 60, 3) := by decide +kernel
theorem dX5_run_66 : decode cX5_run 66 = .ok (.aload_n 0, 1) := by decide +kernel
theorem dX5_run_67 : decode cX5_run 67 = .ok (.iload 4, 2) := by decide +kernel
theorem dX5_run_69 : decode cX5_run 69 = .ok (.invokevirtual 66, 3) := by decide +kernel
theorem dX5_run_72 : decode cX5_run 72 = .ok (.lor, 1) := by decide +kernel
theorem dX5_run_73 : decode cX5_run 73 = .ok (.lstore 5, 2) := by decide +kernel
theorem dX5_run_75 : decode cX5_run 75 = .ok (.iconst 0, 1) := by decide +kernel
theorem dX5_run_76 : decode cX5_run 76 = .ok (.istore 7, 2) := by decide +kernel
theorem dX5_run_78 : decode cX5_run 78 = .ok (.iload 7, 2) := by decide +kernel
theorem dX5_run_80 : decode cX5_run 80 = .ok (.sipush 200, 3) := by decide +kernel
theorem dX5_run_83 : decode cX5_run 83 = .ok (.if_icmp .ge 144, 3) := by decide +kernel
theorem dX5_run_86 : decode cX5_run 86 = .ok (.aload_n 0, 1) := by decide +kernel
theorem dX5_run_87 : decode cX5_run 87 = .ok (.getfield 56, 3) := by decide +kernel
theorem dX5_run_90 : decode cX5_run 90 = .ok (.ifCond .ne 137, 3) := by decide +kernel
theorem dX5_run_93 : decode cX5_run 93 = .ok (.aload_n 0, 1) := by decide +kernel
theorem dX5_run_94 : decode cX5_run 94 = .ok (.getfield 26, 3) := by decide +kernel
theorem dX5_run_97 : decode cX5_run 97 = .ok (.aload_n 0, 1) := by decide +kernel
theorem dX5_run_98 : decode cX5_run 98 = .ok (.getfield 30, 3) := by decide +kernel
theorem dX5_run_101 : decode cX5_run 101 = .ok (.invokestatic 70, 3) := by decide +kernel
theorem dX5_run_104 : decode cX5_run 104 = .ok (.istore 8, 2) := by decide +kernel
theorem dX5_run_106 : decode cX5_run 106 = .ok (.iload 8, 2) := by decide +kernel
theorem dX5_run_108 : decode cX5_run 108 = .ok (.iconst (-1), 1) := by decide +kernel
theorem dX5_run_109 : decode cX5_run 109 = .ok (.if_icmp .eq 18, 3) := by decide +kernel
theorem dX5_run_112 : decode cX5_run 112 = .ok (.aload_n 0, 1) := by decide +kernel
theorem dX5_run_113 : decode cX5_run 113 = .ok (.getfield 22, 3) := by decide +kernel
theorem dX5_run_116 : decode cX5_run 116 = .ok (.getfield 74, 3) := by decide +kernel
theorem dX5_run_119 : decode cX5_run 119 = .ok (.iload 8, 2) := by decide +kernel
theorem dX5_run_121 : decode cX5_run 121 = .ok (.invokestatic 77, 3) := by decide +kernel
theorem dX5_run_124 : decode cX5_run 124 = .ok (.ifCond .eq 4, 3) := by decide +kernel
theorem dX5_run_127 : decode cX5_run 127 = .ok (.return_, 1) := by decide +kernel
theorem dX5_run_128 : decode cX5_run 128 = .ok (.aload_n 0, 1) := by decide +kernel
theorem dX5_run_129 : decode cX5_run 129 = .ok (.iload 8, 2) := by decide +kernel
theorem dX5_run_131 : decode cX5_run 131 = .ok (.putfield 26, 3) := by decide +kernel
theorem dX5_run_134 : decode cX5_run 134 = .ok (.aload_n 0, 1) := by decide +kernel
theorem dX5_run_135 : decode cX5_run 135 = .ok (.aload_n 0, 1) := by decide +kernel
theorem dX5_run_136 : decode cX5_run 136 = .ok (.getfield 33, 3) := by decide +kernel
theorem dX5_run_139 : decode cX5_run 139 = .ok (.putfield 42, 3) := by decide +kernel
theorem dX5_run_142 : decode cX5_run 142 = .ok (.aload_n 0, 1) := by decide +kernel
theorem dX5_run_143 : decode cX5_run 143 = .ok (.getfield 18, 3) := by decide +kernel
theorem dX5_run_146 : decode cX5_run 146 = .ok (.iload 7, 2) := by decide +kernel
theorem dX5_run_148 : decode cX5_run 148 = .ok (.aload_n 0, 1) := by decide +kernel
theorem dX5_run_149 : decode cX5_run 149 = .ok (.getfield 33, 3) := by decide +kernel
theorem dX5_run_152 : decode cX5_run 152 = .ok (.bipush 64, 2) := by decide +kernel
theorem dX5_run_154 : decode cX5_run 154 = .ok (.imul, 1) := by decide +kernel
theorem dX5_run_155 : decode cX5_run 155 = .ok (.aload_n 0, 1) := by decide +kernel
theorem dX5_run_156 : decode cX5_run 156 = .ok (.getfield 26, 3) := by decide +kernel
theorem dX5_run_159 : decode cX5_run 159 = .ok (.iadd, 1) := by decide +kernel
theorem dX5_run_160 : decode cX5_run 160 = .ok (.iastore, 1) := by decide +kernel
theorem dX5_run_161 : decode cX5_run 161 = .ok (.aload_n 0, 1) := by decide +kernel
theorem dX5_run_162 : decode cX5_run 162 = .ok (.iload 7, 2) := by decide +kernel
theorem dX5_run_164 : decode cX5_run 164 = .ok (.iconst 1, 1) := by decide +kernel
theorem dX5_run_165 : decode cX5_run 165 = .ok (.iadd, 1) := by decide +kernel
theorem dX5_run_166 : decode cX5_run 166 = .ok (.putfield 36, 3) := by decide +kernel
theorem dX5_run_169 : decode cX5_run 169 = .ok (.aload_n 0, 1) := by decide +kernel
theorem dX5_run_170 : decode cX5_run 170 = .ok (.getfield 22, 3) := by decide +kernel
theorem dX5_run_173 : decode cX5_run 173 = .ok (.getfield 81, 3) := by decide +kernel
theorem dX5_run_176 : decode cX5_run 176 = .ok (.aload_n 0, 1) := by decide +kernel
theorem dX5_run_177 : decode cX5_run 177 = .ok (.getfield 33, 3) := by decide +kernel
theorem dX5_run_180 : decode cX5_run 180 = .ok (.laload, 1) := by decide +kernel
theorem dX5_run_181 : decode cX5_run 181 = .ok (.lload 5, 2) := by decide +kernel
theorem dX5_run_183 : decode cX5_run 183 = .ok (.lor, 1) := by decide +kernel
theorem dX5_run_184 : decode cX5_run 184 = .ok (.aload_n 0, 1) := by decide +kernel
theorem dX5_run_185 : decode cX5_run 185 = .ok (.getfield 26, 3) := by decide +kernel
theorem dX5_run_188 : decode cX5_run 188 = .ok (.invokestatic 77, 3) := by decide +kernel
theorem dX5_run_191 : decode cX5_run 191 = .ok (.ifCond .eq 30, 3) := by decide +kernel
theorem dX5_run_194 : decode cX5_run 194 = .ok (.aload_n 0, 1) := by decide +kernel
theorem dX5_run_195 : decode cX5_run 195 = .ok (.invokevirtual 85, 3) := by decide +kernel
theorem dX5_run_198 : decode cX5_run 198 = .ok (.aload_n 0, 1) := by decide +kernel
theorem dX5_run_199 : decode cX5_run 199 = .ok (.getfield 56, 3) := by decide +kernel
theorem dX5_run_202 : decode cX5_run 202 = .ok (.ifCond .ne 19, 3) := by decide +kernel
theorem dX5_run_205 : decode cX5_run 205 = .ok (.lload 5, 2) := by decide +kernel
theorem dX5_run_207 : decode cX5_run 207 = .ok (.aload_n 0, 1) := by decide +kernel
theorem dX5_run_208 : decode cX5_run 208 = .ok (.getfield 26, 3) := by decide +kernel
theorem dX5_run_211 : decode cX5_run 211 = .ok (.invokestatic 77, 3) := by decide +kernel
theorem dX5_run_214 : decode cX5_run 214 = .ok (.ifCond .eq 7, 3) := by decide +kernel
theorem dX5_run_217 : decode cX5_run 217 = .ok (.aload_n 0, 1) := by decide +kernel
theorem dX5_run_218 : decode cX5_run 218 = .ok (.invokevirtual 88, 3) := by decide +kernel
theorem dX5_run_221 : decode cX5_run 221 = .ok (.iinc 7 1, 3) := by decide +kernel
theorem dX5_run_224 : decode cX5_run 224 = .ok (.goto (-146), 3) := by decide +kernel
theorem dX5_run_227 : decode cX5_run 227 = .ok (.return_, 1) := by decide +kernel
theorem fl_X5_42 : Cond.fieldLink RX5 42 "LateGlass$Look" "lastHour" "I" ∈ tblG := tg 255 (by decide +kernel) (by decide +kernel)
theorem ki_X5_45 : Cond.constant RX5 45 1000000 ∈ tblG := tg 815 (by decide +kernel) (by decide +kernel)
theorem cd_X11_isLook : Cond.code yX11_isLook cX11_isLook 3 (some .boolean) ∈ tblG := tg 810 (by decide +kernel) (by decide +kernel)
theorem gW_X11_isLook : GoodIn tblG (wsG yX11_isLook cX11_isLook 3 (some .boolean)) := tgi cd_X11_isLook
theorem hs_X11_isLook : yX11_isLook.cls ≠ "java/lang/invoke/MethodHandle" ∧ yX11_isLook.cls ≠ "java/lang/invoke/VarHandle" ∧ (parseMethodDescriptor yX11_isLook.desc).map (fun d => d.parameters.length) = some 3 := by decide +kernel
theorem st_X11_isLook : Cond.static yX11_isLook ∈ tblG := tg 809 (by decide +kernel) (by decide +kernel)
theorem fl_X5_60 : Cond.fieldLink RX5 60 "LateGlass$House" "glassBoard" "J" ∈ tblG := tg 189 (by decide +kernel) (by decide +kernel)
theorem ml_X5_66 : Cond.methodLink RX5 66 yX5_hungBoard ∈ tblG := tg 817 (by decide +kernel) (by decide +kernel)
theorem im_X5_hungBoard : Cond.instanceMethod yX5_hungBoard ∈ tblG := tg 819 (by decide +kernel) (by decide +kernel)
theorem se_X5_hungBoard : Cond.selects RX5 yX5_hungBoard yX5_hungBoard ∈ tblG := tg 13 (by decide +kernel) (by decide +kernel)
theorem cd_X5_hungBoard : Cond.code yX5_hungBoard cX5_hungBoard 5 (some .long) ∈ tblG := tg 820 (by decide +kernel) (by decide +kernel)
theorem gW_X5_hungBoard : GoodIn tblG (wsG yX5_hungBoard cX5_hungBoard 5 (some .long)) := tgi cd_X5_hungBoard
theorem gV_X5_66 : GoodIn tblG (wsV RX5 66 RX5 yX5_hungBoard (wsG yX5_hungBoard cX5_hungBoard 5 (some .long))) := tgV ml_X5_66 im_X5_hungBoard se_X5_hungBoard ini_X5 gW_X5_hungBoard
theorem hv_X5_hungBoard : yX5_hungBoard.cls = RX5 ∧ yX5_hungBoard.cls ≠ "java/lang/invoke/MethodHandle" ∧ yX5_hungBoard.cls ≠ "java/lang/invoke/VarHandle" ∧ (parseMethodDescriptor yX5_hungBoard.desc).map (fun d => d.parameters.length) = some 1 := by decide +kernel
theorem cd_X11_beside : Cond.code yX11_beside cX11_beside 2 (some .int) ∈ tblG := tg 824 (by decide +kernel) (by decide +kernel)
theorem gW_X11_beside : GoodIn tblG (wsG yX11_beside cX11_beside 2 (some .int)) := tgi cd_X11_beside
theorem hs_X11_beside : yX11_beside.cls ≠ "java/lang/invoke/MethodHandle" ∧ yX11_beside.cls ≠ "java/lang/invoke/VarHandle" ∧ (parseMethodDescriptor yX11_beside.desc).map (fun d => d.parameters.length) = some 2 := by decide +kernel
theorem st_X11_beside : Cond.static yX11_beside ∈ tblG := tg 823 (by decide +kernel) (by decide +kernel)
theorem fl_X5_74 : Cond.fieldLink RX5 74 "LateGlass$House" "walls" "J" ∈ tblG := tg 155 (by decide +kernel) (by decide +kernel)
theorem fl_X5_18 : Cond.fieldLink RX5 18 "LateGlass$Look" "points" "[I" ∈ tblG := tg 245 (by decide +kernel) (by decide +kernel)
theorem fl_X5_81 : Cond.fieldLink RX5 81 "LateGlass$House" "bodyBoards" "[J" ∈ tblG := tg 192 (by decide +kernel) (by decide +kernel)
theorem ml_X5_85 : Cond.methodLink RX5 85 yX5_meetBodies ∈ tblG := tg 826 (by decide +kernel) (by decide +kernel)
theorem im_X5_meetBodies : Cond.instanceMethod yX5_meetBodies ∈ tblG := tg 828 (by decide +kernel) (by decide +kernel)
theorem se_X5_meetBodies : Cond.selects RX5 yX5_meetBodies yX5_meetBodies ∈ tblG := tg 14 (by decide +kernel) (by decide +kernel)
theorem cd_X5_meetBodies : Cond.code yX5_meetBodies cX5_meetBodies 3 none ∈ tblG := tg 829 (by decide +kernel) (by decide +kernel)
theorem gW_X5_meetBodies : GoodIn tblG (wsG yX5_meetBodies cX5_meetBodies 3 none) := tgi cd_X5_meetBodies
theorem gV_X5_85 : GoodIn tblG (wsV RX5 85 RX5 yX5_meetBodies (wsG yX5_meetBodies cX5_meetBodies 3 none)) := tgV ml_X5_85 im_X5_meetBodies se_X5_meetBodies ini_X5 gW_X5_meetBodies
theorem hv_X5_meetBodies : yX5_meetBodies.cls = RX5 ∧ yX5_meetBodies.cls ≠ "java/lang/invoke/MethodHandle" ∧ yX5_meetBodies.cls ≠ "java/lang/invoke/VarHandle" ∧ (parseMethodDescriptor yX5_meetBodies.desc).map (fun d => d.parameters.length) = some 0 := by decide +kernel
theorem ml_X5_88 : Cond.methodLink RX5 88 yX5_meetGlass ∈ tblG := tg 855 (by decide +kernel) (by decide +kernel)
theorem im_X5_meetGlass : Cond.instanceMethod yX5_meetGlass ∈ tblG := tg 857 (by decide +kernel) (by decide +kernel)
theorem se_X5_meetGlass : Cond.selects RX5 yX5_meetGlass yX5_meetGlass ∈ tblG := tg 18 (by decide +kernel) (by decide +kernel)
theorem cd_X5_meetGlass : Cond.code yX5_meetGlass cX5_meetGlass 9 none ∈ tblG := tg 858 (by decide +kernel) (by decide +kernel)
theorem gW_X5_meetGlass : GoodIn tblG (wsG yX5_meetGlass cX5_meetGlass 9 none) := tgi cd_X5_meetGlass
theorem gV_X5_88 : GoodIn tblG (wsV RX5 88 RX5 yX5_meetGlass (wsG yX5_meetGlass cX5_meetGlass 9 none)) := tgV ml_X5_88 im_X5_meetGlass se_X5_meetGlass ini_X5 gW_X5_meetGlass
theorem hv_X5_meetGlass : yX5_meetGlass.cls = RX5 ∧ yX5_meetGlass.cls ≠ "java/lang/invoke/MethodHandle" ∧ yX5_meetGlass.cls ≠ "java/lang/invoke/VarHandle" ∧ (parseMethodDescriptor yX5_meetGlass.desc).map (fun d => d.parameters.length) = some 0 := by decide +kernel
