theorem dX11_beside_0 : decode cX11_beside 0 = .ok (.iload_n 1, 1) := by decide +kernel
theorem dX11_beside_1 : decode cX11_beside 1 = .ok (.tableswitch 93 0 3 #[31, 46, 63, 78], 31) := by decide +kernel
theorem dX11_beside_32 : decode cX11_beside 32 = .ok (.iload_n 0, 1) := by decide +kernel
theorem dX11_beside_33 : decode cX11_beside 33 = .ok (.bipush 8, 2) := by decide +kernel
theorem dX11_beside_35 : decode cX11_beside 35 = .ok (.if_icmp .lt 10, 3) := by decide +kernel
theorem dX11_beside_38 : decode cX11_beside 38 = .ok (.iload_n 0, 1) := by decide +kernel
theorem dX11_beside_39 : decode cX11_beside 39 = .ok (.bipush 8, 2) := by decide +kernel
theorem dX11_beside_41 : decode cX11_beside 41 = .ok (.isub, 1) := by decide +kernel
theorem dX11_beside_42 : decode cX11_beside 42 = .ok (.goto 4, 3) := by decide +kernel
theorem dX11_beside_45 : decode cX11_beside 45 = .ok (.iconst (-1), 1) := by decide +kernel
theorem dX11_beside_46 : decode cX11_beside 46 = .ok (.ireturn, 1) := by decide +kernel
theorem dX11_beside_47 : decode cX11_beside 47 = .ok (.iload_n 0, 1) := by decide +kernel
theorem dX11_beside_48 : decode cX11_beside 48 = .ok (.bipush 7, 2) := by decide +kernel
theorem dX11_beside_50 : decode cX11_beside 50 = .ok (.iand, 1) := by decide +kernel
theorem dX11_beside_51 : decode cX11_beside 51 = .ok (.bipush 7, 2) := by decide +kernel
theorem dX11_beside_53 : decode cX11_beside 53 = .ok (.if_icmp .ge 9, 3) := by decide +kernel
theorem dX11_beside_56 : decode cX11_beside 56 = .ok (.iload_n 0, 1) := by decide +kernel
theorem dX11_beside_57 : decode cX11_beside 57 = .ok (.iconst 1, 1) := by decide +kernel
theorem dX11_beside_58 : decode cX11_beside 58 = .ok (.iadd, 1) := by decide +kernel
theorem dX11_beside_59 : decode cX11_beside 59 = .ok (.goto 4, 3) := by decide +kernel
theorem dX11_beside_62 : decode cX11_beside 62 = .ok (.iconst (-1), 1) := by decide +kernel
theorem dX11_beside_63 : decode cX11_beside 63 = .ok (.ireturn, 1) := by decide +kernel
theorem dX11_beside_64 : decode cX11_beside 64 = .ok (.iload_n 0, 1) := by decide +kernel
theorem dX11_beside_65 : decode cX11_beside 65 = .ok (.bipush 56, 2) := by decide +kernel
theorem dX11_beside_67 : decode cX11_beside 67 = .ok (.if_icmp .ge 10, 3) := by decide +kernel
theorem dX11_beside_70 : decode cX11_beside 70 = .ok (.iload_n 0, 1) := by decide +kernel
theorem dX11_beside_71 : decode cX11_beside 71 = .ok (.bipush 8, 2) := by decide +kernel
theorem dX11_beside_73 : decode cX11_beside 73 = .ok (.iadd, 1) := by decide +kernel
theorem dX11_beside_74 : decode cX11_beside 74 = .ok (.goto 4, 3) := by decide +kernel
theorem dX11_beside_77 : decode cX11_beside 77 = .ok (.iconst (-1), 1) := by decide +kernel
theorem dX11_beside_78 : decode cX11_beside 78 = .ok (.ireturn, 1) := by decide +kernel
theorem dX11_beside_79 : decode cX11_beside 79 = .ok (.iload_n 0, 1) := by decide +kernel
theorem dX11_beside_80 : decode cX11_beside 80 = .ok (.bipush 7, 2) := by decide +kernel
theorem dX11_beside_82 : decode cX11_beside 82 = .ok (.iand, 1) := by decide +kernel
theorem dX11_beside_83 : decode cX11_beside 83 = .ok (.ifCond .le 9, 3) := by decide +kernel
theorem dX11_beside_86 : decode cX11_beside 86 = .ok (.iload_n 0, 1) := by decide +kernel
theorem dX11_beside_87 : decode cX11_beside 87 = .ok (.iconst 1, 1) := by decide +kernel
theorem dX11_beside_88 : decode cX11_beside 88 = .ok (.isub, 1) := by decide +kernel
theorem dX11_beside_89 : decode cX11_beside 89 = .ok (.goto 4, 3) := by decide +kernel
theorem dX11_beside_92 : decode cX11_beside 92 = .ok (.iconst (-1), 1) := by decide +kernel
theorem dX11_beside_93 : decode cX11_beside 93 = .ok (.ireturn, 1) := by decide +kernel
theorem dX11_beside_94 : decode cX11_beside 94 = .ok (.iload_n 0, 1) := by decide +kernel
theorem dX11_beside_95 : decode cX11_beside 95 = .ok (.ireturn, 1) := by decide +kernel
set_option maxHeartbeats 4000000 in
set_option maxRecDepth 100000 in
theorem k_beside (l : Launch) (G : g5_G) (sz : Nat) (p_c : Int32) (p_w : Int32) (h_p_c : 0 ≤ p_c.toInt ∧ p_c.toInt ≤ 63) : Met l yX11_beside (wsG yX11_beside cX11_beside 2 (some .int)) ({ frames := 0, cells := 0, slots := 0, locals := 0 }) (va_Pc [.int p_c, .int p_w] (g5_P G [] sz)) (va_Qi (fun (r : Int32) (u : va_W) => (∃ (o_r : Int32), (o_r.toInt = bs p_c.toInt p_w.toInt) ∧ (-1 ≤ o_r.toInt ∧ o_r.toInt ≤ 63) ∧ (r = o_r) ∧ (u = []))) (g5_B G (va_A [] sz)) (va_A [] sz)) 0 0 (va_A [] sz) := by
  refine Met.ofW (cc := cX11_beside) (maxL := 2) (ret := (some .int)) (by decide) rfl ?_
  intro p e s m args below meth c s₁ B hml hv
  obtain ⟨rfl, hsz, hP, hK, hD0, hN, hT⟩ := hv
  have hx := B.exec
  have hb := B.bytes
  have hr := B.returns
  have hts : ∀ w ∈ tblG, w.before _ s = true := fun w h => atoms_spec (ws := (wsG yX11_beside cX11_beside 2 (some .int))) B.pre w (List.mem_cons_of_mem _ h)
  have hown : s.vm.findClass RX11 = some m.cls := findClass_of_methodNamed B.named
  have hlocks := B.notSynchronized
  subst hsz
  have hD := hD0.self (sz := s.heap.size)
  generalize hAe : va_A [] s.heap.size = A at hD hT ⊢
  have hA : ∀ q : Nat, s.heap.size ≤ q → A q := fun q h => by rw [← hAe]; exact Or.inr h
  have hS : va_S A s.heap s.heap [] := va_S.rf
  have hP : va_P G.1 vwCl [] s.heap := hP
  have hl := lv_entry ([.int p_c, .int p_w]) (n := 2) (Nat.le_of_ble_eq_true rfl)
  rw [lg_entry_eq]
  generalize (lg_sl ([.int p_c, .int p_w]) ++ List.replicate (2 - (lg_sl ([.int p_c, .int p_w])).length) Slot.unset).toArray = ls at hl ⊢
  have hl : lv_has ls 2 [(0, .int p_c), (1, .int p_w)] := hl
  refine lv_iload_n hx hb dX11_beside_0 rfl (lv_at hl 1 rfl) ?_
  rcases (show p_w.toInt = 0 ∨ p_w.toInt = 1 ∨ p_w.toInt = 2 ∨ p_w.toInt = 3 ∨ p_w.toInt < 0 ∨ p_w.toInt > 3 by omega) with s_1 | s_1 | s_1 | s_1 | s_1 | s_1
  ·
    have i_1 : p_w.toInt = 0 := by omega
    refine lv_tableIn (tgt := 32) hx hb dX11_beside_1 (by omega) (by omega) (by rw [s_1]; rfl) (by decide) ?_
    refine lv_iload_n hx hb dX11_beside_32 rfl (lv_at hl 0 rfl) ?_
    refine lv_bipush (v := 8) hx hb dX11_beside_33 (by decide) ?_
    refine lv_icmp_lt (tgt := 45) hx hb dX11_beside_35 (by decide) (fun c_2 => ?_) (fun c_2 => ?_)
    ·
      have i_2 : p_c.toInt < 8 := by have z := g5_lt (a := p_c.toInt) (b := 8) (by rfl) (by decide) c_2; omega
      refine lv_iconst (v := (-1)) hx hb dX11_beside_45 (by decide) ?_
      exact W.iret (v := (-1)) hx hb hr (fun t ht hW => ⟨⟨(-1), [], rfl, ⟨(-1), by have zc_o_r : ((-1) : Int32).toInt = (-1) := (by decide); unfold bs; omega, ⟨by have zc_o_r : ((-1) : Int32).toInt = (-1) := (by decide); omega, by have zc_o_r : ((-1) : Int32).toInt = (-1) := (by decide); omega⟩, rfl, rfl⟩, by rw [ht]; exact hP.sub [] rfl, hD.sub [] (by decide) rfl⟩, hS.F ht⟩) hS.2.2 dX11_beside_46
    ·
      have i_2 : p_c.toInt ≥ 8 := by have z := g5_ltN (a := p_c.toInt) (b := 8) (by rfl) (by decide) c_2; omega
      refine lv_iload_n hx hb dX11_beside_38 rfl (lv_at hl 0 rfl) ?_
      refine lv_bipush (v := 8) hx hb dX11_beside_39 (by decide) ?_
      refine lv_isub hx hb dX11_beside_41 ?_
      have t_3 : (p_c - 8).toInt = p_c.toInt - 8 := g5_isub (a := p_c.toInt) (b := 8) (by rfl) (by decide) (by omega) (by omega)
      refine lv_goto (tgt := 46) hx hb dX11_beside_42 (by decide) ?_
      exact W.iret (v := (p_c - 8)) hx hb hr (fun t ht hW => ⟨⟨(p_c - 8), [], rfl, ⟨(p_c - 8), by unfold bs; omega, ⟨by omega, by omega⟩, rfl, rfl⟩, by rw [ht]; exact hP.sub [] rfl, hD.sub [] (by decide) rfl⟩, hS.F ht⟩) hS.2.2 dX11_beside_46
  ·
    have i_1 : p_w.toInt = 1 := by omega
    refine lv_tableIn (tgt := 47) hx hb dX11_beside_1 (by omega) (by omega) (by rw [s_1]; rfl) (by decide) ?_
    refine lv_iload_n hx hb dX11_beside_47 rfl (lv_at hl 0 rfl) ?_
    refine lv_bipush (v := 7) hx hb dX11_beside_48 (by decide) ?_
    refine lv_iand hx hb dX11_beside_50 ?_
    have t_4 : (p_c &&& 7).toInt = p_c.toInt % 8 := g5_and7 (a := p_c.toInt) rfl (by omega)
    refine lv_bipush (v := 7) hx hb dX11_beside_51 (by decide) ?_
    refine lv_icmp_ge (tgt := 62) hx hb dX11_beside_53 (by decide) (fun c_5 => ?_) (fun c_5 => ?_)
    ·
      have i_5 : (p_c.toInt % 8) ≥ 7 := by have z := g5_ge (a := (p_c &&& 7).toInt) (b := 7) (by rfl) (by decide) c_5; omega
      refine lv_iconst (v := (-1)) hx hb dX11_beside_62 (by decide) ?_
      exact W.iret (v := (-1)) hx hb hr (fun t ht hW => ⟨⟨(-1), [], rfl, ⟨(-1), by have zc_o_r : ((-1) : Int32).toInt = (-1) := (by decide); unfold bs; omega, ⟨by have zc_o_r : ((-1) : Int32).toInt = (-1) := (by decide); omega, by have zc_o_r : ((-1) : Int32).toInt = (-1) := (by decide); omega⟩, rfl, rfl⟩, by rw [ht]; exact hP.sub [] rfl, hD.sub [] (by decide) rfl⟩, hS.F ht⟩) hS.2.2 dX11_beside_63
    ·
      have i_5 : (p_c.toInt % 8) < 7 := by have z := g5_geN (a := (p_c &&& 7).toInt) (b := 7) (by rfl) (by decide) c_5; omega
      refine lv_iload_n hx hb dX11_beside_56 rfl (lv_at hl 0 rfl) ?_
      refine lv_iconst (v := 1) hx hb dX11_beside_57 (by decide) ?_
      refine lv_iadd hx hb dX11_beside_58 ?_
      have t_6 : (p_c + 1).toInt = p_c.toInt + 1 := g5_iadd (a := p_c.toInt) (b := 1) (by rfl) (by decide) (by omega) (by omega)
      refine lv_goto (tgt := 63) hx hb dX11_beside_59 (by decide) ?_
      exact W.iret (v := (p_c + 1)) hx hb hr (fun t ht hW => ⟨⟨(p_c + 1), [], rfl, ⟨(p_c + 1), by unfold bs; omega, ⟨by omega, by omega⟩, rfl, rfl⟩, by rw [ht]; exact hP.sub [] rfl, hD.sub [] (by decide) rfl⟩, hS.F ht⟩) hS.2.2 dX11_beside_63
  ·
    have i_1 : p_w.toInt = 2 := by omega
    refine lv_tableIn (tgt := 64) hx hb dX11_beside_1 (by omega) (by omega) (by rw [s_1]; rfl) (by decide) ?_
    refine lv_iload_n hx hb dX11_beside_64 rfl (lv_at hl 0 rfl) ?_
    refine lv_bipush (v := 56) hx hb dX11_beside_65 (by decide) ?_
    refine lv_icmp_ge (tgt := 77) hx hb dX11_beside_67 (by decide) (fun c_7 => ?_) (fun c_7 => ?_)
    ·
      have i_7 : p_c.toInt ≥ 56 := by have z := g5_ge (a := p_c.toInt) (b := 56) (by rfl) (by decide) c_7; omega
      refine lv_iconst (v := (-1)) hx hb dX11_beside_77 (by decide) ?_
      exact W.iret (v := (-1)) hx hb hr (fun t ht hW => ⟨⟨(-1), [], rfl, ⟨(-1), by have zc_o_r : ((-1) : Int32).toInt = (-1) := (by decide); unfold bs; omega, ⟨by have zc_o_r : ((-1) : Int32).toInt = (-1) := (by decide); omega, by have zc_o_r : ((-1) : Int32).toInt = (-1) := (by decide); omega⟩, rfl, rfl⟩, by rw [ht]; exact hP.sub [] rfl, hD.sub [] (by decide) rfl⟩, hS.F ht⟩) hS.2.2 dX11_beside_78
    ·
      have i_7 : p_c.toInt < 56 := by have z := g5_geN (a := p_c.toInt) (b := 56) (by rfl) (by decide) c_7; omega
      refine lv_iload_n hx hb dX11_beside_70 rfl (lv_at hl 0 rfl) ?_
      refine lv_bipush (v := 8) hx hb dX11_beside_71 (by decide) ?_
      refine lv_iadd hx hb dX11_beside_73 ?_
      have t_8 : (p_c + 8).toInt = p_c.toInt + 8 := g5_iadd (a := p_c.toInt) (b := 8) (by rfl) (by decide) (by omega) (by omega)
      refine lv_goto (tgt := 78) hx hb dX11_beside_74 (by decide) ?_
      exact W.iret (v := (p_c + 8)) hx hb hr (fun t ht hW => ⟨⟨(p_c + 8), [], rfl, ⟨(p_c + 8), by unfold bs; omega, ⟨by omega, by omega⟩, rfl, rfl⟩, by rw [ht]; exact hP.sub [] rfl, hD.sub [] (by decide) rfl⟩, hS.F ht⟩) hS.2.2 dX11_beside_78
  ·
    have i_1 : p_w.toInt = 3 := by omega
    refine lv_tableIn (tgt := 79) hx hb dX11_beside_1 (by omega) (by omega) (by rw [s_1]; rfl) (by decide) ?_
    refine lv_iload_n hx hb dX11_beside_79 rfl (lv_at hl 0 rfl) ?_
    refine lv_bipush (v := 7) hx hb dX11_beside_80 (by decide) ?_
    refine lv_iand hx hb dX11_beside_82 ?_
    have t_9 : (p_c &&& 7).toInt = p_c.toInt % 8 := g5_and7 (a := p_c.toInt) rfl (by omega)
    refine lv_if_le (tgt := 92) hx hb dX11_beside_83 (by decide) (fun c_10 => ?_) (fun c_10 => ?_)
    ·
      have i_10 : (p_c.toInt % 8) ≤ 0 := by have z := g5_le (a := (p_c &&& 7).toInt) (b := 0) (by rfl) (by decide) c_10; omega
      refine lv_iconst (v := (-1)) hx hb dX11_beside_92 (by decide) ?_
      exact W.iret (v := (-1)) hx hb hr (fun t ht hW => ⟨⟨(-1), [], rfl, ⟨(-1), by have zc_o_r : ((-1) : Int32).toInt = (-1) := (by decide); unfold bs; omega, ⟨by have zc_o_r : ((-1) : Int32).toInt = (-1) := (by decide); omega, by have zc_o_r : ((-1) : Int32).toInt = (-1) := (by decide); omega⟩, rfl, rfl⟩, by rw [ht]; exact hP.sub [] rfl, hD.sub [] (by decide) rfl⟩, hS.F ht⟩) hS.2.2 dX11_beside_93
    ·
      have i_10 : (p_c.toInt % 8) > 0 := by have z := g5_leN (a := (p_c &&& 7).toInt) (b := 0) (by rfl) (by decide) c_10; omega
      refine lv_iload_n hx hb dX11_beside_86 rfl (lv_at hl 0 rfl) ?_
      refine lv_iconst (v := 1) hx hb dX11_beside_87 (by decide) ?_
      refine lv_isub hx hb dX11_beside_88 ?_
      have t_11 : (p_c - 1).toInt = p_c.toInt - 1 := g5_isub (a := p_c.toInt) (b := 1) (by rfl) (by decide) (by omega) (by omega)
      refine lv_goto (tgt := 93) hx hb dX11_beside_89 (by decide) ?_
      exact W.iret (v := (p_c - 1)) hx hb hr (fun t ht hW => ⟨⟨(p_c - 1), [], rfl, ⟨(p_c - 1), by unfold bs; omega, ⟨by omega, by omega⟩, rfl, rfl⟩, by rw [ht]; exact hP.sub [] rfl, hD.sub [] (by decide) rfl⟩, hS.F ht⟩) hS.2.2 dX11_beside_93
  ·
    have i_1 : p_w.toInt < 0 := by omega
    refine lv_tableOut (tgt := 94) hx hb dX11_beside_1 (by omega) (by decide) ?_
    refine lv_iload_n hx hb dX11_beside_94 rfl (lv_at hl 0 rfl) ?_
    exact W.iret (v := p_c) hx hb hr (fun t ht hW => ⟨⟨p_c, [], rfl, ⟨p_c, by unfold bs; omega, ⟨by omega, by omega⟩, rfl, rfl⟩, by rw [ht]; exact hP.sub [] rfl, hD.sub [] (by decide) rfl⟩, hS.F ht⟩) hS.2.2 dX11_beside_95
  ·
    have i_1 : p_w.toInt > 3 := by omega
    refine lv_tableOut (tgt := 94) hx hb dX11_beside_1 (by omega) (by decide) ?_
    refine lv_iload_n hx hb dX11_beside_94 rfl (lv_at hl 0 rfl) ?_
    exact W.iret (v := p_c) hx hb hr (fun t ht hW => ⟨⟨p_c, [], rfl, ⟨p_c, by unfold bs; omega, ⟨by omega, by omega⟩, rfl, rfl⟩, by rw [ht]; exact hP.sub [] rfl, hD.sub [] (by decide) rfl⟩, hS.F ht⟩) hS.2.2 dX11_beside_95
theorem dX5_run_0 : decode cX5_run 0 = .ok (.aload_n 0, 1) := by decide +kernel
theorem dX5_run_1 : decode cX5_run 1 = .ok (.iload_n 1, 1) := by decide +kernel
theorem dX5_run_2 : decode cX5_run 2 = .ok (.putfield 26, 3) := by decide +kernel
theorem dX5_run_5 : decode cX5_run 5 = .ok (.aload_n 0, 1) := by decide +kernel
theorem dX5_run_6 : decode cX5_run 6 = .ok (.iload_n 2, 1) := by decide +kernel
theorem dX5_run_7 : decode cX5_run 7 = .ok (.putfield 30, 3) := by decide +kernel
theorem dX5_run_10 : decode cX5_run 10 = .ok (.aload_n 0, 1) := by decide +kernel
theorem dX5_run_11 : decode cX5_run 11 = .ok (.iload_n 3, 1) := by decide +kernel
theorem dX5_run_12 : decode cX5_run 12 = .ok (.putfield 33, 3) := by decide +kernel
theorem dX5_run_15 : decode cX5_run 15 = .ok (.aload_n 0, 1) := by decide +kernel
theorem dX5_run_16 : decode cX5_run 16 = .ok (.iconst 0, 1) := by decide +kernel
theorem dX5_run_17 : decode cX5_run 17 = .ok (.putfield 36, 3) := by decide +kernel
theorem dX5_run_20 : decode cX5_run 20 = .ok (.aload_n 0, 1) := by decide +kernel
theorem dX5_run_21 : decode cX5_run 21 = .ok (.iconst (-1), 1) := by decide +kernel
theorem dX5_run_22 : decode cX5_run 22 = .ok (.putfield 39, 3) := by decide +kernel
theorem dX5_run_25 : decode cX5_run 25 = .ok (.aload_n 0, 1) := by decide +kernel
theorem dX5_run_26 : decode cX5_run 26 = .ok (.iconst (-1), 1) := by decide +kernel
theorem dX5_run_27 : decode cX5_run 27 = .ok (.putfield 42, 3) := by decide +kernel
theorem dX5_run_30 : decode cX5_run 30 = .ok (.aload_n 0, 1) := by decide +kernel
theorem dX5_run_31 : decode cX5_run 31 = .ok (.ldc 45, 2) := by decide +kernel
theorem dX5_run_33 : decode cX5_run 33 = .ok (.putfield 46, 3) := by decide +kernel
theorem dX5_run_36 : decode cX5_run 36 = .ok (.aload_n 0, 1) := by decide +kernel
theorem dX5_run_37 : decode cX5_run 37 = .ok (.iconst 0, 1) := by decide +kernel
theorem dX5_run_38 : decode cX5_run 38 = .ok (.putfield 49, 3) := by decide +kernel
theorem dX5_run_41 : decode cX5_run 41 = .ok (.aload_n 0, 1) := by decide +kernel
theorem dX5_run_42 : decode cX5_run 42 = .ok (.iload_n 1, 1) := by decide +kernel
theorem dX5_run_43 : decode cX5_run 43 = .ok (.iload_n 2, 1) := by decide +kernel
theorem dX5_run_44 : decode cX5_run 44 = .ok (.iload_n 3, 1) := by decide +kernel
theorem dX5_run_45 : decode cX5_run 45 = .ok (.invokestatic 52, 3) := by decide +kernel
theorem dX5_run_48 : decode cX5_run 48 = .ok (.ifCond .ne 7, 3) := by decide +kernel
theorem dX5_run_51 : decode cX5_run 51 = .ok (.iconst 1, 1) := by decide +kernel
theorem dX5_run_52 : decode cX5_run 52 = .ok (.goto 4, 3) := by decide +kernel
theorem dX5_run_55 : decode cX5_run 55 = .ok (.iconst 0, 1) := by decide +kernel
theorem dX5_run_56 : decode cX5_run 56 = .ok (.putfield 56, 3) := by decide +kernel
theorem dX5_run_59 : decode cX5_run 59 = .ok (.aload_n 0, 1) := by decide +kernel
theorem dX5_run_60 : decode cX5_run 60 = .ok (.getfield 22, 3) := by decide +kernel
theorem dX5_run_63 : decode cX5_run 63 = .ok (.getfield 60, 3) := by decide +kernel
theorem dX5_run_66 : decode cX5_run 66 = .ok (.aload_n 0, 1) := by decide +kernel
theorem dX5_run_67 : decode cX5_run 67 = .ok (.iload 4, 2) := by decide +kernel
theorem dX5_run_69 : decode cX5_run 69 = .ok (.invokevirtual 66, 3) := by decide +kernel
theorem dX5_run_72 : decode cX5_run 72 = .ok (.lor, 1) := by decide +kernel
theorem dX5_run_73 : decode cX5_run 73 = .ok (.lstore 5, 2) := by decide +kernel
theorem dX5_run_75 : decode cX5_run 75 = .ok (.iconst 0, 1) := by decide +kernel
theorem dX5_run_76 : decode cX5_run 76 = .ok (.istore 7, 2) := by decide +kernel
theorem dX5_run_78 : decode cX5_run 78 = .ok (.iload 7, 2) := by decide +kernel
theorem dX5_run_80 : decode cX5_run 80 = .ok (.sipush 200, 3) := by decide +kernel
theorem dX5_run_83 : decode cX5_run 83 = .ok (.if_icmp .ge 144, 3) := by decide +kernel
theorem dX5_run_86 : decode cX5_run 86 = .ok (.aload_n 0, 1) := by decide +kernel
theorem dX5_run_87 : decode cX5_run 87 = .ok (.getfield 56, 3) := by decide +kernel
theorem dX5_run_90 : decode cX5_run 90 = .ok (.ifCond .ne 137, 3) := by decide +kernel
theorem dX5_run_93 : decode cX5_run 93 = .ok (.aload_n 0, 1) := by decide +kernel
theorem dX5_run_94 : decode cX5_run 94 = .ok (.getfield 26, 3) := by decide +kernel
theorem dX5_run_97 : decode cX5_run 97 = .ok (.aload_n 0, 1) := by decide +kernel
theorem dX5_run_98 : decode cX5_run 98 = .ok (.getfield 30, 3) := by decide +kernel
theorem dX5_run_101 : decode cX5_run 101 = .ok (.invokestatic 70, 3) := by decide +kernel
theorem dX5_run_104 : decode cX5_run 104 = .ok (.istore 8, 2) := by decide +kernel
theorem dX5_run_106 : decode cX5_run 106 = .ok (.iload 8, 2) := by decide +kernel
theorem dX5_run_108 : decode cX5_run 108 = .ok (.iconst (-1), 1) := by decide +kernel
theorem dX5_run_109 : decode cX5_run 109 = .ok (.if_icmp .eq 18, 3) := by decide +kernel
theorem dX5_run_112 : decode cX5_run 112 = .ok (.aload_n 0, 1) := by decide +kernel
theorem dX5_run_113 : decode cX5_run 113 = .ok (.getfield 22, 3) := by decide +kernel
theorem dX5_run_116 : decode cX5_run 116 = .ok (.getfield 74, 3) := by decide +kernel
theorem dX5_run_119 : decode cX5_run 119 = .ok (.iload 8, 2) := by decide +kernel
theorem dX5_run_121 : decode cX5_run 121 = .ok (.invokestatic 77, 3) := by decide +kernel
theorem dX5_run_124 : decode cX5_run 124 = .ok (.ifCond .eq 4, 3) := by decide +kernel
theorem dX5_run_127 : decode cX5_run 127 = .ok (.return_, 1) := by decide +kernel
theorem dX5_run_128 : decode cX5_run 128 = .ok (.aload_n 0, 1) := by decide +kernel
theorem dX5_run_129 : decode cX5_run 129 = .ok (.iload 8, 2) := by decide +kernel
theorem dX5_run_131 : decode cX5_run 131 = .ok (.putfield 26, 3) := by decide +kernel
theorem dX5_run_134 : decode cX5_run 134 = .ok (.aload_n 0, 1) := by decide +kernel
theorem dX5_run_135 : decode cX5_run 135 = .ok (.aload_n 0, 1) := by decide +kernel
theorem dX5_run_136 : decode cX5_run 136 = .ok (.getfield 33, 3) := by decide +kernel
theorem dX5_run_139 : decode cX5_run 139 = .ok (.putfield 42, 3) := by decide +kernel
theorem dX5_run_142 : decode cX5_run 142 = .ok (.aload_n 0, 1) := by decide +kernel
theorem dX5_run_143 : decode cX5_run 143 = .ok (.getfield 18, 3) := by decide +kernel
theorem dX5_run_146 : decode cX5_run 146 = .ok (.iload 7, 2) := by decide +kernel
theorem dX5_run_148 : decode cX5_run 148 = .ok (.aload_n 0, 1) := by decide +kernel
theorem dX5_run_149 : decode cX5_run 149 = .ok (.getfield 33, 3) := by decide +kernel
theorem dX5_run_152 : decode cX5_run 152 = .ok (.bipush 64, 2) := by decide +kernel
theorem dX5_run_154 : decode cX5_run 154 = .ok (.imul, 1) := by decide +kernel
theorem dX5_run_155 : decode cX5_run 155 = .ok (.aload_n 0, 1) := by decide +kernel
theorem dX5_run_156 : decode cX5_run 156 = .ok (.getfield 26, 3) := by decide +kernel
theorem dX5_run_159 : decode cX5_run 159 = .ok (.iadd, 1) := by decide +kernel
theorem dX5_run_160 : decode cX5_run 160 = .ok (.iastore, 1) := by decide +kernel
theorem dX5_run_161 : decode cX5_run 161 = .ok (.aload_n 0, 1) := by decide +kernel
theorem dX5_run_162 : decode cX5_run 162 = .ok (.iload 7, 2) := by decide +kernel
theorem dX5_run_164 : decode cX5_run 164 = .ok (.iconst 1, 1) := by decide +kernel
theorem dX5_run_165 : decode cX5_run 165 = .ok (.iadd, 1) := by decide +kernel
theorem dX5_run_166 : decode cX5_run 166 = .ok (.putfield 36, 3) := by decide +kernel
theorem dX5_run_169 : decode cX5_run 169 = .ok (.aload_n 0, 1) := by decide +kernel
theorem dX5_run_170 : decode cX5_run 170 = .ok (.getfield 22, 3) := by decide +kernel
theorem dX5_run_173 : decode cX5_run 173 = .ok (.getfield 81, 3) := by decide +kernel
theorem dX5_run_176 : decode cX5_run 176 = .ok (.aload_n 0, 1) := by decide +kernel
theorem dX5_run_177 : decode cX5_run 177 = .ok (.getfield 33, 3) := by decide +kernel
theorem dX5_run_180 : decode cX5_run 180 = .ok (.laload, 1) := by decide +kernel
theorem dX5_run_181 : decode cX5_run 181 = .ok (.lload 5, 2) := by decide +kernel
theorem dX5_run_183 : decode cX5_run 183 = .ok (.lor, 1) := by decide +kernel
theorem dX5_run_184 : decode cX5_run 184 = .ok (.aload_n 0, 1) := by decide +kernel
theorem dX5_run_185 : decode cX5_run 185 = .ok (.getfield 26, 3) := by decide +kernel
theorem dX5_run_188 : decode cX5_run 188 = .ok (.invokestatic 77, 3) := by decide +kernel
theorem dX5_run_191 : decode cX5_run 191 = .ok (.ifCond .eq 30, 3) := by decide +kernel
theorem dX5_run_194 : decode cX5_run 194 = .ok (.aload_n 0, 1) := by decide +kernel
theorem dX5_run_195 : decode cX5_run 195 = .ok (.invokevirtual 85, 3) := by decide +kernel
theorem dX5_run_198 : decode cX5_run 198 = .ok (.aload_n 0, 1) := by decide +kernel
theorem dX5_run_199 : decode cX5_run 199 = .ok (.getfield 56, 3) := by decide +kernel
theorem dX5_run_202 : decode cX5_run 202 = .ok (.ifCond .ne 19, 3) := by decide +kernel
theorem dX5_run_205 : decode cX5_run 205 = .ok (.lload 5, 2) := by decide +kernel
theorem dX5_run_207 : decode cX5_run 207 = .ok (.aload_n 0, 1) := by decide +kernel
theorem dX5_run_208 : decode cX5_run 208 = .ok (.getfield 26, 3) := by decide +kernel
theorem dX5_run_211 : decode cX5_run 211 = .ok (.invokestatic 77, 3) := by decide +kernel
theorem dX5_run_214 : decode cX5_run 214 = .ok (.ifCond .eq 7, 3) := by decide +kernel
theorem dX5_run_217 : decode cX5_run 217 = .ok (.aload_n 0, 1) := by decide +kernel
theorem dX5_run_218 : decode cX5_run 218 = .ok (.invokevirtual 88, 3) := by decide +kernel
theorem dX5_run_221 : decode cX5_run 221 = .ok (.iinc 7 1, 3) := by decide +kernel
theorem dX5_run_224 : decode cX5_run 224 = .ok (.goto (-146), 3) := by decide +kernel
theorem dX5_run_227 : decode cX5_run 227 = .ok (.return_, 1) := by decide +kernel
theorem fl_X5_26 : Cond.fieldLink RX5 26 "LateGlass$Look" "cell" "I" ∈ tblG := tg 263 (by decide +kernel) (by decide +kernel)
theorem fl_X5_30 : Cond.fieldLink RX5 30 "LateGlass$Look" "way" "I" ∈ tblG := tg 264 (by decide +kernel) (by decide +kernel)
theorem fl_X5_33 : Cond.fieldLink RX5 33 "LateGlass$Look" "hour" "I" ∈ tblG := tg 265 (by decide +kernel) (by decide +kernel)
theorem fl_X5_36 : Cond.fieldLink RX5 36 "LateGlass$Look" "length" "I" ∈ tblG := tg 249 (by decide +kernel) (by decide +kernel)
theorem fl_X5_39 : Cond.fieldLink RX5 39 "LateGlass$Look" "seen" "I" ∈ tblG := tg 253 (by decide +kernel) (by decide +kernel)
theorem fl_X5_42 : Cond.fieldLink RX5 42 "LateGlass$Look" "lastHour" "I" ∈ tblG := tg 255 (by decide +kernel) (by decide +kernel)
theorem ki_X5_45 : Cond.constant RX5 45 1000000 ∈ tblG := tg 815 (by decide +kernel) (by decide +kernel)
theorem fl_X5_46 : Cond.fieldLink RX5 46 "LateGlass$Look" "bright" "I" ∈ tblG := tg 257 (by decide +kernel) (by decide +kernel)
theorem fl_X5_49 : Cond.fieldLink RX5 49 "LateGlass$Look" "went" "I" ∈ tblG := tg 259 (by decide +kernel) (by decide +kernel)
theorem dX11_isCell_0 : decode cX11_isCell 0 = .ok (.iload_n 0, 1) := by decide +kernel
theorem dX11_isCell_1 : decode cX11_isCell 1 = .ok (.ifCond .lt 13, 3) := by decide +kernel
theorem dX11_isCell_4 : decode cX11_isCell 4 = .ok (.iload_n 0, 1) := by decide +kernel
theorem dX11_isCell_5 : decode cX11_isCell 5 = .ok (.bipush 64, 2) := by decide +kernel
theorem dX11_isCell_7 : decode cX11_isCell 7 = .ok (.if_icmp .ge 7, 3) := by decide +kernel
theorem dX11_isCell_10 : decode cX11_isCell 10 = .ok (.iconst 1, 1) := by decide +kernel
theorem dX11_isCell_11 : decode cX11_isCell 11 = .ok (.goto 4, 3) := by decide +kernel
theorem dX11_isCell_14 : decode cX11_isCell 14 = .ok (.iconst 0, 1) := by decide +kernel
theorem dX11_isCell_15 : decode cX11_isCell 15 = .ok (.ireturn, 1) := by decide +kernel
set_option maxHeartbeats 4000000 in
set_option maxRecDepth 100000 in
theorem kX11_isCell (l : Launch) (G : g5_G) (sz : Nat) (n0 : Int32) (h_n0 : 0 ≤ n0.toInt ∧ n0.toInt ≤ 63) : Met l yX11_isCell (wsG yX11_isCell cX11_isCell 1 (some .boolean)) ({ frames := 0, cells := 0, slots := 0, locals := 0 }) (va_Pc [.int n0] (g5_P G [] sz)) (va_Qi (fun (r : Int32) (u : va_W) => ((n0.toInt ≥ 0) ∧ (n0.toInt < 64) ∧ (r = 1) ∧ (u = []))) (g5_B G (va_A [] sz)) (va_A [] sz)) 0 0 (va_A [] sz) := by
  refine Met.ofW (cc := cX11_isCell) (maxL := 1) (ret := (some .boolean)) (by decide) rfl ?_
  intro p e s m args below meth c s₁ B hml hv
  obtain ⟨rfl, hsz, hP, hK, hD0, hN, hT⟩ := hv
  have hx := B.exec
  have hb := B.bytes
  have hr := B.returns
  have hts : ∀ w ∈ tblG, w.before _ s = true := fun w h => atoms_spec (ws := (wsG yX11_isCell cX11_isCell 1 (some .boolean))) B.pre w (List.mem_cons_of_mem _ h)
  have hown : s.vm.findClass RX11 = some m.cls := findClass_of_methodNamed B.named
  have hlocks := B.notSynchronized
  subst hsz
  have hD := hD0.self (sz := s.heap.size)
  generalize hAe : va_A [] s.heap.size = A at hD hT ⊢
  have hA : ∀ q : Nat, s.heap.size ≤ q → A q := fun q h => by rw [← hAe]; exact Or.inr h
  have hS : va_S A s.heap s.heap [] := va_S.rf
  have hP : va_P G.1 vwCl [] s.heap := hP
  have hl := lv_entry ([.int n0]) (n := 1) (Nat.le_of_ble_eq_true rfl)
  rw [lg_entry_eq]
  generalize (lg_sl ([.int n0]) ++ List.replicate (1 - (lg_sl ([.int n0])).length) Slot.unset).toArray = ls at hl ⊢
  have hl : lv_has ls 1 [(0, .int n0)] := hl
  refine lv_iload_n hx hb dX11_isCell_0 rfl (lv_at hl 0 rfl) ?_
  refine lv_if_lt (tgt := 14) hx hb dX11_isCell_1 (by decide) (fun c_1 => ?_) (fun c_1 => ?_)
  ·
    have i_1 : n0.toInt < 0 := by have z := g5_lt (a := n0.toInt) (b := 0) (by rfl) (by decide) c_1; omega
    omega
  ·
    have i_1 : n0.toInt ≥ 0 := by have z := g5_ltN (a := n0.toInt) (b := 0) (by rfl) (by decide) c_1; omega
    refine lv_iload_n hx hb dX11_isCell_4 rfl (lv_at hl 0 rfl) ?_
    refine lv_bipush (v := 64) hx hb dX11_isCell_5 (by decide) ?_
    refine lv_icmp_ge (tgt := 14) hx hb dX11_isCell_7 (by decide) (fun c_2 => ?_) (fun c_2 => ?_)
    ·
      have i_2 : n0.toInt ≥ 64 := by have z := g5_ge (a := n0.toInt) (b := 64) (by rfl) (by decide) c_2; omega
      omega
    ·
      have i_2 : n0.toInt < 64 := by have z := g5_geN (a := n0.toInt) (b := 64) (by rfl) (by decide) c_2; omega
      refine lv_iconst (v := 1) hx hb dX11_isCell_10 (by decide) ?_
      refine lv_goto (tgt := 15) hx hb dX11_isCell_11 (by decide) ?_
      exact W.zret (v := 1) hx hb hr rfl (fun t ht hW => ⟨⟨1, [], rfl, ⟨i_1, i_2, rfl, rfl⟩, by rw [ht]; exact hP, hD⟩, hS.F ht⟩) hS.2.2 dX11_isCell_15
theorem ml_X11_97 : Cond.methodLink RX11 97 yX11_isCell ∈ tblG := tg 500 (by decide +kernel) (by decide +kernel)
theorem st_X11_isCell : Cond.static yX11_isCell ∈ tblG := tg 501 (by decide +kernel) (by decide +kernel)
theorem ini_X11 : Cond.initialized RX11 ∈ tblG := tg 88 (by decide +kernel) (by decide +kernel)
theorem cd_X11_isCell : Cond.code yX11_isCell cX11_isCell 1 (some .boolean) ∈ tblG := tg 502 (by decide +kernel) (by decide +kernel)
theorem gW_X11_isCell : GoodIn tblG (wsG yX11_isCell cX11_isCell 1 (some .boolean)) := tgi cd_X11_isCell
theorem gS_X11_97 : GoodIn tblG (va_wsS RX11 97 yX11_isCell (wsG yX11_isCell cX11_isCell 1 (some .boolean))) := tgS ml_X11_97 st_X11_isCell ini_X11 gW_X11_isCell
theorem hs_X11_isCell : yX11_isCell.cls ≠ "java/lang/invoke/MethodHandle" ∧ yX11_isCell.cls ≠ "java/lang/invoke/VarHandle" ∧ (parseMethodDescriptor yX11_isCell.desc).map (fun d => d.parameters.length) = some 1 := by decide +kernel
theorem dX11_isHour_0 : decode cX11_isHour 0 = .ok (.iload_n 0, 1) := by decide +kernel
theorem dX11_isHour_1 : decode cX11_isHour 1 = .ok (.ifCond .lt 13, 3) := by decide +kernel
theorem dX11_isHour_4 : decode cX11_isHour 4 = .ok (.iload_n 0, 1) := by decide +kernel
theorem dX11_isHour_5 : decode cX11_isHour 5 = .ok (.bipush 24, 2) := by decide +kernel
theorem dX11_isHour_7 : decode cX11_isHour 7 = .ok (.if_icmp .ge 7, 3) := by decide +kernel
theorem dX11_isHour_10 : decode cX11_isHour 10 = .ok (.iconst 1, 1) := by decide +kernel
theorem dX11_isHour_11 : decode cX11_isHour 11 = .ok (.goto 4, 3) := by decide +kernel
theorem dX11_isHour_14 : decode cX11_isHour 14 = .ok (.iconst 0, 1) := by decide +kernel
theorem dX11_isHour_15 : decode cX11_isHour 15 = .ok (.ireturn, 1) := by decide +kernel
set_option maxHeartbeats 4000000 in
set_option maxRecDepth 100000 in
theorem kX11_isHour (l : Launch) (G : g5_G) (sz : Nat) (n0 : Int32) (h_n0 : 0 ≤ n0.toInt ∧ n0.toInt ≤ 23) : Met l yX11_isHour (wsG yX11_isHour cX11_isHour 1 (some .boolean)) ({ frames := 0, cells := 0, slots := 0, locals := 0 }) (va_Pc [.int n0] (g5_P G [] sz)) (va_Qi (fun (r : Int32) (u : va_W) => ((n0.toInt ≥ 0) ∧ (n0.toInt < 24) ∧ (r = 1) ∧ (u = []))) (g5_B G (va_A [] sz)) (va_A [] sz)) 0 0 (va_A [] sz) := by
  refine Met.ofW (cc := cX11_isHour) (maxL := 1) (ret := (some .boolean)) (by decide) rfl ?_
  intro p e s m args below meth c s₁ B hml hv
  obtain ⟨rfl, hsz, hP, hK, hD0, hN, hT⟩ := hv
  have hx := B.exec
  have hb := B.bytes
  have hr := B.returns
  have hts : ∀ w ∈ tblG, w.before _ s = true := fun w h => atoms_spec (ws := (wsG yX11_isHour cX11_isHour 1 (some .boolean))) B.pre w (List.mem_cons_of_mem _ h)
  have hown : s.vm.findClass RX11 = some m.cls := findClass_of_methodNamed B.named
  have hlocks := B.notSynchronized
  subst hsz
  have hD := hD0.self (sz := s.heap.size)
  generalize hAe : va_A [] s.heap.size = A at hD hT ⊢
  have hA : ∀ q : Nat, s.heap.size ≤ q → A q := fun q h => by rw [← hAe]; exact Or.inr h
  have hS : va_S A s.heap s.heap [] := va_S.rf
  have hP : va_P G.1 vwCl [] s.heap := hP
  have hl := lv_entry ([.int n0]) (n := 1) (Nat.le_of_ble_eq_true rfl)
  rw [lg_entry_eq]
  generalize (lg_sl ([.int n0]) ++ List.replicate (1 - (lg_sl ([.int n0])).length) Slot.unset).toArray = ls at hl ⊢
  have hl : lv_has ls 1 [(0, .int n0)] := hl
  refine lv_iload_n hx hb dX11_isHour_0 rfl (lv_at hl 0 rfl) ?_
  refine lv_if_lt (tgt := 14) hx hb dX11_isHour_1 (by decide) (fun c_1 => ?_) (fun c_1 => ?_)
  ·
    have i_1 : n0.toInt < 0 := by have z := g5_lt (a := n0.toInt) (b := 0) (by rfl) (by decide) c_1; omega
    omega
  ·
    have i_1 : n0.toInt ≥ 0 := by have z := g5_ltN (a := n0.toInt) (b := 0) (by rfl) (by decide) c_1; omega
    refine lv_iload_n hx hb dX11_isHour_4 rfl (lv_at hl 0 rfl) ?_
    refine lv_bipush (v := 24) hx hb dX11_isHour_5 (by decide) ?_
    refine lv_icmp_ge (tgt := 14) hx hb dX11_isHour_7 (by decide) (fun c_2 => ?_) (fun c_2 => ?_)
    ·
      have i_2 : n0.toInt ≥ 24 := by have z := g5_ge (a := n0.toInt) (b := 24) (by rfl) (by decide) c_2; omega
      omega
    ·
      have i_2 : n0.toInt < 24 := by have z := g5_geN (a := n0.toInt) (b := 24) (by rfl) (by decide) c_2; omega
      refine lv_iconst (v := 1) hx hb dX11_isHour_10 (by decide) ?_
      refine lv_goto (tgt := 15) hx hb dX11_isHour_11 (by decide) ?_
      exact W.zret (v := 1) hx hb hr rfl (fun t ht hW => ⟨⟨1, [], rfl, ⟨i_1, i_2, rfl, rfl⟩, by rw [ht]; exact hP, hD⟩, hS.F ht⟩) hS.2.2 dX11_isHour_15
theorem ml_X11_127 : Cond.methodLink RX11 127 yX11_isHour ∈ tblG := tg 538 (by decide +kernel) (by decide +kernel)
theorem st_X11_isHour : Cond.static yX11_isHour ∈ tblG := tg 539 (by decide +kernel) (by decide +kernel)
theorem cd_X11_isHour : Cond.code yX11_isHour cX11_isHour 1 (some .boolean) ∈ tblG := tg 540 (by decide +kernel) (by decide +kernel)
theorem gW_X11_isHour : GoodIn tblG (wsG yX11_isHour cX11_isHour 1 (some .boolean)) := tgi cd_X11_isHour
theorem gS_X11_127 : GoodIn tblG (va_wsS RX11 127 yX11_isHour (wsG yX11_isHour cX11_isHour 1 (some .boolean))) := tgS ml_X11_127 st_X11_isHour ini_X11 gW_X11_isHour
theorem hs_X11_isHour : yX11_isHour.cls ≠ "java/lang/invoke/MethodHandle" ∧ yX11_isHour.cls ≠ "java/lang/invoke/VarHandle" ∧ (parseMethodDescriptor yX11_isHour.desc).map (fun d => d.parameters.length) = some 1 := by decide +kernel
theorem dX11_isLook_0 : decode cX11_isLook 0 = .ok (.iload_n 0, 1) := by decide +kernel
theorem dX11_isLook_1 : decode cX11_isLook 1 = .ok (.invokestatic 97, 3) := by decide +kernel
theorem dX11_isLook_4 : decode cX11_isLook 4 = .ok (.ifCond .eq 23, 3) := by decide +kernel
theorem dX11_isLook_7 : decode cX11_isLook 7 = .ok (.iload_n 1, 1) := by decide +kernel
theorem dX11_isLook_8 : decode cX11_isLook 8 = .ok (.ifCond .lt 19, 3) := by decide +kernel
theorem dX11_isLook_11 : decode cX11_isLook 11 = .ok (.iload_n 1, 1) := by decide +kernel
theorem dX11_isLook_12 : decode cX11_isLook 12 = .ok (.iconst 4, 1) := by decide +kernel
theorem dX11_isLook_13 : decode cX11_isLook 13 = .ok (.if_icmp .ge 14, 3) := by decide +kernel
theorem dX11_isLook_16 : decode cX11_isLook 16 = .ok (.iload_n 2, 1) := by decide +kernel
theorem dX11_isLook_17 : decode cX11_isLook 17 = .ok (.invokestatic 127, 3) := by decide +kernel
theorem dX11_isLook_20 : decode cX11_isLook 20 = .ok (.ifCond .eq 7, 3) := by decide +kernel
theorem dX11_isLook_23 : decode cX11_isLook 23 = .ok (.iconst 1, 1) := by decide +kernel
theorem dX11_isLook_24 : decode cX11_isLook 24 = .ok (.goto 4, 3) := by decide +kernel
theorem dX11_isLook_27 : decode cX11_isLook 27 = .ok (.iconst 0, 1) := by decide +kernel
theorem dX11_isLook_28 : decode cX11_isLook 28 = .ok (.ireturn, 1) := by decide +kernel
set_option maxHeartbeats 4000000 in
set_option maxRecDepth 100000 in
theorem kX11_isLook (l : Launch) (G : g5_G) (sz : Nat) (n0 : Int32) (n1 : Int32) (h_n0 : 0 ≤ n0.toInt ∧ n0.toInt ≤ 63) (h_n1 : 0 ≤ n1.toInt ∧ n1.toInt ≤ 23) : Met l yX11_isLook (wsG yX11_isLook cX11_isLook 3 (some .boolean)) ({ frames := 1, cells := 0, slots := 0, locals := 20 }) (va_Pc [.int n0, .int 0, .int n1] (g5_P G [] sz)) (va_Qi (fun (r : Int32) (u : va_W) => ((n0.toInt ≥ 0) ∧ (n0.toInt < 64) ∧ (n1.toInt ≥ 0) ∧ (n1.toInt < 24) ∧ (r = 1) ∧ (u = []))) (g5_B G (va_A [] sz)) (va_A [] sz)) 0 0 (va_A [] sz) := by
  refine Met.ofW (cc := cX11_isLook) (maxL := 3) (ret := (some .boolean)) (by decide) rfl ?_
  intro p e s m args below meth c s₁ B hml hv
  obtain ⟨rfl, hsz, hP, hK, hD0, hN, hT⟩ := hv
  have hx := B.exec
  have hb := B.bytes
  have hr := B.returns
  have hts : ∀ w ∈ tblG, w.before _ s = true := fun w h => atoms_spec (ws := (wsG yX11_isLook cX11_isLook 3 (some .boolean))) B.pre w (List.mem_cons_of_mem _ h)
  have hown : s.vm.findClass RX11 = some m.cls := findClass_of_methodNamed B.named
  have hlocks := B.notSynchronized
  subst hsz
  have hD := hD0.self (sz := s.heap.size)
  generalize hAe : va_A [] s.heap.size = A at hD hT ⊢
  have hA : ∀ q : Nat, s.heap.size ≤ q → A q := fun q h => by rw [← hAe]; exact Or.inr h
  have hS : va_S A s.heap s.heap [] := va_S.rf
  have hP : va_P G.1 vwCl [] s.heap := hP
  have hl := lv_entry ([.int n0, .int 0, .int n1]) (n := 3) (Nat.le_of_ble_eq_true rfl)
  rw [lg_entry_eq]
  generalize (lg_sl ([.int n0, .int 0, .int n1]) ++ List.replicate (3 - (lg_sl ([.int n0, .int 0, .int n1])).length) Slot.unset).toArray = ls at hl ⊢
  have hl : lv_has ls 3 [(0, .int n0), (1, .int 0), (2, .int n1)] := hl
  refine lv_iload_n hx hb dX11_isLook_0 rfl (lv_at hl 0 rfl) ?_
  have hPc := hP.sub (ws' := []) [] rfl
  have hDc := hD.sub (ws' := []) [] (by decide) rfl
  have hFc := va_free (wc := []) hD hS hA [] rfl
  refine va_calli (va_runS (As := [.int n0]) (rest := []) ⟨hx, hb, hml, hown, hts⟩ (kX11_isCell l G s.heap.size n0 ⟨by omega, by omega⟩) (va_cwS 1 hts gS_X11_97 rfl rfl rfl hs_X11_isCell ⟨Nat.le_of_ble_eq_true rfl, Nat.le_of_ble_eq_true rfl⟩) (g5_preS hPc hK hDc hN hT hS hFc) rfl rfl hl.1 rfl (lv_room (Nat.le_of_ble_eq_true rfl)) dX11_isLook_1 ⟨Nat.le_of_ble_eq_true rfl, Nat.le_of_ble_eq_true rfl⟩) hS (fun q _ h => hFc q h) hFc (fun r u t H1 locs ht hvm hw hB hz1 hk1 hS => ?_)
  obtain ⟨hP1, hD1⟩ := hB
  rw [ht] at hP1
  obtain ⟨i_1, i_2, rfl, rfl⟩ := hw
  have hP := g5_same hP hk1
  generalize H1 = H at hP hS ⊢
  refine lv_if_eq (tgt := 27) hx hb dX11_isLook_4 (by decide) (fun c_3 => ?_) (fun c_3 => ?_)
  ·
    exact absurd c_3 (by decide)
  ·
    refine lv_iload_n hx hb dX11_isLook_7 rfl (lv_at hl 1 rfl) ?_
    refine lv_if_lt (tgt := 27) hx hb dX11_isLook_8 (by decide) (fun c_4 => ?_) (fun c_4 => ?_)
    ·
      exact absurd c_4 (by decide)
    ·
      refine lv_iload_n hx hb dX11_isLook_11 rfl (lv_at hl 1 rfl) ?_
      refine lv_iconst (v := 4) hx hb dX11_isLook_12 (by decide) ?_
      refine lv_icmp_ge (tgt := 27) hx hb dX11_isLook_13 (by decide) (fun c_5 => ?_) (fun c_5 => ?_)
      ·
        exact absurd c_5 (by decide)
      ·
        refine lv_iload_n hx hb dX11_isLook_16 rfl (lv_at hl 2 rfl) ?_
        have hPc := hP.sub (ws' := []) [] rfl
        have hDc := hD.sub (ws' := []) [] (by decide) rfl
        have hFc := va_free (wc := []) hD hS hA [] rfl
        refine va_calli (va_runS (As := [.int n1]) (rest := []) ⟨hx, hb, hml, hown, hts⟩ (kX11_isHour l G H.size n1 ⟨by omega, by omega⟩) (va_cwS 1 hts gS_X11_127 rfl rfl rfl hs_X11_isHour ⟨Nat.le_of_ble_eq_true rfl, Nat.le_of_ble_eq_true rfl⟩) (g5_preS hPc hK hDc hN hT hS hFc) rfl rfl hl.1 rfl (lv_room (Nat.le_of_ble_eq_true rfl)) dX11_isLook_17 ⟨Nat.le_of_ble_eq_true rfl, Nat.le_of_ble_eq_true rfl⟩) hS (fun q _ h => hFc q h) hFc (fun r u t H1 locs ht hvm hw hB hz1 hk1 hS => ?_)
        obtain ⟨hP1, hD1⟩ := hB
        rw [ht] at hP1
        obtain ⟨i_6, i_7, rfl, rfl⟩ := hw
        have hP := g5_same hP hk1
        generalize H1 = H at hP hS ⊢
        refine lv_if_eq (tgt := 27) hx hb dX11_isLook_20 (by decide) (fun c_8 => ?_) (fun c_8 => ?_)
        ·
          exact absurd c_8 (by decide)
        ·
          refine lv_iconst (v := 1) hx hb dX11_isLook_23 (by decide) ?_
          refine lv_goto (tgt := 28) hx hb dX11_isLook_24 (by decide) ?_
          exact W.zret (v := 1) hx hb hr rfl (fun t ht hW => ⟨⟨1, [], rfl, ⟨i_1, i_2, i_6, i_7, rfl, rfl⟩, by rw [ht]; exact hP, hD⟩, hS.F ht⟩) hS.2.2 dX11_isLook_28
theorem cd_X11_isLook : Cond.code yX11_isLook cX11_isLook 3 (some .boolean) ∈ tblG := tg 810 (by decide +kernel) (by decide +kernel)
theorem gW_X11_isLook : GoodIn tblG (wsG yX11_isLook cX11_isLook 3 (some .boolean)) := tgi cd_X11_isLook
theorem hs_X11_isLook : yX11_isLook.cls ≠ "java/lang/invoke/MethodHandle" ∧ yX11_isLook.cls ≠ "java/lang/invoke/VarHandle" ∧ (parseMethodDescriptor yX11_isLook.desc).map (fun d => d.parameters.length) = some 3 := by decide +kernel
theorem st_X11_isLook : Cond.static yX11_isLook ∈ tblG := tg 809 (by decide +kernel) (by decide +kernel)
theorem fl_X5_56 : Cond.fieldLink RX5 56 "LateGlass$Look" "isOver" "Z" ∈ tblG := tg 266 (by decide +kernel) (by decide +kernel)
theorem fl_X5_60 : Cond.fieldLink RX5 60 "LateGlass$House" "glassBoard" "J" ∈ tblG := tg 189 (by decide +kernel) (by decide +kernel)
theorem dX5_hungBoard_0 : decode cX5_hungBoard 0 = .ok (.lconst 0, 1) := by decide +kernel
theorem dX5_hungBoard_1 : decode cX5_hungBoard 1 = .ok (.lstore_n 2, 1) := by decide +kernel
theorem dX5_hungBoard_2 : decode cX5_hungBoard 2 = .ok (.iconst 0, 1) := by decide +kernel
theorem dX5_hungBoard_3 : decode cX5_hungBoard 3 = .ok (.istore 4, 2) := by decide +kernel
theorem dX5_hungBoard_5 : decode cX5_hungBoard 5 = .ok (.iload_n 1, 1) := by decide +kernel
theorem dX5_hungBoard_6 : decode cX5_hungBoard 6 = .ok (.iload 4, 2) := by decide +kernel
theorem dX5_hungBoard_8 : decode cX5_hungBoard 8 = .ok (.ishr, 1) := by decide +kernel
theorem dX5_hungBoard_9 : decode cX5_hungBoard 9 = .ok (.ifCond .eq 55, 3) := by decide +kernel
theorem dX5_hungBoard_12 : decode cX5_hungBoard 12 = .ok (.iload 4, 2) := by decide +kernel
theorem dX5_hungBoard_14 : decode cX5_hungBoard 14 = .ok (.aload_n 0, 1) := by decide +kernel
theorem dX5_hungBoard_15 : decode cX5_hungBoard 15 = .ok (.getfield 22, 3) := by decide +kernel
theorem dX5_hungBoard_18 : decode cX5_hungBoard 18 = .ok (.getfield 98, 3) := by decide +kernel
theorem dX5_hungBoard_21 : decode cX5_hungBoard 21 = .ok (.getfield 102, 3) := by decide +kernel
theorem dX5_hungBoard_24 : decode cX5_hungBoard 24 = .ok (.if_icmp .ge 40, 3) := by decide +kernel
theorem dX5_hungBoard_27 : decode cX5_hungBoard 27 = .ok (.lload_n 2, 1) := by decide +kernel
theorem dX5_hungBoard_28 : decode cX5_hungBoard 28 = .ok (.iload_n 1, 1) := by decide +kernel
theorem dX5_hungBoard_29 : decode cX5_hungBoard 29 = .ok (.iload 4, 2) := by decide +kernel
theorem dX5_hungBoard_31 : decode cX5_hungBoard 31 = .ok (.ishr, 1) := by decide +kernel
theorem dX5_hungBoard_32 : decode cX5_hungBoard 32 = .ok (.iconst 1, 1) := by decide +kernel
theorem dX5_hungBoard_33 : decode cX5_hungBoard 33 = .ok (.iand, 1) := by decide +kernel
theorem dX5_hungBoard_34 : decode cX5_hungBoard 34 = .ok (.ifCond .ne 7, 3) := by decide +kernel
theorem dX5_hungBoard_37 : decode cX5_hungBoard 37 = .ok (.lconst 0, 1) := by decide +kernel
theorem dX5_hungBoard_38 : decode cX5_hungBoard 38 = .ok (.goto 18, 3) := by decide +kernel
theorem dX5_hungBoard_41 : decode cX5_hungBoard 41 = .ok (.lconst 1, 1) := by decide +kernel
theorem dX5_hungBoard_42 : decode cX5_hungBoard 42 = .ok (.aload_n 0, 1) := by decide +kernel
theorem dX5_hungBoard_43 : decode cX5_hungBoard 43 = .ok (.getfield 22, 3) := by decide +kernel
theorem dX5_hungBoard_46 : decode cX5_hungBoard 46 = .ok (.getfield 98, 3) := by decide +kernel
theorem dX5_hungBoard_49 : decode cX5_hungBoard 49 = .ok (.iload 4, 2) := by decide +kernel
theorem dX5_hungBoard_51 : decode cX5_hungBoard 51 = .ok (.iconst 0, 1) := by decide +kernel
theorem dX5_hungBoard_52 : decode cX5_hungBoard 52 = .ok (.invokevirtual 107, 3) := by decide +kernel
theorem dX5_hungBoard_55 : decode cX5_hungBoard 55 = .ok (.lshl, 1) := by decide +kernel
theorem dX5_hungBoard_56 : decode cX5_hungBoard 56 = .ok (.lor, 1) := by decide +kernel
theorem dX5_hungBoard_57 : decode cX5_hungBoard 57 = .ok (.lstore_n 2, 1) := by decide +kernel
theorem dX5_hungBoard_58 : decode cX5_hungBoard 58 = .ok (.iinc 4 1, 3) := by decide +kernel
theorem dX5_hungBoard_61 : decode cX5_hungBoard 61 = .ok (.goto (-56), 3) := by decide +kernel
theorem dX5_hungBoard_64 : decode cX5_hungBoard 64 = .ok (.lload_n 2, 1) := by decide +kernel
theorem dX5_hungBoard_65 : decode cX5_hungBoard 65 = .ok (.lreturn, 1) := by decide +kernel
set_option maxHeartbeats 4000000 in
set_option maxRecDepth 100000 in
theorem kX5_hungBoard (l : Launch) (G : g5_G) (a0 a1 a2 a3 : Nat) (sz : Nat) (n0 : Int32) (n1 : Int32) (n2 : Int32) (h_n1 : 0 ≤ n1.toInt ∧ n1.toInt ≤ 63) (h_n2 : 0 ≤ n2.toInt ∧ n2.toInt ≤ 23) : Met l yX5_hungBoard (wsG yX5_hungBoard cX5_hungBoard 5 (some .long)) ({ frames := 0, cells := 0, slots := 0, locals := 0 }) (va_Pc [.ref a0, .int 0] (g5_P G [(a0, .inr (5, [.ref a1, .ref a2, .ref a3, .int 0, .int (-1), .int (-1), .int 1000000, .int 0, .int n0, .int n1, .int 0, .int n2, .int 0]))] sz)) (va_Ql (fun (r : Int64) (u : va_W) => ((r = 0) ∧ (u = [(a0, .inr (5, [.ref a1, .ref a2, .ref a3, .int 0, .int (-1), .int (-1), .int 1000000, .int 0, .int n0, .int n1, .int 0, .int n2, .int 0]))]))) (g5_B G (va_A [(a0, .inr (5, [.ref a1, .ref a2, .ref a3, .int 0, .int (-1), .int (-1), .int 1000000, .int 0, .int n0, .int n1, .int 0, .int n2, .int 0]))] sz)) (va_A [(a0, .inr (5, [.ref a1, .ref a2, .ref a3, .int 0, .int (-1), .int (-1), .int 1000000, .int 0, .int n0, .int n1, .int 0, .int n2, .int 0]))] sz)) 0 0 (va_A [(a0, .inr (5, [.ref a1, .ref a2, .ref a3, .int 0, .int (-1), .int (-1), .int 1000000, .int 0, .int n0, .int n1, .int 0, .int n2, .int 0]))] sz) := by
  refine Met.ofW (cc := cX5_hungBoard) (maxL := 5) (ret := (some .long)) (by decide) rfl ?_
  intro p e s m args below meth c s₁ B hml hv
  obtain ⟨rfl, hsz, hP, hK, hD0, hN, hT⟩ := hv
  have hx := B.exec
  have hb := B.bytes
  have hr := B.returns
  have hts : ∀ w ∈ tblG, w.before _ s = true := fun w h => atoms_spec (ws := (wsG yX5_hungBoard cX5_hungBoard 5 (some .long))) B.pre w (List.mem_cons_of_mem _ h)
  have hown : s.vm.findClass RX5 = some m.cls := findClass_of_methodNamed B.named
  have hlocks := B.notSynchronized
  subst hsz
  have hD := hD0.self (sz := s.heap.size)
  generalize hAe : va_A [(a0, .inr (5, [.ref a1, .ref a2, .ref a3, .int 0, .int (-1), .int (-1), .int 1000000, .int 0, .int n0, .int n1, .int 0, .int n2, .int 0]))] s.heap.size = A at hD hT ⊢
  have hA : ∀ q : Nat, s.heap.size ≤ q → A q := fun q h => by rw [← hAe]; exact Or.inr h
  have hS : va_S A s.heap s.heap [] := va_S.rf
  have hP : va_P G.1 vwCl [(a0, .inr (5, [.ref a1, .ref a2, .ref a3, .int 0, .int (-1), .int (-1), .int 1000000, .int 0, .int n0, .int n1, .int 0, .int n2, .int 0]))] s.heap := hP
  have hl := lv_entry ([.ref a0, .int 0]) (n := 5) (Nat.le_of_ble_eq_true rfl)
  rw [lg_entry_eq]
  generalize (lg_sl ([.ref a0, .int 0]) ++ List.replicate (5 - (lg_sl ([.ref a0, .int 0])).length) Slot.unset).toArray = ls at hl ⊢
  have hl : lv_has ls 5 [(0, .ref a0), (1, .int 0)] := hl
  refine lv_lconst (v := 0) hx hb dX5_hungBoard_0 (by decide) ?_
  refine lv_lstore_n (lv' := [(2, .long 0), (0, .ref a0), (1, .int 0)]) hx hb dX5_hungBoard_1 rfl hl (by decide) rfl (fun ls hl => ?_)
  refine lv_iconst (v := 0) hx hb dX5_hungBoard_2 (by decide) ?_
  refine lv_istore (lv' := [(4, .int 0), (2, .long 0), (0, .ref a0), (1, .int 0)]) hx hb dX5_hungBoard_3 hl (by decide) rfl (fun ls hl => ?_)
  refine lv_iload_n hx hb dX5_hungBoard_5 rfl (lv_at hl 3 rfl) ?_
  refine lv_iload hx hb dX5_hungBoard_6 (lv_at hl 0 rfl) ?_
  refine lv_ishr hx hb dX5_hungBoard_8 ?_
  refine g5_ti (v := 0) (by decide) ?_
  refine lv_if_eq (tgt := 64) hx hb dX5_hungBoard_9 (by decide) (fun c_1 => ?_) (fun c_1 => ?_)
  ·
    refine lv_lload_n hx hb dX5_hungBoard_64 rfl (lv_at hl 1 rfl) ?_
    exact W.lret (v := 0) hx hb hr (fun t ht hW => ⟨⟨0, [(a0, .inr (5, [.ref a1, .ref a2, .ref a3, .int 0, .int (-1), .int (-1), .int 1000000, .int 0, .int n0, .int n1, .int 0, .int n2, .int 0]))], rfl, ⟨rfl, rfl⟩, by rw [ht]; exact hP, hD⟩, hS.F ht⟩) hS.2.2 dX5_hungBoard_65
  ·
    exact absurd c_1 (by decide)
theorem ml_X5_66 : Cond.methodLink RX5 66 yX5_hungBoard ∈ tblG := tg 817 (by decide +kernel) (by decide +kernel)
theorem im_X5_hungBoard : Cond.instanceMethod yX5_hungBoard ∈ tblG := tg 819 (by decide +kernel) (by decide +kernel)
theorem se_X5_hungBoard : Cond.selects RX5 yX5_hungBoard yX5_hungBoard ∈ tblG := tg 13 (by decide +kernel) (by decide +kernel)
theorem cd_X5_hungBoard : Cond.code yX5_hungBoard cX5_hungBoard 5 (some .long) ∈ tblG := tg 820 (by decide +kernel) (by decide +kernel)
theorem gW_X5_hungBoard : GoodIn tblG (wsG yX5_hungBoard cX5_hungBoard 5 (some .long)) := tgi cd_X5_hungBoard
theorem gV_X5_66 : GoodIn tblG (wsV RX5 66 RX5 yX5_hungBoard (wsG yX5_hungBoard cX5_hungBoard 5 (some .long))) := tgV ml_X5_66 im_X5_hungBoard se_X5_hungBoard ini_X5 gW_X5_hungBoard
theorem hv_X5_hungBoard : yX5_hungBoard.cls = RX5 ∧ yX5_hungBoard.cls ≠ "java/lang/invoke/MethodHandle" ∧ yX5_hungBoard.cls ≠ "java/lang/invoke/VarHandle" ∧ (parseMethodDescriptor yX5_hungBoard.desc).map (fun d => d.parameters.length) = some 1 := by decide +kernel
set_option maxHeartbeats 4000000 in
set_option maxRecDepth 100000 in
theorem kX11_beside (l : Launch) (G : g5_G) (sz : Nat) (n0 : Int32) (h_n0 : 0 ≤ n0.toInt ∧ n0.toInt ≤ 63) : Met l yX11_beside (wsG yX11_beside cX11_beside 2 (some .int)) ({ frames := 0, cells := 0, slots := 0, locals := 0 }) (va_Pc [.int n0, .int 0] (g5_P G [] sz)) (va_Qi (fun (r : Int32) (u : va_W) => ((n0.toInt < 8) ∧ (r = (-1)) ∧ (u = [])) ∨ ((n0.toInt ≥ 8) ∧ ((n0 - 8).toInt = (n0.toInt - 8)) ∧ (r = (n0 - 8)) ∧ (u = []))) (g5_B G (va_A [] sz)) (va_A [] sz)) 0 0 (va_A [] sz) := by
  refine Met.ofW (cc := cX11_beside) (maxL := 2) (ret := (some .int)) (by decide) rfl ?_
  intro p e s m args below meth c s₁ B hml hv
  obtain ⟨rfl, hsz, hP, hK, hD0, hN, hT⟩ := hv
  have hx := B.exec
  have hb := B.bytes
  have hr := B.returns
  have hts : ∀ w ∈ tblG, w.before _ s = true := fun w h => atoms_spec (ws := (wsG yX11_beside cX11_beside 2 (some .int))) B.pre w (List.mem_cons_of_mem _ h)
  have hown : s.vm.findClass RX11 = some m.cls := findClass_of_methodNamed B.named
  have hlocks := B.notSynchronized
  subst hsz
  have hD := hD0.self (sz := s.heap.size)
  generalize hAe : va_A [] s.heap.size = A at hD hT ⊢
  have hA : ∀ q : Nat, s.heap.size ≤ q → A q := fun q h => by rw [← hAe]; exact Or.inr h
  have hS : va_S A s.heap s.heap [] := va_S.rf
  have hP : va_P G.1 vwCl [] s.heap := hP
  have hl := lv_entry ([.int n0, .int 0]) (n := 2) (Nat.le_of_ble_eq_true rfl)
  rw [lg_entry_eq]
  generalize (lg_sl ([.int n0, .int 0]) ++ List.replicate (2 - (lg_sl ([.int n0, .int 0])).length) Slot.unset).toArray = ls at hl ⊢
  have hl : lv_has ls 2 [(0, .int n0), (1, .int 0)] := hl
  refine lv_iload_n hx hb dX11_beside_0 rfl (lv_at hl 1 rfl) ?_
  refine lv_tableIn (tgt := 32) hx hb dX11_beside_1 (by decide) (by decide) rfl (by decide) ?_
  refine lv_iload_n hx hb dX11_beside_32 rfl (lv_at hl 0 rfl) ?_
  refine lv_bipush (v := 8) hx hb dX11_beside_33 (by decide) ?_
  refine lv_icmp_lt (tgt := 45) hx hb dX11_beside_35 (by decide) (fun c_1 => ?_) (fun c_1 => ?_)
  ·
    have i_1 : n0.toInt < 8 := by have z := g5_lt (a := n0.toInt) (b := 8) (by rfl) (by decide) c_1; omega
    refine lv_iconst (v := (-1)) hx hb dX11_beside_45 (by decide) ?_
    exact W.iret (v := (-1)) hx hb hr (fun t ht hW => ⟨⟨(-1), [], rfl, Or.inl (⟨i_1, rfl, rfl⟩), by rw [ht]; exact hP, hD⟩, hS.F ht⟩) hS.2.2 dX11_beside_46
  ·
    have i_1 : n0.toInt ≥ 8 := by have z := g5_ltN (a := n0.toInt) (b := 8) (by rfl) (by decide) c_1; omega
    refine lv_iload_n hx hb dX11_beside_38 rfl (lv_at hl 0 rfl) ?_
    refine lv_bipush (v := 8) hx hb dX11_beside_39 (by decide) ?_
    refine lv_isub hx hb dX11_beside_41 ?_
    have t_2 : (n0 - 8).toInt = n0.toInt - 8 := g5_isub (a := n0.toInt) (b := 8) (by rfl) (by decide) (by omega) (by omega)
    refine lv_goto (tgt := 46) hx hb dX11_beside_42 (by decide) ?_
    exact W.iret (v := (n0 - 8)) hx hb hr (fun t ht hW => ⟨⟨(n0 - 8), [], rfl, Or.inr (⟨i_1, (by omega), rfl, rfl⟩), by rw [ht]; exact hP, hD⟩, hS.F ht⟩) hS.2.2 dX11_beside_46
theorem cd_X11_beside : Cond.code yX11_beside cX11_beside 2 (some .int) ∈ tblG := tg 824 (by decide +kernel) (by decide +kernel)
theorem gW_X11_beside : GoodIn tblG (wsG yX11_beside cX11_beside 2 (some .int)) := tgi cd_X11_beside
theorem hs_X11_beside : yX11_beside.cls ≠ "java/lang/invoke/MethodHandle" ∧ yX11_beside.cls ≠ "java/lang/invoke/VarHandle" ∧ (parseMethodDescriptor yX11_beside.desc).map (fun d => d.parameters.length) = some 2 := by decide +kernel
theorem st_X11_beside : Cond.static yX11_beside ∈ tblG := tg 823 (by decide +kernel) (by decide +kernel)
theorem fl_X5_74 : Cond.fieldLink RX5 74 "LateGlass$House" "walls" "J" ∈ tblG := tg 155 (by decide +kernel) (by decide +kernel)
theorem dX11_isOn_0 : decode cX11_isOn 0 = .ok (.lload_n 0, 1) := by decide +kernel
theorem dX11_isOn_1 : decode cX11_isOn 1 = .ok (.iload_n 2, 1) := by decide +kernel
theorem dX11_isOn_2 : decode cX11_isOn 2 = .ok (.lushr, 1) := by decide +kernel
theorem dX11_isOn_3 : decode cX11_isOn 3 = .ok (.lconst 1, 1) := by decide +kernel
theorem dX11_isOn_4 : decode cX11_isOn 4 = .ok (.land, 1) := by decide +kernel
theorem dX11_isOn_5 : decode cX11_isOn 5 = .ok (.lconst 0, 1) := by decide +kernel
theorem dX11_isOn_6 : decode cX11_isOn 6 = .ok (.lcmp, 1) := by decide +kernel
theorem dX11_isOn_7 : decode cX11_isOn 7 = .ok (.ifCond .eq 7, 3) := by decide +kernel
theorem dX11_isOn_10 : decode cX11_isOn 10 = .ok (.iconst 1, 1) := by decide +kernel
theorem dX11_isOn_11 : decode cX11_isOn 11 = .ok (.goto 4, 3) := by decide +kernel
theorem dX11_isOn_14 : decode cX11_isOn 14 = .ok (.iconst 0, 1) := by decide +kernel
theorem dX11_isOn_15 : decode cX11_isOn 15 = .ok (.ireturn, 1) := by decide +kernel
set_option maxHeartbeats 4000000 in
set_option maxRecDepth 100000 in
theorem kX11_isOn (l : Launch) (G : g5_G) (sz : Nat) (n0 : Int32) (h_n0 : 0 ≤ n0.toInt ∧ n0.toInt ≤ 55) : Met l yX11_isOn (wsG yX11_isOn cX11_isOn 3 (some .boolean)) ({ frames := 0, cells := 0, slots := 0, locals := 0 }) (va_Pc [.long 0, .int n0] (g5_P G [] sz)) (va_Qi (fun (r : Int32) (u : va_W) => ((r = 0) ∧ (u = []))) (g5_B G (va_A [] sz)) (va_A [] sz)) 0 0 (va_A [] sz) := by
  refine Met.ofW (cc := cX11_isOn) (maxL := 3) (ret := (some .boolean)) (by decide) rfl ?_
  intro p e s m args below meth c s₁ B hml hv
  obtain ⟨rfl, hsz, hP, hK, hD0, hN, hT⟩ := hv
  have hx := B.exec
  have hb := B.bytes
  have hr := B.returns
  have hts : ∀ w ∈ tblG, w.before _ s = true := fun w h => atoms_spec (ws := (wsG yX11_isOn cX11_isOn 3 (some .boolean))) B.pre w (List.mem_cons_of_mem _ h)
  have hown : s.vm.findClass RX11 = some m.cls := findClass_of_methodNamed B.named
  have hlocks := B.notSynchronized
  subst hsz
  have hD := hD0.self (sz := s.heap.size)
  generalize hAe : va_A [] s.heap.size = A at hD hT ⊢
  have hA : ∀ q : Nat, s.heap.size ≤ q → A q := fun q h => by rw [← hAe]; exact Or.inr h
  have hS : va_S A s.heap s.heap [] := va_S.rf
  have hP : va_P G.1 vwCl [] s.heap := hP
  have hl := lv_entry ([.long 0, .int n0]) (n := 3) (Nat.le_of_ble_eq_true rfl)
  rw [lg_entry_eq]
  generalize (lg_sl ([.long 0, .int n0]) ++ List.replicate (3 - (lg_sl ([.long 0, .int n0])).length) Slot.unset).toArray = ls at hl ⊢
  have hl : lv_has ls 3 [(0, .long 0), (2, .int n0)] := hl
  refine lv_lload_n hx hb dX11_isOn_0 rfl (lv_at hl 0 rfl) ?_
  refine lv_iload_n hx hb dX11_isOn_1 rfl (lv_at hl 1 rfl) ?_
  refine lv_lushr (v := 0) hx hb dX11_isOn_2 (g5_sh0 _) ?_
  refine lv_lconst (v := 1) hx hb dX11_isOn_3 (by decide) ?_
  refine lv_land hx hb dX11_isOn_4 ?_
  refine g5_tl (v := 0) (by decide) ?_
  refine lv_lconst (v := 0) hx hb dX11_isOn_5 (by decide) ?_
  refine W.lcmp hx hb dX11_isOn_6 ?_
  refine g5_ti (v := 0) (by decide) ?_
  refine lv_if_eq (tgt := 14) hx hb dX11_isOn_7 (by decide) (fun c_1 => ?_) (fun c_1 => ?_)
  ·
    refine lv_iconst (v := 0) hx hb dX11_isOn_14 (by decide) ?_
    exact W.zret (v := 0) hx hb hr rfl (fun t ht hW => ⟨⟨0, [], rfl, ⟨rfl, rfl⟩, by rw [ht]; exact hP, hD⟩, hS.F ht⟩) hS.2.2 dX11_isOn_15
  ·
    exact absurd c_1 (by decide)
theorem cd_X11_isOn : Cond.code yX11_isOn cX11_isOn 3 (some .boolean) ∈ tblG := tg 516 (by decide +kernel) (by decide +kernel)
theorem gW_X11_isOn : GoodIn tblG (wsG yX11_isOn cX11_isOn 3 (some .boolean)) := tgi cd_X11_isOn
theorem hs_X11_isOn : yX11_isOn.cls ≠ "java/lang/invoke/MethodHandle" ∧ yX11_isOn.cls ≠ "java/lang/invoke/VarHandle" ∧ (parseMethodDescriptor yX11_isOn.desc).map (fun d => d.parameters.length) = some 2 := by decide +kernel
theorem st_X11_isOn : Cond.static yX11_isOn ∈ tblG := tg 515 (by decide +kernel) (by decide +kernel)
theorem fl_X5_81 : Cond.fieldLink RX5 81 "LateGlass$House" "bodyBoards" "[J" ∈ tblG := tg 192 (by decide +kernel) (by decide +kernel)
set_option maxHeartbeats 4000000 in
set_option maxRecDepth 100000 in
theorem k_run0 (l : Launch) (G : g5_G) (a_42 a_1 a_46 a_13 a_9 a_43 a_2 a_3 a_5 a_7 a_11 a_10 : Nat) (sz : Nat) (p_c : Int32) (p_h : Int32) (e_length : Int32) (e_seen : Int32) (e_lastHour : Int32) (e_bright : Int32) (e_went : Int32) (e_met : Int32) (e_cell : Int32) (e_way : Int32) (e_hour : Int32) (f_p : Nat → Int32) (h_p_c : 0 ≤ p_c.toInt ∧ p_c.toInt ≤ 63) (h_p_h : 0 ≤ p_h.toInt ∧ p_h.toInt ≤ 23) : Met l yX5_run (wsG yX5_run cX5_run 9 none) ({ frames := 2, cells := 0, slots := 0, locals := 42 }) (va_Pc [.ref a_42, .int p_c, .int 0, .int p_h, .int 0] (g5_P G [(a_42, .inr (5, [.ref a_1, .ref a_43, .ref a_46, .int e_length, .int e_seen, .int e_lastHour, .int e_bright, .int e_went, .int e_met, .int e_cell, .int e_way, .int e_hour, .int 0])), (a_1, .inr (1, [.long 0, .int 1000, .int (-1), .int (-1), .int 0, .ref a_2, .ref a_3, .ref a_5, .ref a_7, .ref a_9, .ref a_11, .long 0, .ref a_13])), (a_46, .inl (G.2 0, 200, .inl f_p)), (a_13, .inl (G.2 1, 24, .inr (.inl (fun _ => 0)))), (a_9, .inr (6, [.int 8, .int 5, .ref a_10, .int 0]))] sz)) (va_Qv (fun (u : va_W) => (∃ (o_n : Int32) (o_l : Int32) (o_c : Int32) (o_f : Nat → Int32), (o_n.toInt = p_c.toInt / 8) ∧ (0 ≤ o_n.toInt ∧ o_n.toInt ≤ 7) ∧ ((o_n.toInt = 0 → o_l.toInt = -1) ∧ (0 < o_n.toInt → o_l.toInt = p_h.toInt)) ∧ (-1 ≤ o_l.toInt ∧ o_l.toInt ≤ 23) ∧ (0 ≤ o_c.toInt ∧ o_c.toInt ≤ 63) ∧ (∀ j : Nat, (j : Int) < o_n.toInt → (o_f j).toInt = p_h.toInt * 64 + (p_c.toInt - 8 * ((j : Int) + 1))) ∧ (u = [(a_42, .inr (5, [.ref a_1, .ref a_43, .ref a_46, .int o_n, .int (-1), .int o_l, .int 1000000, .int 0, .int e_met, .int o_c, .int 0, .int p_h, .int 0])), (a_1, .inr (1, [.long 0, .int 1000, .int (-1), .int (-1), .int 0, .ref a_2, .ref a_3, .ref a_5, .ref a_7, .ref a_9, .ref a_11, .long 0, .ref a_13])), (a_46, .inl (G.2 0, 200, .inl o_f)), (a_13, .inl (G.2 1, 24, .inr (.inl (fun _ => 0)))), (a_9, .inr (6, [.int 8, .int 5, .ref a_10, .int 0]))]))) (g5_B G (va_A [(a_42, .inr (5, [.ref a_1, .ref a_43, .ref a_46, .int e_length, .int e_seen, .int e_lastHour, .int e_bright, .int e_went, .int e_met, .int e_cell, .int e_way, .int e_hour, .int 0])), (a_1, .inr (1, [.long 0, .int 1000, .int (-1), .int (-1), .int 0, .ref a_2, .ref a_3, .ref a_5, .ref a_7, .ref a_9, .ref a_11, .long 0, .ref a_13])), (a_46, .inl (G.2 0, 200, .inl f_p)), (a_13, .inl (G.2 1, 24, .inr (.inl (fun _ => 0)))), (a_9, .inr (6, [.int 8, .int 5, .ref a_10, .int 0]))] sz)) (va_A [(a_42, .inr (5, [.ref a_1, .ref a_43, .ref a_46, .int e_length, .int e_seen, .int e_lastHour, .int e_bright, .int e_went, .int e_met, .int e_cell, .int e_way, .int e_hour, .int 0])), (a_1, .inr (1, [.long 0, .int 1000, .int (-1), .int (-1), .int 0, .ref a_2, .ref a_3, .ref a_5, .ref a_7, .ref a_9, .ref a_11, .long 0, .ref a_13])), (a_46, .inl (G.2 0, 200, .inl f_p)), (a_13, .inl (G.2 1, 24, .inr (.inl (fun _ => 0)))), (a_9, .inr (6, [.int 8, .int 5, .ref a_10, .int 0]))] sz)) 0 0 (va_A [(a_42, .inr (5, [.ref a_1, .ref a_43, .ref a_46, .int e_length, .int e_seen, .int e_lastHour, .int e_bright, .int e_went, .int e_met, .int e_cell, .int e_way, .int e_hour, .int 0])), (a_1, .inr (1, [.long 0, .int 1000, .int (-1), .int (-1), .int 0, .ref a_2, .ref a_3, .ref a_5, .ref a_7, .ref a_9, .ref a_11, .long 0, .ref a_13])), (a_46, .inl (G.2 0, 200, .inl f_p)), (a_13, .inl (G.2 1, 24, .inr (.inl (fun _ => 0)))), (a_9, .inr (6, [.int 8, .int 5, .ref a_10, .int 0]))] sz) := by
  refine Met.ofW (cc := cX5_run) (maxL := 9) (ret := none) (by decide) rfl ?_
  intro p e s m args below meth c s₁ B hml hv
  obtain ⟨rfl, hsz, hP, hK, hD0, hN, hT⟩ := hv
  have hx := B.exec
  have hb := B.bytes
  have hr := B.returns
  have hts : ∀ w ∈ tblG, w.before _ s = true := fun w h => atoms_spec (ws := (wsG yX5_run cX5_run 9 none)) B.pre w (List.mem_cons_of_mem _ h)
  have hown : s.vm.findClass RX5 = some m.cls := findClass_of_methodNamed B.named
  have hlocks := B.notSynchronized
  subst hsz
  have hD := hD0.self (sz := s.heap.size)
  generalize hAe : va_A [(a_42, .inr (5, [.ref a_1, .ref a_43, .ref a_46, .int e_length, .int e_seen, .int e_lastHour, .int e_bright, .int e_went, .int e_met, .int e_cell, .int e_way, .int e_hour, .int 0])), (a_1, .inr (1, [.long 0, .int 1000, .int (-1), .int (-1), .int 0, .ref a_2, .ref a_3, .ref a_5, .ref a_7, .ref a_9, .ref a_11, .long 0, .ref a_13])), (a_46, .inl (G.2 0, 200, .inl f_p)), (a_13, .inl (G.2 1, 24, .inr (.inl (fun _ => 0)))), (a_9, .inr (6, [.int 8, .int 5, .ref a_10, .int 0]))] s.heap.size = A at hD hT ⊢
  have hA : ∀ q : Nat, s.heap.size ≤ q → A q := fun q h => by rw [← hAe]; exact Or.inr h
  have hS : va_S A s.heap s.heap [] := va_S.rf
  have hP : va_P G.1 vwCl [(a_42, .inr (5, [.ref a_1, .ref a_43, .ref a_46, .int e_length, .int e_seen, .int e_lastHour, .int e_bright, .int e_went, .int e_met, .int e_cell, .int e_way, .int e_hour, .int 0])), (a_1, .inr (1, [.long 0, .int 1000, .int (-1), .int (-1), .int 0, .ref a_2, .ref a_3, .ref a_5, .ref a_7, .ref a_9, .ref a_11, .long 0, .ref a_13])), (a_46, .inl (G.2 0, 200, .inl f_p)), (a_13, .inl (G.2 1, 24, .inr (.inl (fun _ => 0)))), (a_9, .inr (6, [.int 8, .int 5, .ref a_10, .int 0]))] s.heap := hP
  have hl := lv_entry ([.ref a_42, .int p_c, .int 0, .int p_h, .int 0]) (n := 9) (Nat.le_of_ble_eq_true rfl)
  rw [lg_entry_eq]
  generalize (lg_sl ([.ref a_42, .int p_c, .int 0, .int p_h, .int 0]) ++ List.replicate (9 - (lg_sl ([.ref a_42, .int p_c, .int 0, .int p_h, .int 0])).length) Slot.unset).toArray = ls at hl ⊢
  have hl : lv_has ls 9 [(0, .ref a_42), (1, .int p_c), (2, .int 0), (3, .int p_h), (4, .int 0)] := hl
  refine lv_aload_n hx hb dX5_run_0 rfl (lv_at hl 0 rfl) ?_
  refine lv_iload_n hx hb dX5_run_1 rfl (lv_at hl 1 rfl) ?_
  refine va_put (D := G.1) (ci := 5) (v := .int p_c) (ty := .int) (C := RX5) (T := TX5) (N := 13) hx hb hts inG_X5 tyX5 tyX5_ok nmX5 hown hK hP hD hS 0 rfl rfl 9 (by decide) (hts _ fl_X5_26) (fun _ h9 => h9) rfl (by decide +kernel) rfl rfl (Nat.le_of_ble_eq_true rfl) dX5_run_2 (fun H locs hP hD hS => ?_)
  have hP : va_P G.1 vwCl [(a_42, .inr (5, [.ref a_1, .ref a_43, .ref a_46, .int e_length, .int e_seen, .int e_lastHour, .int e_bright, .int e_went, .int e_met, .int p_c, .int e_way, .int e_hour, .int 0])), (a_1, .inr (1, [.long 0, .int 1000, .int (-1), .int (-1), .int 0, .ref a_2, .ref a_3, .ref a_5, .ref a_7, .ref a_9, .ref a_11, .long 0, .ref a_13])), (a_46, .inl (G.2 0, 200, .inl f_p)), (a_13, .inl (G.2 1, 24, .inr (.inl (fun _ => 0)))), (a_9, .inr (6, [.int 8, .int 5, .ref a_10, .int 0]))] H := hP
  have hD : va_D A [(a_42, .inr (5, [.ref a_1, .ref a_43, .ref a_46, .int e_length, .int e_seen, .int e_lastHour, .int e_bright, .int e_went, .int e_met, .int p_c, .int e_way, .int e_hour, .int 0])), (a_1, .inr (1, [.long 0, .int 1000, .int (-1), .int (-1), .int 0, .ref a_2, .ref a_3, .ref a_5, .ref a_7, .ref a_9, .ref a_11, .long 0, .ref a_13])), (a_46, .inl (G.2 0, 200, .inl f_p)), (a_13, .inl (G.2 1, 24, .inr (.inl (fun _ => 0)))), (a_9, .inr (6, [.int 8, .int 5, .ref a_10, .int 0]))] := hD
  refine lv_aload_n hx hb dX5_run_5 rfl (lv_at hl 0 rfl) ?_
  refine lv_iload_n hx hb dX5_run_6 rfl (lv_at hl 2 rfl) ?_
  refine va_put (D := G.1) (ci := 5) (v := .int 0) (ty := .int) (C := RX5) (T := TX5) (N := 13) hx hb hts inG_X5 tyX5 tyX5_ok nmX5 hown hK hP hD hS 0 rfl rfl 10 (by decide) (hts _ fl_X5_30) (fun _ h9 => h9) rfl (by decide +kernel) rfl rfl (Nat.le_of_ble_eq_true rfl) dX5_run_7 (fun H locs hP hD hS => ?_)
  have hP : va_P G.1 vwCl [(a_42, .inr (5, [.ref a_1, .ref a_43, .ref a_46, .int e_length, .int e_seen, .int e_lastHour, .int e_bright, .int e_went, .int e_met, .int p_c, .int 0, .int e_hour, .int 0])), (a_1, .inr (1, [.long 0, .int 1000, .int (-1), .int (-1), .int 0, .ref a_2, .ref a_3, .ref a_5, .ref a_7, .ref a_9, .ref a_11, .long 0, .ref a_13])), (a_46, .inl (G.2 0, 200, .inl f_p)), (a_13, .inl (G.2 1, 24, .inr (.inl (fun _ => 0)))), (a_9, .inr (6, [.int 8, .int 5, .ref a_10, .int 0]))] H := hP
  have hD : va_D A [(a_42, .inr (5, [.ref a_1, .ref a_43, .ref a_46, .int e_length, .int e_seen, .int e_lastHour, .int e_bright, .int e_went, .int e_met, .int p_c, .int 0, .int e_hour, .int 0])), (a_1, .inr (1, [.long 0, .int 1000, .int (-1), .int (-1), .int 0, .ref a_2, .ref a_3, .ref a_5, .ref a_7, .ref a_9, .ref a_11, .long 0, .ref a_13])), (a_46, .inl (G.2 0, 200, .inl f_p)), (a_13, .inl (G.2 1, 24, .inr (.inl (fun _ => 0)))), (a_9, .inr (6, [.int 8, .int 5, .ref a_10, .int 0]))] := hD
  refine lv_aload_n hx hb dX5_run_10 rfl (lv_at hl 0 rfl) ?_
  refine lv_iload_n hx hb dX5_run_11 rfl (lv_at hl 3 rfl) ?_
  refine va_put (D := G.1) (ci := 5) (v := .int p_h) (ty := .int) (C := RX5) (T := TX5) (N := 13) hx hb hts inG_X5 tyX5 tyX5_ok nmX5 hown hK hP hD hS 0 rfl rfl 11 (by decide) (hts _ fl_X5_33) (fun _ h9 => h9) rfl (by decide +kernel) rfl rfl (Nat.le_of_ble_eq_true rfl) dX5_run_12 (fun H locs hP hD hS => ?_)
  have hP : va_P G.1 vwCl [(a_42, .inr (5, [.ref a_1, .ref a_43, .ref a_46, .int e_length, .int e_seen, .int e_lastHour, .int e_bright, .int e_went, .int e_met, .int p_c, .int 0, .int p_h, .int 0])), (a_1, .inr (1, [.long 0, .int 1000, .int (-1), .int (-1), .int 0, .ref a_2, .ref a_3, .ref a_5, .ref a_7, .ref a_9, .ref a_11, .long 0, .ref a_13])), (a_46, .inl (G.2 0, 200, .inl f_p)), (a_13, .inl (G.2 1, 24, .inr (.inl (fun _ => 0)))), (a_9, .inr (6, [.int 8, .int 5, .ref a_10, .int 0]))] H := hP
  have hD : va_D A [(a_42, .inr (5, [.ref a_1, .ref a_43, .ref a_46, .int e_length, .int e_seen, .int e_lastHour, .int e_bright, .int e_went, .int e_met, .int p_c, .int 0, .int p_h, .int 0])), (a_1, .inr (1, [.long 0, .int 1000, .int (-1), .int (-1), .int 0, .ref a_2, .ref a_3, .ref a_5, .ref a_7, .ref a_9, .ref a_11, .long 0, .ref a_13])), (a_46, .inl (G.2 0, 200, .inl f_p)), (a_13, .inl (G.2 1, 24, .inr (.inl (fun _ => 0)))), (a_9, .inr (6, [.int 8, .int 5, .ref a_10, .int 0]))] := hD
  refine lv_aload_n hx hb dX5_run_15 rfl (lv_at hl 0 rfl) ?_
  refine lv_iconst (v := 0) hx hb dX5_run_16 (by decide) ?_
  refine va_put (D := G.1) (ci := 5) (v := .int 0) (ty := .int) (C := RX5) (T := TX5) (N := 13) hx hb hts inG_X5 tyX5 tyX5_ok nmX5 hown hK hP hD hS 0 rfl rfl 3 (by decide) (hts _ fl_X5_36) (fun _ h9 => h9) rfl (by decide +kernel) rfl rfl (Nat.le_of_ble_eq_true rfl) dX5_run_17 (fun H locs hP hD hS => ?_)
  have hP : va_P G.1 vwCl [(a_42, .inr (5, [.ref a_1, .ref a_43, .ref a_46, .int 0, .int e_seen, .int e_lastHour, .int e_bright, .int e_went, .int e_met, .int p_c, .int 0, .int p_h, .int 0])), (a_1, .inr (1, [.long 0, .int 1000, .int (-1), .int (-1), .int 0, .ref a_2, .ref a_3, .ref a_5, .ref a_7, .ref a_9, .ref a_11, .long 0, .ref a_13])), (a_46, .inl (G.2 0, 200, .inl f_p)), (a_13, .inl (G.2 1, 24, .inr (.inl (fun _ => 0)))), (a_9, .inr (6, [.int 8, .int 5, .ref a_10, .int 0]))] H := hP
  have hD : va_D A [(a_42, .inr (5, [.ref a_1, .ref a_43, .ref a_46, .int 0, .int e_seen, .int e_lastHour, .int e_bright, .int e_went, .int e_met, .int p_c, .int 0, .int p_h, .int 0])), (a_1, .inr (1, [.long 0, .int 1000, .int (-1), .int (-1), .int 0, .ref a_2, .ref a_3, .ref a_5, .ref a_7, .ref a_9, .ref a_11, .long 0, .ref a_13])), (a_46, .inl (G.2 0, 200, .inl f_p)), (a_13, .inl (G.2 1, 24, .inr (.inl (fun _ => 0)))), (a_9, .inr (6, [.int 8, .int 5, .ref a_10, .int 0]))] := hD
  refine lv_aload_n hx hb dX5_run_20 rfl (lv_at hl 0 rfl) ?_
  refine lv_iconst (v := (-1)) hx hb dX5_run_21 (by decide) ?_
  refine va_put (D := G.1) (ci := 5) (v := .int (-1)) (ty := .int) (C := RX5) (T := TX5) (N := 13) hx hb hts inG_X5 tyX5 tyX5_ok nmX5 hown hK hP hD hS 0 rfl rfl 4 (by decide) (hts _ fl_X5_39) (fun _ h9 => h9) rfl (by decide +kernel) rfl rfl (Nat.le_of_ble_eq_true rfl) dX5_run_22 (fun H locs hP hD hS => ?_)
  have hP : va_P G.1 vwCl [(a_42, .inr (5, [.ref a_1, .ref a_43, .ref a_46, .int 0, .int (-1), .int e_lastHour, .int e_bright, .int e_went, .int e_met, .int p_c, .int 0, .int p_h, .int 0])), (a_1, .inr (1, [.long 0, .int 1000, .int (-1), .int (-1), .int 0, .ref a_2, .ref a_3, .ref a_5, .ref a_7, .ref a_9, .ref a_11, .long 0, .ref a_13])), (a_46, .inl (G.2 0, 200, .inl f_p)), (a_13, .inl (G.2 1, 24, .inr (.inl (fun _ => 0)))), (a_9, .inr (6, [.int 8, .int 5, .ref a_10, .int 0]))] H := hP
  have hD : va_D A [(a_42, .inr (5, [.ref a_1, .ref a_43, .ref a_46, .int 0, .int (-1), .int e_lastHour, .int e_bright, .int e_went, .int e_met, .int p_c, .int 0, .int p_h, .int 0])), (a_1, .inr (1, [.long 0, .int 1000, .int (-1), .int (-1), .int 0, .ref a_2, .ref a_3, .ref a_5, .ref a_7, .ref a_9, .ref a_11, .long 0, .ref a_13])), (a_46, .inl (G.2 0, 200, .inl f_p)), (a_13, .inl (G.2 1, 24, .inr (.inl (fun _ => 0)))), (a_9, .inr (6, [.int 8, .int 5, .ref a_10, .int 0]))] := hD
  refine lv_aload_n hx hb dX5_run_25 rfl (lv_at hl 0 rfl) ?_
  refine lv_iconst (v := (-1)) hx hb dX5_run_26 (by decide) ?_
  refine va_put (D := G.1) (ci := 5) (v := .int (-1)) (ty := .int) (C := RX5) (T := TX5) (N := 13) hx hb hts inG_X5 tyX5 tyX5_ok nmX5 hown hK hP hD hS 0 rfl rfl 5 (by decide) (hts _ fl_X5_42) (fun _ h9 => h9) rfl (by decide +kernel) rfl rfl (Nat.le_of_ble_eq_true rfl) dX5_run_27 (fun H locs hP hD hS => ?_)
  have hP : va_P G.1 vwCl [(a_42, .inr (5, [.ref a_1, .ref a_43, .ref a_46, .int 0, .int (-1), .int (-1), .int e_bright, .int e_went, .int e_met, .int p_c, .int 0, .int p_h, .int 0])), (a_1, .inr (1, [.long 0, .int 1000, .int (-1), .int (-1), .int 0, .ref a_2, .ref a_3, .ref a_5, .ref a_7, .ref a_9, .ref a_11, .long 0, .ref a_13])), (a_46, .inl (G.2 0, 200, .inl f_p)), (a_13, .inl (G.2 1, 24, .inr (.inl (fun _ => 0)))), (a_9, .inr (6, [.int 8, .int 5, .ref a_10, .int 0]))] H := hP
  have hD : va_D A [(a_42, .inr (5, [.ref a_1, .ref a_43, .ref a_46, .int 0, .int (-1), .int (-1), .int e_bright, .int e_went, .int e_met, .int p_c, .int 0, .int p_h, .int 0])), (a_1, .inr (1, [.long 0, .int 1000, .int (-1), .int (-1), .int 0, .ref a_2, .ref a_3, .ref a_5, .ref a_7, .ref a_9, .ref a_11, .long 0, .ref a_13])), (a_46, .inl (G.2 0, 200, .inl f_p)), (a_13, .inl (G.2 1, 24, .inr (.inl (fun _ => 0)))), (a_9, .inr (6, [.int 8, .int 5, .ref a_10, .int 0]))] := hD
  refine lv_aload_n hx hb dX5_run_30 rfl (lv_at hl 0 rfl) ?_
  refine lv_ldc (v := 1000000) hx hb hown (hts _ ki_X5_45) dX5_run_31 ?_
  refine va_put (D := G.1) (ci := 5) (v := .int 1000000) (ty := .int) (C := RX5) (T := TX5) (N := 13) hx hb hts inG_X5 tyX5 tyX5_ok nmX5 hown hK hP hD hS 0 rfl rfl 6 (by decide) (hts _ fl_X5_46) (fun _ h9 => h9) rfl (by decide +kernel) rfl rfl (Nat.le_of_ble_eq_true rfl) dX5_run_33 (fun H locs hP hD hS => ?_)
  have hP : va_P G.1 vwCl [(a_42, .inr (5, [.ref a_1, .ref a_43, .ref a_46, .int 0, .int (-1), .int (-1), .int 1000000, .int e_went, .int e_met, .int p_c, .int 0, .int p_h, .int 0])), (a_1, .inr (1, [.long 0, .int 1000, .int (-1), .int (-1), .int 0, .ref a_2, .ref a_3, .ref a_5, .ref a_7, .ref a_9, .ref a_11, .long 0, .ref a_13])), (a_46, .inl (G.2 0, 200, .inl f_p)), (a_13, .inl (G.2 1, 24, .inr (.inl (fun _ => 0)))), (a_9, .inr (6, [.int 8, .int 5, .ref a_10, .int 0]))] H := hP
  have hD : va_D A [(a_42, .inr (5, [.ref a_1, .ref a_43, .ref a_46, .int 0, .int (-1), .int (-1), .int 1000000, .int e_went, .int e_met, .int p_c, .int 0, .int p_h, .int 0])), (a_1, .inr (1, [.long 0, .int 1000, .int (-1), .int (-1), .int 0, .ref a_2, .ref a_3, .ref a_5, .ref a_7, .ref a_9, .ref a_11, .long 0, .ref a_13])), (a_46, .inl (G.2 0, 200, .inl f_p)), (a_13, .inl (G.2 1, 24, .inr (.inl (fun _ => 0)))), (a_9, .inr (6, [.int 8, .int 5, .ref a_10, .int 0]))] := hD
  refine lv_aload_n hx hb dX5_run_36 rfl (lv_at hl 0 rfl) ?_
  refine lv_iconst (v := 0) hx hb dX5_run_37 (by decide) ?_
  refine va_put (D := G.1) (ci := 5) (v := .int 0) (ty := .int) (C := RX5) (T := TX5) (N := 13) hx hb hts inG_X5 tyX5 tyX5_ok nmX5 hown hK hP hD hS 0 rfl rfl 7 (by decide) (hts _ fl_X5_49) (fun _ h9 => h9) rfl (by decide +kernel) rfl rfl (Nat.le_of_ble_eq_true rfl) dX5_run_38 (fun H locs hP hD hS => ?_)
  have hP : va_P G.1 vwCl [(a_42, .inr (5, [.ref a_1, .ref a_43, .ref a_46, .int 0, .int (-1), .int (-1), .int 1000000, .int 0, .int e_met, .int p_c, .int 0, .int p_h, .int 0])), (a_1, .inr (1, [.long 0, .int 1000, .int (-1), .int (-1), .int 0, .ref a_2, .ref a_3, .ref a_5, .ref a_7, .ref a_9, .ref a_11, .long 0, .ref a_13])), (a_46, .inl (G.2 0, 200, .inl f_p)), (a_13, .inl (G.2 1, 24, .inr (.inl (fun _ => 0)))), (a_9, .inr (6, [.int 8, .int 5, .ref a_10, .int 0]))] H := hP
  have hD : va_D A [(a_42, .inr (5, [.ref a_1, .ref a_43, .ref a_46, .int 0, .int (-1), .int (-1), .int 1000000, .int 0, .int e_met, .int p_c, .int 0, .int p_h, .int 0])), (a_1, .inr (1, [.long 0, .int 1000, .int (-1), .int (-1), .int 0, .ref a_2, .ref a_3, .ref a_5, .ref a_7, .ref a_9, .ref a_11, .long 0, .ref a_13])), (a_46, .inl (G.2 0, 200, .inl f_p)), (a_13, .inl (G.2 1, 24, .inr (.inl (fun _ => 0)))), (a_9, .inr (6, [.int 8, .int 5, .ref a_10, .int 0]))] := hD
  refine lv_aload_n hx hb dX5_run_41 rfl (lv_at hl 0 rfl) ?_
  refine lv_iload_n hx hb dX5_run_42 rfl (lv_at hl 1 rfl) ?_
  refine lv_iload_n hx hb dX5_run_43 rfl (lv_at hl 2 rfl) ?_
  refine lv_iload_n hx hb dX5_run_44 rfl (lv_at hl 3 rfl) ?_
  have hPc := hP.sub (ws' := []) [] rfl
  have hDc := hD.sub (ws' := []) [] (by decide) rfl
  have hFc := va_free (wc := []) hD hS hA [] rfl
  refine va_calli (va_runSN (As := [.int p_c, .int 0, .int p_h]) (rest := [.ref a_42]) ⟨hx, hb, hml, hown, hts⟩ (kX11_isLook l G H.size p_c p_h ⟨by omega, by omega⟩ ⟨by omega, by omega⟩) ⟨va_cnB 3 hts gW_X11_isLook rfl rfl rfl (hN.1 _ g5_nw_X5_52) (hts _ ini_X11) hs_X11_isLook ⟨Nat.le_of_ble_eq_true rfl, Nat.le_of_ble_eq_true rfl⟩, hts _ st_X11_isLook, trivial⟩ (g5_preS hPc hK hDc hN hT hS hFc) rfl rfl hl.1 rfl (lv_room (Nat.le_of_ble_eq_true rfl)) dX5_run_45 ⟨Nat.le_of_ble_eq_true rfl, Nat.le_of_ble_eq_true rfl⟩) hS (fun q _ h => hFc q h) hFc (fun r u t H1 locs ht hvm hw hB hz1 hk1 hS => ?_)
  obtain ⟨hP1, hD1⟩ := hB
  rw [ht] at hP1
  obtain ⟨i_1, i_2, i_3, i_4, rfl, rfl⟩ := hw
  have hP := g5_same hP hk1
  generalize H1 = H at hP hS ⊢
  refine lv_if_ne (tgt := 55) hx hb dX5_run_48 (by decide) (fun c_5 => ?_) (fun c_5 => ?_)
  ·
    refine lv_iconst (v := 0) hx hb dX5_run_55 (by decide) ?_
    refine va_put (D := G.1) (ci := 5) (v := .int 0) (ty := .boolean) (C := RX5) (T := TX5) (N := 13) hx hb hts inG_X5 tyX5 tyX5_ok nmX5 hown hK hP hD hS 0 rfl rfl 12 (by decide) (hts _ fl_X5_56) (fun _ h9 => h9) rfl (by decide +kernel) rfl rfl (Nat.le_of_ble_eq_true rfl) dX5_run_56 (fun H locs hP hD hS => ?_)
    have hP : va_P G.1 vwCl [(a_42, .inr (5, [.ref a_1, .ref a_43, .ref a_46, .int 0, .int (-1), .int (-1), .int 1000000, .int 0, .int e_met, .int p_c, .int 0, .int p_h, .int 0])), (a_1, .inr (1, [.long 0, .int 1000, .int (-1), .int (-1), .int 0, .ref a_2, .ref a_3, .ref a_5, .ref a_7, .ref a_9, .ref a_11, .long 0, .ref a_13])), (a_46, .inl (G.2 0, 200, .inl f_p)), (a_13, .inl (G.2 1, 24, .inr (.inl (fun _ => 0)))), (a_9, .inr (6, [.int 8, .int 5, .ref a_10, .int 0]))] H := hP
    have hD : va_D A [(a_42, .inr (5, [.ref a_1, .ref a_43, .ref a_46, .int 0, .int (-1), .int (-1), .int 1000000, .int 0, .int e_met, .int p_c, .int 0, .int p_h, .int 0])), (a_1, .inr (1, [.long 0, .int 1000, .int (-1), .int (-1), .int 0, .ref a_2, .ref a_3, .ref a_5, .ref a_7, .ref a_9, .ref a_11, .long 0, .ref a_13])), (a_46, .inl (G.2 0, 200, .inl f_p)), (a_13, .inl (G.2 1, 24, .inr (.inl (fun _ => 0)))), (a_9, .inr (6, [.int 8, .int 5, .ref a_10, .int 0]))] := hD
    refine lv_aload_n hx hb dX5_run_59 rfl (lv_at hl 0 rfl) ?_
    refine va_get (D := G.1) (ci := 5) (v := .ref a_1) (C := RX5) (T := TX5) (N := 13) hx hb hts inG_X5 hown hK hP 0 rfl rfl 0 (by decide) (hts _ fl_X5_22) (fun _ h9 => h9) rfl dX5_run_60 ?_
    refine va_get (D := G.1) (ci := 1) (v := .long 0) (C := RX1) (T := TX1) (N := 13) hx hb hts inG_X1 hown hK hP 1 rfl rfl 11 (by decide) (hts _ fl_X5_60) (fun _ h9 => h9) rfl dX5_run_63 ?_
    refine lv_aload_n hx hb dX5_run_66 rfl (lv_at hl 0 rfl) ?_
    refine lv_iload hx hb dX5_run_67 (lv_at hl 4 rfl) ?_
    have hPc := hP.sub (ws' := [(a_42, .inr (5, [.ref a_1, .ref a_43, .ref a_46, .int 0, .int (-1), .int (-1), .int 1000000, .int 0, .int e_met, .int p_c, .int 0, .int p_h, .int 0]))]) [0] rfl
    have hDc := hD.sub (ws' := [(a_42, .inr (5, [.ref a_1, .ref a_43, .ref a_46, .int 0, .int (-1), .int (-1), .int 1000000, .int 0, .int e_met, .int p_c, .int 0, .int p_h, .int 0]))]) [0] (by decide) rfl
    have hFc := va_free (wc := [(a_42, .inr (5, [.ref a_1, .ref a_43, .ref a_46, .int 0, .int (-1), .int (-1), .int 1000000, .int 0, .int e_met, .int p_c, .int 0, .int p_h, .int 0]))]) hD hS hA [0] rfl
    refine va_calll (va_runV (As := [.int 0]) (rest := [.long 0]) ⟨hx, hb, hml, hown, hts⟩ (kX5_hungBoard l G a_42 a_1 a_43 a_46 H.size e_met p_c p_h ⟨by omega, by omega⟩ ⟨by omega, by omega⟩) (cwV 1 hts gV_X5_66 rfl rfl rfl hv_X5_hungBoard ⟨Nat.le_of_ble_eq_true rfl, Nat.le_of_ble_eq_true rfl⟩) (g5_preV hPc hK hDc hN hT hS hFc (ci := 5) (q0 := 0) rfl rfl) rfl rfl hl.1 rfl (lv_room (Nat.le_of_ble_eq_true rfl)) dX5_run_69 ⟨Nat.le_of_ble_eq_true rfl, Nat.le_of_ble_eq_true rfl⟩) hS (fun q _ h => hFc q h) hFc (fun r u t H1 locs ht hvm hw hB hz1 hk1 hS => ?_)
    obtain ⟨hP1, hD1⟩ := hB
    rw [ht] at hP1
    obtain ⟨rfl, rfl⟩ := hw
    obtain ⟨hP, hD⟩ := va_join (wr := [(a_1, .inr (1, [.long 0, .int 1000, .int (-1), .int (-1), .int 0, .ref a_2, .ref a_3, .ref a_5, .ref a_7, .ref a_9, .ref a_11, .long 0, .ref a_13])), (a_46, .inl (G.2 0, 200, .inl f_p)), (a_13, .inl (G.2 1, 24, .inr (.inl (fun _ => 0)))), (a_9, .inr (6, [.int 8, .int 5, .ref a_10, .int 0]))]) (w1 := [(a_42, .inr (5, [.ref a_1, .ref a_43, .ref a_46, .int 0, .int (-1), .int (-1), .int 1000000, .int 0, .int e_met, .int p_c, .int 0, .int p_h, .int 0]))]) hP hD [0] [1, 2, 3, 4] rfl rfl (by decide) (by decide) hk1 hFc hP1 hD1
    generalize H1 = H at hP hS ⊢
    have hP : va_P G.1 vwCl [(a_1, .inr (1, [.long 0, .int 1000, .int (-1), .int (-1), .int 0, .ref a_2, .ref a_3, .ref a_5, .ref a_7, .ref a_9, .ref a_11, .long 0, .ref a_13])), (a_46, .inl (G.2 0, 200, .inl f_p)), (a_13, .inl (G.2 1, 24, .inr (.inl (fun _ => 0)))), (a_9, .inr (6, [.int 8, .int 5, .ref a_10, .int 0])), (a_42, .inr (5, [.ref a_1, .ref a_43, .ref a_46, .int 0, .int (-1), .int (-1), .int 1000000, .int 0, .int e_met, .int p_c, .int 0, .int p_h, .int 0]))] H := hP
    have hD : va_D A [(a_1, .inr (1, [.long 0, .int 1000, .int (-1), .int (-1), .int 0, .ref a_2, .ref a_3, .ref a_5, .ref a_7, .ref a_9, .ref a_11, .long 0, .ref a_13])), (a_46, .inl (G.2 0, 200, .inl f_p)), (a_13, .inl (G.2 1, 24, .inr (.inl (fun _ => 0)))), (a_9, .inr (6, [.int 8, .int 5, .ref a_10, .int 0])), (a_42, .inr (5, [.ref a_1, .ref a_43, .ref a_46, .int 0, .int (-1), .int (-1), .int 1000000, .int 0, .int e_met, .int p_c, .int 0, .int p_h, .int 0]))] := hD
    refine lv_lor hx hb dX5_run_72 ?_
    refine g5_tl (v := 0) (by decide) ?_
    refine lv_lstore (lv' := [(5, .long 0), (0, .ref a_42), (1, .int p_c), (2, .int 0), (3, .int p_h), (4, .int 0)]) hx hb dX5_run_73 hl (by decide) rfl (fun ls hl => ?_)
    refine lv_iconst (v := 0) hx hb dX5_run_75 (by decide) ?_
    refine lv_istore (lv' := [(7, .int 0), (5, .long 0), (0, .ref a_42), (1, .int p_c), (2, .int 0), (3, .int p_h), (4, .int 0)]) hx hb dX5_run_76 hl (by decide) rfl (fun ls hl => ?_)
    refine g5_loop (α := (Int32) × (Int32) × (Int32) × (Int32) × (Nat → Int32)) (fun (q : (Int32) × (Int32) × (Int32) × (Int32) × (Nat → Int32)) (ls : Array Slot) (H : Heap) (locs : List Loc) => match q with | (k_s, k_n, k_l, k_c, k_f) => lv_has ls 9 [(7, .int k_s), (5, .long 0), (0, .ref a_42), (1, .int p_c), (2, .int 0), (3, .int p_h)] ∧ va_P G.1 vwCl [(a_1, .inr (1, [.long 0, .int 1000, .int (-1), .int (-1), .int 0, .ref a_2, .ref a_3, .ref a_5, .ref a_7, .ref a_9, .ref a_11, .long 0, .ref a_13])), (a_46, .inl (G.2 0, 200, .inl k_f)), (a_13, .inl (G.2 1, 24, .inr (.inl (fun _ => 0)))), (a_9, .inr (6, [.int 8, .int 5, .ref a_10, .int 0])), (a_42, .inr (5, [.ref a_1, .ref a_43, .ref a_46, .int k_n, .int (-1), .int k_l, .int 1000000, .int 0, .int e_met, .int k_c, .int 0, .int p_h, .int 0]))] H ∧ va_D A [(a_1, .inr (1, [.long 0, .int 1000, .int (-1), .int (-1), .int 0, .ref a_2, .ref a_3, .ref a_5, .ref a_7, .ref a_9, .ref a_11, .long 0, .ref a_13])), (a_46, .inl (G.2 0, 200, .inl k_f)), (a_13, .inl (G.2 1, 24, .inr (.inl (fun _ => 0)))), (a_9, .inr (6, [.int 8, .int 5, .ref a_10, .int 0])), (a_42, .inr (5, [.ref a_1, .ref a_43, .ref a_46, .int k_n, .int (-1), .int k_l, .int 1000000, .int 0, .int e_met, .int k_c, .int 0, .int p_h, .int 0]))] ∧ va_S A s.heap H locs ∧ (0 ≤ k_s.toInt ∧ k_s.toInt ≤ 7) ∧ (0 ≤ k_n.toInt ∧ k_n.toInt ≤ 7) ∧ ((-1) ≤ k_l.toInt ∧ k_l.toInt ≤ 23) ∧ (0 ≤ k_c.toInt ∧ k_c.toInt ≤ 63) ∧ (k_n.toInt = k_s.toInt) ∧ (k_s.toInt ≤ p_c.toInt / 8) ∧ (k_c.toInt = p_c.toInt - 8 * k_s.toInt) ∧ ((k_s.toInt = 0 → k_l.toInt = -1) ∧ (0 < k_s.toInt → k_l.toInt = p_h.toInt)) ∧ (∀ j : Nat, (j : Int) < k_s.toInt → (k_f j).toInt = p_h.toInt * 64 + (p_c.toInt - 8 * ((j : Int) + 1)))) (fun (q : (Int32) × (Int32) × (Int32) × (Int32) × (Nat → Int32)) => match q with | (k_s, k_n, k_l, k_c, k_f) => Int.toNat (200 - k_s.toInt)) (0, 0, (-1), p_c, f_p) ⟨lv_sub hl [0, 1, 2, 3, 4, 5] rfl, hP, hD, hS, ⟨by decide, by decide⟩, ⟨by decide, by decide⟩, ⟨by decide, by decide⟩, ⟨by omega, by omega⟩, rfl, by have z0 : (0 : Int32).toInt = 0 := (by decide); omega, by have z0 : (0 : Int32).toInt = 0 := (by decide); omega, ⟨fun _ => by decide, fun h => absurd h (by decide)⟩, fun j h => absurd h (by have z : (0 : Int32).toInt = 0 := (by decide); omega)⟩ ?_
    rintro ⟨k_s, k_n, k_l, k_c, k_f⟩ ls H locs ⟨hl, hP, hD, hS, i_6, i_7, i_8, i_9, i_10, i_11, i_12, i_13, i_14⟩ ih_78_15
    have hl : lv_has ls 9 [(7, .int k_s), (5, .long 0), (0, .ref a_42), (1, .int p_c), (2, .int 0), (3, .int p_h)] := hl
    have i_6 : 0 ≤ k_s.toInt ∧ k_s.toInt ≤ 7 := i_6
    have i_7 : 0 ≤ k_n.toInt ∧ k_n.toInt ≤ 7 := i_7
    have i_8 : (-1) ≤ k_l.toInt ∧ k_l.toInt ≤ 23 := i_8
    have i_9 : 0 ≤ k_c.toInt ∧ k_c.toInt ≤ 63 := i_9
    have i_10 : k_n.toInt = k_s.toInt := i_10
    have i_11 : k_s.toInt ≤ p_c.toInt / 8 := i_11
    have i_12 : k_c.toInt = p_c.toInt - 8 * k_s.toInt := i_12
    have i_13 : (k_s.toInt = 0 → k_l.toInt = -1) ∧ (0 < k_s.toInt → k_l.toInt = p_h.toInt) := i_13
    have i_14 : ∀ j : Nat, (j : Int) < k_s.toInt → (k_f j).toInt = p_h.toInt * 64 + (p_c.toInt - 8 * ((j : Int) + 1)) := i_14
    have hP : va_P G.1 vwCl [(a_1, .inr (1, [.long 0, .int 1000, .int (-1), .int (-1), .int 0, .ref a_2, .ref a_3, .ref a_5, .ref a_7, .ref a_9, .ref a_11, .long 0, .ref a_13])), (a_46, .inl (G.2 0, 200, .inl k_f)), (a_13, .inl (G.2 1, 24, .inr (.inl (fun _ => 0)))), (a_9, .inr (6, [.int 8, .int 5, .ref a_10, .int 0])), (a_42, .inr (5, [.ref a_1, .ref a_43, .ref a_46, .int k_n, .int (-1), .int k_l, .int 1000000, .int 0, .int e_met, .int k_c, .int 0, .int p_h, .int 0]))] H := hP
    have hD : va_D A [(a_1, .inr (1, [.long 0, .int 1000, .int (-1), .int (-1), .int 0, .ref a_2, .ref a_3, .ref a_5, .ref a_7, .ref a_9, .ref a_11, .long 0, .ref a_13])), (a_46, .inl (G.2 0, 200, .inl k_f)), (a_13, .inl (G.2 1, 24, .inr (.inl (fun _ => 0)))), (a_9, .inr (6, [.int 8, .int 5, .ref a_10, .int 0])), (a_42, .inr (5, [.ref a_1, .ref a_43, .ref a_46, .int k_n, .int (-1), .int k_l, .int 1000000, .int 0, .int e_met, .int k_c, .int 0, .int p_h, .int 0]))] := hD
    refine lv_iload hx hb dX5_run_78 (lv_at hl 0 rfl) ?_
    refine lv_sipush (v := 200) hx hb dX5_run_80 (by decide) ?_
    refine lv_icmp_ge (tgt := 227) hx hb dX5_run_83 (by decide) (fun c_16 => ?_) (fun c_16 => ?_)
    ·
      have i_16 : k_s.toInt ≥ 200 := by have z := g5_ge (a := k_s.toInt) (b := 200) (by rfl) (by decide) c_16; omega
      omega
    ·
      have i_16 : k_s.toInt < 200 := by have z := g5_geN (a := k_s.toInt) (b := 200) (by rfl) (by decide) c_16; omega
      refine lv_aload_n hx hb dX5_run_86 rfl (lv_at hl 2 rfl) ?_
      refine va_get (D := G.1) (ci := 5) (v := .int 0) (C := RX5) (T := TX5) (N := 13) hx hb hts inG_X5 hown hK hP 4 rfl rfl 12 (by decide) (hts _ fl_X5_56) (fun _ h9 => h9) rfl dX5_run_87 ?_
      refine lv_if_ne (tgt := 227) hx hb dX5_run_90 (by decide) (fun c_17 => ?_) (fun c_17 => ?_)
      ·
        exact absurd c_17 (by decide)
      ·
        refine lv_aload_n hx hb dX5_run_93 rfl (lv_at hl 2 rfl) ?_
        refine va_get (D := G.1) (ci := 5) (v := .int k_c) (C := RX5) (T := TX5) (N := 13) hx hb hts inG_X5 hown hK hP 4 rfl rfl 9 (by decide) (hts _ fl_X5_26) (fun _ h9 => h9) rfl dX5_run_94 ?_
        refine lv_aload_n hx hb dX5_run_97 rfl (lv_at hl 2 rfl) ?_
        refine va_get (D := G.1) (ci := 5) (v := .int 0) (C := RX5) (T := TX5) (N := 13) hx hb hts inG_X5 hown hK hP 4 rfl rfl 10 (by decide) (hts _ fl_X5_30) (fun _ h9 => h9) rfl dX5_run_98 ?_
        have hPc := hP.sub (ws' := []) [] rfl
        have hDc := hD.sub (ws' := []) [] (by decide) rfl
        have hFc := va_free (wc := []) hD hS hA [] rfl
        refine va_calli (va_runSN (As := [.int k_c, .int 0]) (rest := []) ⟨hx, hb, hml, hown, hts⟩ (kX11_beside l G H.size k_c ⟨by omega, by omega⟩) ⟨va_cnB 2 hts gW_X11_beside rfl rfl rfl (hN.1 _ g5_nw_X5_70) (hts _ ini_X11) hs_X11_beside ⟨Nat.le_of_ble_eq_true rfl, Nat.le_of_ble_eq_true rfl⟩, hts _ st_X11_beside, trivial⟩ (g5_preS hPc hK hDc hN hT hS hFc) rfl rfl hl.1 rfl (lv_room (Nat.le_of_ble_eq_true rfl)) dX5_run_101 ⟨Nat.le_of_ble_eq_true rfl, Nat.le_of_ble_eq_true rfl⟩) hS (fun q _ h => hFc q h) hFc (fun r u t H1 locs ht hvm hw hB hz1 hk1 hS => ?_)
        obtain ⟨hP1, hD1⟩ := hB
        rw [ht] at hP1
        rcases hw with ⟨i_18, rfl, rfl⟩ | ⟨i_19, i_20, rfl, rfl⟩
        ·
          have hP := g5_same hP hk1
          generalize H1 = H at hP hS ⊢
          refine lv_istore (lv' := [(8, .int (-1)), (7, .int k_s), (5, .long 0), (0, .ref a_42), (1, .int p_c), (2, .int 0), (3, .int p_h)]) hx hb dX5_run_104 hl (by decide) rfl (fun ls hl => ?_)
          refine lv_iload hx hb dX5_run_106 (lv_at hl 0 rfl) ?_
          refine lv_iconst (v := (-1)) hx hb dX5_run_108 (by decide) ?_
          refine lv_icmp_eq (tgt := 127) hx hb dX5_run_109 (by decide) (fun c_21 => ?_) (fun c_21 => ?_)
          ·
            exact W.vret hx hb hr (fun t ht hW => ⟨⟨[(a_42, .inr (5, [.ref a_1, .ref a_43, .ref a_46, .int k_n, .int (-1), .int k_l, .int 1000000, .int 0, .int e_met, .int k_c, .int 0, .int p_h, .int 0])), (a_1, .inr (1, [.long 0, .int 1000, .int (-1), .int (-1), .int 0, .ref a_2, .ref a_3, .ref a_5, .ref a_7, .ref a_9, .ref a_11, .long 0, .ref a_13])), (a_46, .inl (G.2 0, 200, .inl k_f)), (a_13, .inl (G.2 1, 24, .inr (.inl (fun _ => 0)))), (a_9, .inr (6, [.int 8, .int 5, .ref a_10, .int 0]))], rfl, ⟨k_n, k_l, k_c, k_f, by omega, ⟨by omega, by omega⟩, ⟨fun h => i_13.1 (by omega), fun h => i_13.2 (by omega)⟩, ⟨by omega, by omega⟩, ⟨by omega, by omega⟩, fun j h => i_14 j (by omega), rfl⟩, by rw [ht]; exact hP.sub [4, 0, 1, 2, 3] rfl, hD.sub [4, 0, 1, 2, 3] (by decide) rfl⟩, hS.F ht⟩) hS.2.2 dX5_run_127
          ·
            exact absurd c_21 (by decide)
        ·
          have hP := g5_same hP hk1
          generalize H1 = H at hP hS ⊢
          refine lv_istore (lv' := [(8, .int (k_c - 8)), (7, .int k_s), (5, .long 0), (0, .ref a_42), (1, .int p_c), (2, .int 0), (3, .int p_h)]) hx hb dX5_run_104 hl (by decide) rfl (fun ls hl => ?_)
          refine lv_iload hx hb dX5_run_106 (lv_at hl 0 rfl) ?_
          refine lv_iconst (v := (-1)) hx hb dX5_run_108 (by decide) ?_
          refine lv_icmp_eq (tgt := 127) hx hb dX5_run_109 (by decide) (fun c_22 => ?_) (fun c_22 => ?_)
          ·
            have i_22 : (k_c - 8).toInt = (-1) := by have z := g5_eq (a := (k_c - 8).toInt) (b := (-1)) (by rfl) (by decide) c_22; omega
            omega
          ·
            have i_22 : (k_c - 8).toInt ≠ (-1) := by have z := g5_eqN (a := (k_c - 8).toInt) (b := (-1)) (by rfl) (by decide) c_22; omega
            refine lv_aload_n hx hb dX5_run_112 rfl (lv_at hl 3 rfl) ?_
            refine va_get (D := G.1) (ci := 5) (v := .ref a_1) (C := RX5) (T := TX5) (N := 13) hx hb hts inG_X5 hown hK hP 4 rfl rfl 0 (by decide) (hts _ fl_X5_22) (fun _ h9 => h9) rfl dX5_run_113 ?_
            refine va_get (D := G.1) (ci := 1) (v := .long 0) (C := RX1) (T := TX1) (N := 13) hx hb hts inG_X1 hown hK hP 0 rfl rfl 0 (by decide) (hts _ fl_X5_74) (fun _ h9 => h9) rfl dX5_run_116 ?_
            refine lv_iload hx hb dX5_run_119 (lv_at hl 0 rfl) ?_
            have hPc := hP.sub (ws' := []) [] rfl
            have hDc := hD.sub (ws' := []) [] (by decide) rfl
            have hFc := va_free (wc := []) hD hS hA [] rfl
            refine va_calli (va_runSN (As := [.long 0, .int (k_c - 8)]) (rest := []) ⟨hx, hb, hml, hown, hts⟩ (kX11_isOn l G H.size (k_c - 8) ⟨by omega, by omega⟩) ⟨va_cnB 2 hts gW_X11_isOn rfl rfl rfl (hN.1 _ g5_nw_X5_77) (hts _ ini_X11) hs_X11_isOn ⟨Nat.le_of_ble_eq_true rfl, Nat.le_of_ble_eq_true rfl⟩, hts _ st_X11_isOn, trivial⟩ (g5_preS hPc hK hDc hN hT hS hFc) rfl rfl hl.1 rfl (lv_room (Nat.le_of_ble_eq_true rfl)) dX5_run_121 ⟨Nat.le_of_ble_eq_true rfl, Nat.le_of_ble_eq_true rfl⟩) hS (fun q _ h => hFc q h) hFc (fun r u t H1 locs ht hvm hw hB hz1 hk1 hS => ?_)
            obtain ⟨hP1, hD1⟩ := hB
            rw [ht] at hP1
            obtain ⟨rfl, rfl⟩ := hw
            have hP := g5_same hP hk1
            generalize H1 = H at hP hS ⊢
            refine lv_if_eq (tgt := 128) hx hb dX5_run_124 (by decide) (fun c_23 => ?_) (fun c_23 => ?_)
            ·
              refine lv_aload_n hx hb dX5_run_128 rfl (lv_at hl 3 rfl) ?_
              refine lv_iload hx hb dX5_run_129 (lv_at hl 0 rfl) ?_
              refine va_put (D := G.1) (ci := 5) (v := .int (k_c - 8)) (ty := .int) (C := RX5) (T := TX5) (N := 13) hx hb hts inG_X5 tyX5 tyX5_ok nmX5 hown hK hP hD hS 4 rfl rfl 9 (by decide) (hts _ fl_X5_26) (fun _ h9 => h9) rfl (by decide +kernel) rfl rfl (Nat.le_of_ble_eq_true rfl) dX5_run_131 (fun H locs hP hD hS => ?_)
              have hP : va_P G.1 vwCl [(a_1, .inr (1, [.long 0, .int 1000, .int (-1), .int (-1), .int 0, .ref a_2, .ref a_3, .ref a_5, .ref a_7, .ref a_9, .ref a_11, .long 0, .ref a_13])), (a_46, .inl (G.2 0, 200, .inl k_f)), (a_13, .inl (G.2 1, 24, .inr (.inl (fun _ => 0)))), (a_9, .inr (6, [.int 8, .int 5, .ref a_10, .int 0])), (a_42, .inr (5, [.ref a_1, .ref a_43, .ref a_46, .int k_n, .int (-1), .int k_l, .int 1000000, .int 0, .int e_met, .int (k_c - 8), .int 0, .int p_h, .int 0]))] H := hP
              have hD : va_D A [(a_1, .inr (1, [.long 0, .int 1000, .int (-1), .int (-1), .int 0, .ref a_2, .ref a_3, .ref a_5, .ref a_7, .ref a_9, .ref a_11, .long 0, .ref a_13])), (a_46, .inl (G.2 0, 200, .inl k_f)), (a_13, .inl (G.2 1, 24, .inr (.inl (fun _ => 0)))), (a_9, .inr (6, [.int 8, .int 5, .ref a_10, .int 0])), (a_42, .inr (5, [.ref a_1, .ref a_43, .ref a_46, .int k_n, .int (-1), .int k_l, .int 1000000, .int 0, .int e_met, .int (k_c - 8), .int 0, .int p_h, .int 0]))] := hD
              refine lv_aload_n hx hb dX5_run_134 rfl (lv_at hl 3 rfl) ?_
              refine lv_aload_n hx hb dX5_run_135 rfl (lv_at hl 3 rfl) ?_
              refine va_get (D := G.1) (ci := 5) (v := .int p_h) (C := RX5) (T := TX5) (N := 13) hx hb hts inG_X5 hown hK hP 4 rfl rfl 11 (by decide) (hts _ fl_X5_33) (fun _ h9 => h9) rfl dX5_run_136 ?_
              refine va_put (D := G.1) (ci := 5) (v := .int p_h) (ty := .int) (C := RX5) (T := TX5) (N := 13) hx hb hts inG_X5 tyX5 tyX5_ok nmX5 hown hK hP hD hS 4 rfl rfl 5 (by decide) (hts _ fl_X5_42) (fun _ h9 => h9) rfl (by decide +kernel) rfl rfl (Nat.le_of_ble_eq_true rfl) dX5_run_139 (fun H locs hP hD hS => ?_)
              have hP : va_P G.1 vwCl [(a_1, .inr (1, [.long 0, .int 1000, .int (-1), .int (-1), .int 0, .ref a_2, .ref a_3, .ref a_5, .ref a_7, .ref a_9, .ref a_11, .long 0, .ref a_13])), (a_46, .inl (G.2 0, 200, .inl k_f)), (a_13, .inl (G.2 1, 24, .inr (.inl (fun _ => 0)))), (a_9, .inr (6, [.int 8, .int 5, .ref a_10, .int 0])), (a_42, .inr (5, [.ref a_1, .ref a_43, .ref a_46, .int k_n, .int (-1), .int p_h, .int 1000000, .int 0, .int e_met, .int (k_c - 8), .int 0, .int p_h, .int 0]))] H := hP
              have hD : va_D A [(a_1, .inr (1, [.long 0, .int 1000, .int (-1), .int (-1), .int 0, .ref a_2, .ref a_3, .ref a_5, .ref a_7, .ref a_9, .ref a_11, .long 0, .ref a_13])), (a_46, .inl (G.2 0, 200, .inl k_f)), (a_13, .inl (G.2 1, 24, .inr (.inl (fun _ => 0)))), (a_9, .inr (6, [.int 8, .int 5, .ref a_10, .int 0])), (a_42, .inr (5, [.ref a_1, .ref a_43, .ref a_46, .int k_n, .int (-1), .int p_h, .int 1000000, .int 0, .int e_met, .int (k_c - 8), .int 0, .int p_h, .int 0]))] := hD
              refine lv_aload_n hx hb dX5_run_142 rfl (lv_at hl 3 rfl) ?_
              refine va_get (D := G.1) (ci := 5) (v := .ref a_46) (C := RX5) (T := TX5) (N := 13) hx hb hts inG_X5 hown hK hP 4 rfl rfl 2 (by decide) (hts _ fl_X5_18) (fun _ h9 => h9) rfl dX5_run_143 ?_
              refine lv_iload hx hb dX5_run_146 (lv_at hl 1 rfl) ?_
              refine lv_aload_n hx hb dX5_run_148 rfl (lv_at hl 3 rfl) ?_
              refine va_get (D := G.1) (ci := 5) (v := .int p_h) (C := RX5) (T := TX5) (N := 13) hx hb hts inG_X5 hown hK hP 4 rfl rfl 11 (by decide) (hts _ fl_X5_33) (fun _ h9 => h9) rfl dX5_run_149 ?_
              refine lv_bipush (v := 64) hx hb dX5_run_152 (by decide) ?_
              refine lv_imul hx hb dX5_run_154 ?_
              have t_24 : (p_h * 64).toInt = p_h.toInt * 64 := g5_imul (a := p_h.toInt) (b := 64) (by rfl) (by decide) (by omega) (by omega)
              refine lv_aload_n hx hb dX5_run_155 rfl (lv_at hl 3 rfl) ?_
              refine va_get (D := G.1) (ci := 5) (v := .int (k_c - 8)) (C := RX5) (T := TX5) (N := 13) hx hb hts inG_X5 hown hK hP 4 rfl rfl 9 (by decide) (hts _ fl_X5_26) (fun _ h9 => h9) rfl dX5_run_156 ?_
              refine lv_iadd hx hb dX5_run_159 ?_
              have t_25 : ((p_h * 64) + (k_c - 8)).toInt = (p_h * 64).toInt + (k_c - 8).toInt := g5_iadd (a := (p_h * 64).toInt) (b := (k_c - 8).toInt) (by rfl) (by rfl) (by omega) (by omega)
              refine va_iast hx hb hK hP hD hS 1 0 rfl rfl (i := k_s) (x := ((p_h * 64) + (k_c - 8))) (vp_in_iff.mpr ⟨by omega, by omega⟩) dX5_run_160 (fun H locs hP hD hS => ?_)
              have hP : va_P G.1 vwCl [(a_1, .inr (1, [.long 0, .int 1000, .int (-1), .int (-1), .int 0, .ref a_2, .ref a_3, .ref a_5, .ref a_7, .ref a_9, .ref a_11, .long 0, .ref a_13])), (a_46, .inl (G.2 0, 200, .inl (upd k_f k_s.toNatClampNeg ((p_h * 64) + (k_c - 8))))), (a_13, .inl (G.2 1, 24, .inr (.inl (fun _ => 0)))), (a_9, .inr (6, [.int 8, .int 5, .ref a_10, .int 0])), (a_42, .inr (5, [.ref a_1, .ref a_43, .ref a_46, .int k_n, .int (-1), .int p_h, .int 1000000, .int 0, .int e_met, .int (k_c - 8), .int 0, .int p_h, .int 0]))] H := hP
              have hD : va_D A [(a_1, .inr (1, [.long 0, .int 1000, .int (-1), .int (-1), .int 0, .ref a_2, .ref a_3, .ref a_5, .ref a_7, .ref a_9, .ref a_11, .long 0, .ref a_13])), (a_46, .inl (G.2 0, 200, .inl (upd k_f k_s.toNatClampNeg ((p_h * 64) + (k_c - 8))))), (a_13, .inl (G.2 1, 24, .inr (.inl (fun _ => 0)))), (a_9, .inr (6, [.int 8, .int 5, .ref a_10, .int 0])), (a_42, .inr (5, [.ref a_1, .ref a_43, .ref a_46, .int k_n, .int (-1), .int p_h, .int 1000000, .int 0, .int e_met, .int (k_c - 8), .int 0, .int p_h, .int 0]))] := hD
              refine lv_aload_n hx hb dX5_run_161 rfl (lv_at hl 3 rfl) ?_
              refine lv_iload hx hb dX5_run_162 (lv_at hl 1 rfl) ?_
              refine lv_iconst (v := 1) hx hb dX5_run_164 (by decide) ?_
              refine lv_iadd hx hb dX5_run_165 ?_
              have t_26 : (k_s + 1).toInt = k_s.toInt + 1 := g5_iadd (a := k_s.toInt) (b := 1) (by rfl) (by decide) (by omega) (by omega)
              refine va_put (D := G.1) (ci := 5) (v := .int (k_s + 1)) (ty := .int) (C := RX5) (T := TX5) (N := 13) hx hb hts inG_X5 tyX5 tyX5_ok nmX5 hown hK hP hD hS 4 rfl rfl 3 (by decide) (hts _ fl_X5_36) (fun _ h9 => h9) rfl (by decide +kernel) rfl rfl (Nat.le_of_ble_eq_true rfl) dX5_run_166 (fun H locs hP hD hS => ?_)
              have hP : va_P G.1 vwCl [(a_1, .inr (1, [.long 0, .int 1000, .int (-1), .int (-1), .int 0, .ref a_2, .ref a_3, .ref a_5, .ref a_7, .ref a_9, .ref a_11, .long 0, .ref a_13])), (a_46, .inl (G.2 0, 200, .inl (upd k_f k_s.toNatClampNeg ((p_h * 64) + (k_c - 8))))), (a_13, .inl (G.2 1, 24, .inr (.inl (fun _ => 0)))), (a_9, .inr (6, [.int 8, .int 5, .ref a_10, .int 0])), (a_42, .inr (5, [.ref a_1, .ref a_43, .ref a_46, .int (k_s + 1), .int (-1), .int p_h, .int 1000000, .int 0, .int e_met, .int (k_c - 8), .int 0, .int p_h, .int 0]))] H := hP
              have hD : va_D A [(a_1, .inr (1, [.long 0, .int 1000, .int (-1), .int (-1), .int 0, .ref a_2, .ref a_3, .ref a_5, .ref a_7, .ref a_9, .ref a_11, .long 0, .ref a_13])), (a_46, .inl (G.2 0, 200, .inl (upd k_f k_s.toNatClampNeg ((p_h * 64) + (k_c - 8))))), (a_13, .inl (G.2 1, 24, .inr (.inl (fun _ => 0)))), (a_9, .inr (6, [.int 8, .int 5, .ref a_10, .int 0])), (a_42, .inr (5, [.ref a_1, .ref a_43, .ref a_46, .int (k_s + 1), .int (-1), .int p_h, .int 1000000, .int 0, .int e_met, .int (k_c - 8), .int 0, .int p_h, .int 0]))] := hD
              refine lv_aload_n hx hb dX5_run_169 rfl (lv_at hl 3 rfl) ?_
              refine va_get (D := G.1) (ci := 5) (v := .ref a_1) (C := RX5) (T := TX5) (N := 13) hx hb hts inG_X5 hown hK hP 4 rfl rfl 0 (by decide) (hts _ fl_X5_22) (fun _ h9 => h9) rfl dX5_run_170 ?_
              refine va_get (D := G.1) (ci := 1) (v := .ref a_13) (C := RX1) (T := TX1) (N := 13) hx hb hts inG_X1 hown hK hP 0 rfl rfl 12 (by decide) (hts _ fl_X5_81) (fun _ h9 => h9) rfl dX5_run_173 ?_
              refine lv_aload_n hx hb dX5_run_176 rfl (lv_at hl 3 rfl) ?_
              refine va_get (D := G.1) (ci := 5) (v := .int p_h) (C := RX5) (T := TX5) (N := 13) hx hb hts inG_X5 hown hK hP 4 rfl rfl 11 (by decide) (hts _ fl_X5_33) (fun _ h9 => h9) rfl dX5_run_177 ?_
              refine va_lald hx hb hK hP 2 1 rfl rfl (i := p_h) (vp_in_iff.mpr ⟨by omega, by omega⟩) dX5_run_180 ?_
              refine g5_tl (v := 0) rfl ?_
              refine lv_lload hx hb dX5_run_181 (lv_at hl 2 rfl) ?_
              refine lv_lor hx hb dX5_run_183 ?_
              refine g5_tl (v := 0) (by decide) ?_
              refine lv_aload_n hx hb dX5_run_184 rfl (lv_at hl 3 rfl) ?_
              refine va_get (D := G.1) (ci := 5) (v := .int (k_c - 8)) (C := RX5) (T := TX5) (N := 13) hx hb hts inG_X5 hown hK hP 4 rfl rfl 9 (by decide) (hts _ fl_X5_26) (fun _ h9 => h9) rfl dX5_run_185 ?_
              have hPc := hP.sub (ws' := []) [] rfl
              have hDc := hD.sub (ws' := []) [] (by decide) rfl
              have hFc := va_free (wc := []) hD hS hA [] rfl
              refine va_calli (va_runSN (As := [.long 0, .int (k_c - 8)]) (rest := []) ⟨hx, hb, hml, hown, hts⟩ (kX11_isOn l G H.size (k_c - 8) ⟨by omega, by omega⟩) ⟨va_cnB 2 hts gW_X11_isOn rfl rfl rfl (hN.1 _ g5_nw_X5_77) (hts _ ini_X11) hs_X11_isOn ⟨Nat.le_of_ble_eq_true rfl, Nat.le_of_ble_eq_true rfl⟩, hts _ st_X11_isOn, trivial⟩ (g5_preS hPc hK hDc hN hT hS hFc) rfl rfl hl.1 rfl (lv_room (Nat.le_of_ble_eq_true rfl)) dX5_run_188 ⟨Nat.le_of_ble_eq_true rfl, Nat.le_of_ble_eq_true rfl⟩) hS (fun q _ h => hFc q h) hFc (fun r u t H1 locs ht hvm hw hB hz1 hk1 hS => ?_)
              obtain ⟨hP1, hD1⟩ := hB
              rw [ht] at hP1
              obtain ⟨rfl, rfl⟩ := hw
              have hP := g5_same hP hk1
              generalize H1 = H at hP hS ⊢
              refine lv_if_eq (tgt := 221) hx hb dX5_run_191 (by decide) (fun c_27 => ?_) (fun c_27 => ?_)
              ·
                refine lv_iinc (v := (k_s + 1)) (lv' := [(7, .int (k_s + 1)), (8, .int (k_c - 8)), (5, .long 0), (0, .ref a_42), (1, .int p_c), (2, .int 0), (3, .int p_h)]) hx hb dX5_run_221 hl (k := 1) rfl rfl (by decide) rfl (fun ls hl => ?_)
                have t_28 : (k_s + 1).toInt = k_s.toInt + 1 := g5_iadd (a := k_s.toInt) (b := 1) rfl (by decide) (by omega) (by omega)
                refine lv_goto (tgt := 78) hx hb dX5_run_224 (by decide) ?_
                exact ih_78_15 ((k_s + 1), (k_s + 1), p_h, (k_c - 8), (upd k_f k_s.toNatClampNeg ((p_h * 64) + (k_c - 8)))) ls H locs (show Int.toNat (200 - (k_s + 1).toInt) < Int.toNat (200 - k_s.toInt) by omega) ⟨lv_sub hl [0, 2, 3, 4, 5, 6] rfl, hP, hD, hS, ⟨by omega, by omega⟩, ⟨by omega, by omega⟩, ⟨by omega, by omega⟩, ⟨by omega, by omega⟩, by omega, by omega, by omega, ⟨fun h => by omega, fun _ => rfl⟩, g5_pts (fun j => p_h.toInt * 64 + (p_c.toInt - 8 * (j + 1))) i_14 (by omega) (by omega) (by show _ = p_h.toInt * 64 + (p_c.toInt - 8 * (k_s.toInt + 1)); omega)⟩
              ·
                exact absurd c_27 (by decide)
            ·
              exact absurd c_23 (by decide)
  ·
    exact absurd c_5 (by decide)
set_option maxHeartbeats 4000000 in
set_option maxRecDepth 100000 in
theorem kX11_isLook_2 (l : Launch) (G : g5_G) (sz : Nat) (n0 : Int32) (n1 : Int32) (h_n0 : 0 ≤ n0.toInt ∧ n0.toInt ≤ 63) (h_n1 : 0 ≤ n1.toInt ∧ n1.toInt ≤ 23) : Met l yX11_isLook (wsG yX11_isLook cX11_isLook 3 (some .boolean)) ({ frames := 1, cells := 0, slots := 0, locals := 20 }) (va_Pc [.int n0, .int 1, .int n1] (g5_P G [] sz)) (va_Qi (fun (r : Int32) (u : va_W) => ((n0.toInt ≥ 0) ∧ (n0.toInt < 64) ∧ (n1.toInt ≥ 0) ∧ (n1.toInt < 24) ∧ (r = 1) ∧ (u = []))) (g5_B G (va_A [] sz)) (va_A [] sz)) 0 0 (va_A [] sz) := by
  refine Met.ofW (cc := cX11_isLook) (maxL := 3) (ret := (some .boolean)) (by decide) rfl ?_
  intro p e s m args below meth c s₁ B hml hv
  obtain ⟨rfl, hsz, hP, hK, hD0, hN, hT⟩ := hv
  have hx := B.exec
  have hb := B.bytes
  have hr := B.returns
  have hts : ∀ w ∈ tblG, w.before _ s = true := fun w h => atoms_spec (ws := (wsG yX11_isLook cX11_isLook 3 (some .boolean))) B.pre w (List.mem_cons_of_mem _ h)
  have hown : s.vm.findClass RX11 = some m.cls := findClass_of_methodNamed B.named
  have hlocks := B.notSynchronized
  subst hsz
  have hD := hD0.self (sz := s.heap.size)
  generalize hAe : va_A [] s.heap.size = A at hD hT ⊢
  have hA : ∀ q : Nat, s.heap.size ≤ q → A q := fun q h => by rw [← hAe]; exact Or.inr h
  have hS : va_S A s.heap s.heap [] := va_S.rf
  have hP : va_P G.1 vwCl [] s.heap := hP
  have hl := lv_entry ([.int n0, .int 1, .int n1]) (n := 3) (Nat.le_of_ble_eq_true rfl)
  rw [lg_entry_eq]
  generalize (lg_sl ([.int n0, .int 1, .int n1]) ++ List.replicate (3 - (lg_sl ([.int n0, .int 1, .int n1])).length) Slot.unset).toArray = ls at hl ⊢
  have hl : lv_has ls 3 [(0, .int n0), (1, .int 1), (2, .int n1)] := hl
  refine lv_iload_n hx hb dX11_isLook_0 rfl (lv_at hl 0 rfl) ?_
  have hPc := hP.sub (ws' := []) [] rfl
  have hDc := hD.sub (ws' := []) [] (by decide) rfl
  have hFc := va_free (wc := []) hD hS hA [] rfl
  refine va_calli (va_runS (As := [.int n0]) (rest := []) ⟨hx, hb, hml, hown, hts⟩ (kX11_isCell l G s.heap.size n0 ⟨by omega, by omega⟩) (va_cwS 1 hts gS_X11_97 rfl rfl rfl hs_X11_isCell ⟨Nat.le_of_ble_eq_true rfl, Nat.le_of_ble_eq_true rfl⟩) (g5_preS hPc hK hDc hN hT hS hFc) rfl rfl hl.1 rfl (lv_room (Nat.le_of_ble_eq_true rfl)) dX11_isLook_1 ⟨Nat.le_of_ble_eq_true rfl, Nat.le_of_ble_eq_true rfl⟩) hS (fun q _ h => hFc q h) hFc (fun r u t H1 locs ht hvm hw hB hz1 hk1 hS => ?_)
  obtain ⟨hP1, hD1⟩ := hB
  rw [ht] at hP1
  obtain ⟨i_1, i_2, rfl, rfl⟩ := hw
  have hP := g5_same hP hk1
  generalize H1 = H at hP hS ⊢
  refine lv_if_eq (tgt := 27) hx hb dX11_isLook_4 (by decide) (fun c_3 => ?_) (fun c_3 => ?_)
  ·
    exact absurd c_3 (by decide)
  ·
    refine lv_iload_n hx hb dX11_isLook_7 rfl (lv_at hl 1 rfl) ?_
    refine lv_if_lt (tgt := 27) hx hb dX11_isLook_8 (by decide) (fun c_4 => ?_) (fun c_4 => ?_)
    ·
      exact absurd c_4 (by decide)
    ·
      refine lv_iload_n hx hb dX11_isLook_11 rfl (lv_at hl 1 rfl) ?_
      refine lv_iconst (v := 4) hx hb dX11_isLook_12 (by decide) ?_
      refine lv_icmp_ge (tgt := 27) hx hb dX11_isLook_13 (by decide) (fun c_5 => ?_) (fun c_5 => ?_)
      ·
        exact absurd c_5 (by decide)
      ·
        refine lv_iload_n hx hb dX11_isLook_16 rfl (lv_at hl 2 rfl) ?_
        have hPc := hP.sub (ws' := []) [] rfl
        have hDc := hD.sub (ws' := []) [] (by decide) rfl
        have hFc := va_free (wc := []) hD hS hA [] rfl
        refine va_calli (va_runS (As := [.int n1]) (rest := []) ⟨hx, hb, hml, hown, hts⟩ (kX11_isHour l G H.size n1 ⟨by omega, by omega⟩) (va_cwS 1 hts gS_X11_127 rfl rfl rfl hs_X11_isHour ⟨Nat.le_of_ble_eq_true rfl, Nat.le_of_ble_eq_true rfl⟩) (g5_preS hPc hK hDc hN hT hS hFc) rfl rfl hl.1 rfl (lv_room (Nat.le_of_ble_eq_true rfl)) dX11_isLook_17 ⟨Nat.le_of_ble_eq_true rfl, Nat.le_of_ble_eq_true rfl⟩) hS (fun q _ h => hFc q h) hFc (fun r u t H1 locs ht hvm hw hB hz1 hk1 hS => ?_)
        obtain ⟨hP1, hD1⟩ := hB
        rw [ht] at hP1
        obtain ⟨i_6, i_7, rfl, rfl⟩ := hw
        have hP := g5_same hP hk1
        generalize H1 = H at hP hS ⊢
        refine lv_if_eq (tgt := 27) hx hb dX11_isLook_20 (by decide) (fun c_8 => ?_) (fun c_8 => ?_)
        ·
          exact absurd c_8 (by decide)
        ·
          refine lv_iconst (v := 1) hx hb dX11_isLook_23 (by decide) ?_
          refine lv_goto (tgt := 28) hx hb dX11_isLook_24 (by decide) ?_
          exact W.zret (v := 1) hx hb hr rfl (fun t ht hW => ⟨⟨1, [], rfl, ⟨i_1, i_2, i_6, i_7, rfl, rfl⟩, by rw [ht]; exact hP, hD⟩, hS.F ht⟩) hS.2.2 dX11_isLook_28
set_option maxHeartbeats 4000000 in
set_option maxRecDepth 100000 in
theorem kX5_hungBoard_2 (l : Launch) (G : g5_G) (a0 a1 a2 a3 : Nat) (sz : Nat) (n0 : Int32) (n1 : Int32) (n2 : Int32) (h_n1 : 0 ≤ n1.toInt ∧ n1.toInt ≤ 63) (h_n2 : 0 ≤ n2.toInt ∧ n2.toInt ≤ 23) : Met l yX5_hungBoard (wsG yX5_hungBoard cX5_hungBoard 5 (some .long)) ({ frames := 0, cells := 0, slots := 0, locals := 0 }) (va_Pc [.ref a0, .int 0] (g5_P G [(a0, .inr (5, [.ref a1, .ref a2, .ref a3, .int 0, .int (-1), .int (-1), .int 1000000, .int 0, .int n0, .int n1, .int 1, .int n2, .int 0]))] sz)) (va_Ql (fun (r : Int64) (u : va_W) => ((r = 0) ∧ (u = [(a0, .inr (5, [.ref a1, .ref a2, .ref a3, .int 0, .int (-1), .int (-1), .int 1000000, .int 0, .int n0, .int n1, .int 1, .int n2, .int 0]))]))) (g5_B G (va_A [(a0, .inr (5, [.ref a1, .ref a2, .ref a3, .int 0, .int (-1), .int (-1), .int 1000000, .int 0, .int n0, .int n1, .int 1, .int n2, .int 0]))] sz)) (va_A [(a0, .inr (5, [.ref a1, .ref a2, .ref a3, .int 0, .int (-1), .int (-1), .int 1000000, .int 0, .int n0, .int n1, .int 1, .int n2, .int 0]))] sz)) 0 0 (va_A [(a0, .inr (5, [.ref a1, .ref a2, .ref a3, .int 0, .int (-1), .int (-1), .int 1000000, .int 0, .int n0, .int n1, .int 1, .int n2, .int 0]))] sz) := by
  refine Met.ofW (cc := cX5_hungBoard) (maxL := 5) (ret := (some .long)) (by decide) rfl ?_
  intro p e s m args below meth c s₁ B hml hv
  obtain ⟨rfl, hsz, hP, hK, hD0, hN, hT⟩ := hv
  have hx := B.exec
  have hb := B.bytes
  have hr := B.returns
  have hts : ∀ w ∈ tblG, w.before _ s = true := fun w h => atoms_spec (ws := (wsG yX5_hungBoard cX5_hungBoard 5 (some .long))) B.pre w (List.mem_cons_of_mem _ h)
  have hown : s.vm.findClass RX5 = some m.cls := findClass_of_methodNamed B.named
  have hlocks := B.notSynchronized
  subst hsz
  have hD := hD0.self (sz := s.heap.size)
  generalize hAe : va_A [(a0, .inr (5, [.ref a1, .ref a2, .ref a3, .int 0, .int (-1), .int (-1), .int 1000000, .int 0, .int n0, .int n1, .int 1, .int n2, .int 0]))] s.heap.size = A at hD hT ⊢
  have hA : ∀ q : Nat, s.heap.size ≤ q → A q := fun q h => by rw [← hAe]; exact Or.inr h
  have hS : va_S A s.heap s.heap [] := va_S.rf
  have hP : va_P G.1 vwCl [(a0, .inr (5, [.ref a1, .ref a2, .ref a3, .int 0, .int (-1), .int (-1), .int 1000000, .int 0, .int n0, .int n1, .int 1, .int n2, .int 0]))] s.heap := hP
  have hl := lv_entry ([.ref a0, .int 0]) (n := 5) (Nat.le_of_ble_eq_true rfl)
  rw [lg_entry_eq]
  generalize (lg_sl ([.ref a0, .int 0]) ++ List.replicate (5 - (lg_sl ([.ref a0, .int 0])).length) Slot.unset).toArray = ls at hl ⊢
  have hl : lv_has ls 5 [(0, .ref a0), (1, .int 0)] := hl
  refine lv_lconst (v := 0) hx hb dX5_hungBoard_0 (by decide) ?_
  refine lv_lstore_n (lv' := [(2, .long 0), (0, .ref a0), (1, .int 0)]) hx hb dX5_hungBoard_1 rfl hl (by decide) rfl (fun ls hl => ?_)
  refine lv_iconst (v := 0) hx hb dX5_hungBoard_2 (by decide) ?_
  refine lv_istore (lv' := [(4, .int 0), (2, .long 0), (0, .ref a0), (1, .int 0)]) hx hb dX5_hungBoard_3 hl (by decide) rfl (fun ls hl => ?_)
  refine lv_iload_n hx hb dX5_hungBoard_5 rfl (lv_at hl 3 rfl) ?_
  refine lv_iload hx hb dX5_hungBoard_6 (lv_at hl 0 rfl) ?_
  refine lv_ishr hx hb dX5_hungBoard_8 ?_
  refine g5_ti (v := 0) (by decide) ?_
  refine lv_if_eq (tgt := 64) hx hb dX5_hungBoard_9 (by decide) (fun c_1 => ?_) (fun c_1 => ?_)
  ·
    refine lv_lload_n hx hb dX5_hungBoard_64 rfl (lv_at hl 1 rfl) ?_
    exact W.lret (v := 0) hx hb hr (fun t ht hW => ⟨⟨0, [(a0, .inr (5, [.ref a1, .ref a2, .ref a3, .int 0, .int (-1), .int (-1), .int 1000000, .int 0, .int n0, .int n1, .int 1, .int n2, .int 0]))], rfl, ⟨rfl, rfl⟩, by rw [ht]; exact hP, hD⟩, hS.F ht⟩) hS.2.2 dX5_hungBoard_65
  ·
    exact absurd c_1 (by decide)
set_option maxHeartbeats 4000000 in
set_option maxRecDepth 100000 in
theorem kX11_beside_2 (l : Launch) (G : g5_G) (sz : Nat) (n0 : Int32) (h_n0 : 0 ≤ n0.toInt ∧ n0.toInt ≤ 63) : Met l yX11_beside (wsG yX11_beside cX11_beside 2 (some .int)) ({ frames := 0, cells := 0, slots := 0, locals := 0 }) (va_Pc [.int n0, .int 1] (g5_P G [] sz)) (va_Qi (fun (r : Int32) (u : va_W) => (((n0.toInt % 8) ≥ 7) ∧ (r = (-1)) ∧ (u = [])) ∨ (((n0.toInt % 8) < 7) ∧ ((n0 + 1).toInt = (n0.toInt + 1)) ∧ (r = (n0 + 1)) ∧ (u = []))) (g5_B G (va_A [] sz)) (va_A [] sz)) 0 0 (va_A [] sz) := by
  refine Met.ofW (cc := cX11_beside) (maxL := 2) (ret := (some .int)) (by decide) rfl ?_
  intro p e s m args below meth c s₁ B hml hv
  obtain ⟨rfl, hsz, hP, hK, hD0, hN, hT⟩ := hv
  have hx := B.exec
  have hb := B.bytes
  have hr := B.returns
  have hts : ∀ w ∈ tblG, w.before _ s = true := fun w h => atoms_spec (ws := (wsG yX11_beside cX11_beside 2 (some .int))) B.pre w (List.mem_cons_of_mem _ h)
  have hown : s.vm.findClass RX11 = some m.cls := findClass_of_methodNamed B.named
  have hlocks := B.notSynchronized
  subst hsz
  have hD := hD0.self (sz := s.heap.size)
  generalize hAe : va_A [] s.heap.size = A at hD hT ⊢
  have hA : ∀ q : Nat, s.heap.size ≤ q → A q := fun q h => by rw [← hAe]; exact Or.inr h
  have hS : va_S A s.heap s.heap [] := va_S.rf
  have hP : va_P G.1 vwCl [] s.heap := hP
  have hl := lv_entry ([.int n0, .int 1]) (n := 2) (Nat.le_of_ble_eq_true rfl)
  rw [lg_entry_eq]
  generalize (lg_sl ([.int n0, .int 1]) ++ List.replicate (2 - (lg_sl ([.int n0, .int 1])).length) Slot.unset).toArray = ls at hl ⊢
  have hl : lv_has ls 2 [(0, .int n0), (1, .int 1)] := hl
  refine lv_iload_n hx hb dX11_beside_0 rfl (lv_at hl 1 rfl) ?_
  refine lv_tableIn (tgt := 47) hx hb dX11_beside_1 (by decide) (by decide) rfl (by decide) ?_
  refine lv_iload_n hx hb dX11_beside_47 rfl (lv_at hl 0 rfl) ?_
  refine lv_bipush (v := 7) hx hb dX11_beside_48 (by decide) ?_
  refine lv_iand hx hb dX11_beside_50 ?_
  have t_1 : (n0 &&& 7).toInt = n0.toInt % 8 := g5_and7 (a := n0.toInt) rfl (by omega)
  refine lv_bipush (v := 7) hx hb dX11_beside_51 (by decide) ?_
  refine lv_icmp_ge (tgt := 62) hx hb dX11_beside_53 (by decide) (fun c_2 => ?_) (fun c_2 => ?_)
  ·
    have i_2 : (n0.toInt % 8) ≥ 7 := by have z := g5_ge (a := (n0 &&& 7).toInt) (b := 7) (by rfl) (by decide) c_2; omega
    refine lv_iconst (v := (-1)) hx hb dX11_beside_62 (by decide) ?_
    exact W.iret (v := (-1)) hx hb hr (fun t ht hW => ⟨⟨(-1), [], rfl, Or.inl (⟨i_2, rfl, rfl⟩), by rw [ht]; exact hP, hD⟩, hS.F ht⟩) hS.2.2 dX11_beside_63
  ·
    have i_2 : (n0.toInt % 8) < 7 := by have z := g5_geN (a := (n0 &&& 7).toInt) (b := 7) (by rfl) (by decide) c_2; omega
    refine lv_iload_n hx hb dX11_beside_56 rfl (lv_at hl 0 rfl) ?_
    refine lv_iconst (v := 1) hx hb dX11_beside_57 (by decide) ?_
    refine lv_iadd hx hb dX11_beside_58 ?_
    have t_3 : (n0 + 1).toInt = n0.toInt + 1 := g5_iadd (a := n0.toInt) (b := 1) (by rfl) (by decide) (by omega) (by omega)
    refine lv_goto (tgt := 63) hx hb dX11_beside_59 (by decide) ?_
    exact W.iret (v := (n0 + 1)) hx hb hr (fun t ht hW => ⟨⟨(n0 + 1), [], rfl, Or.inr (⟨i_2, (by omega), rfl, rfl⟩), by rw [ht]; exact hP, hD⟩, hS.F ht⟩) hS.2.2 dX11_beside_63
set_option maxHeartbeats 4000000 in
set_option maxRecDepth 100000 in
theorem kX11_isOn_2 (l : Launch) (G : g5_G) (sz : Nat) (n0 : Int32) (h_n0 : 1 ≤ n0.toInt ∧ n0.toInt ≤ 64) : Met l yX11_isOn (wsG yX11_isOn cX11_isOn 3 (some .boolean)) ({ frames := 0, cells := 0, slots := 0, locals := 0 }) (va_Pc [.long 0, .int n0] (g5_P G [] sz)) (va_Qi (fun (r : Int32) (u : va_W) => ((r = 0) ∧ (u = []))) (g5_B G (va_A [] sz)) (va_A [] sz)) 0 0 (va_A [] sz) := by
  refine Met.ofW (cc := cX11_isOn) (maxL := 3) (ret := (some .boolean)) (by decide) rfl ?_
  intro p e s m args below meth c s₁ B hml hv
  obtain ⟨rfl, hsz, hP, hK, hD0, hN, hT⟩ := hv
  have hx := B.exec
  have hb := B.bytes
  have hr := B.returns
  have hts : ∀ w ∈ tblG, w.before _ s = true := fun w h => atoms_spec (ws := (wsG yX11_isOn cX11_isOn 3 (some .boolean))) B.pre w (List.mem_cons_of_mem _ h)
  have hown : s.vm.findClass RX11 = some m.cls := findClass_of_methodNamed B.named
  have hlocks := B.notSynchronized
  subst hsz
  have hD := hD0.self (sz := s.heap.size)
  generalize hAe : va_A [] s.heap.size = A at hD hT ⊢
  have hA : ∀ q : Nat, s.heap.size ≤ q → A q := fun q h => by rw [← hAe]; exact Or.inr h
  have hS : va_S A s.heap s.heap [] := va_S.rf
  have hP : va_P G.1 vwCl [] s.heap := hP
  have hl := lv_entry ([.long 0, .int n0]) (n := 3) (Nat.le_of_ble_eq_true rfl)
  rw [lg_entry_eq]
  generalize (lg_sl ([.long 0, .int n0]) ++ List.replicate (3 - (lg_sl ([.long 0, .int n0])).length) Slot.unset).toArray = ls at hl ⊢
  have hl : lv_has ls 3 [(0, .long 0), (2, .int n0)] := hl
  refine lv_lload_n hx hb dX11_isOn_0 rfl (lv_at hl 0 rfl) ?_
  refine lv_iload_n hx hb dX11_isOn_1 rfl (lv_at hl 1 rfl) ?_
  refine lv_lushr (v := 0) hx hb dX11_isOn_2 (g5_sh0 _) ?_
  refine lv_lconst (v := 1) hx hb dX11_isOn_3 (by decide) ?_
  refine lv_land hx hb dX11_isOn_4 ?_
  refine g5_tl (v := 0) (by decide) ?_
  refine lv_lconst (v := 0) hx hb dX11_isOn_5 (by decide) ?_
  refine W.lcmp hx hb dX11_isOn_6 ?_
  refine g5_ti (v := 0) (by decide) ?_
  refine lv_if_eq (tgt := 14) hx hb dX11_isOn_7 (by decide) (fun c_1 => ?_) (fun c_1 => ?_)
  ·
    refine lv_iconst (v := 0) hx hb dX11_isOn_14 (by decide) ?_
    exact W.zret (v := 0) hx hb hr rfl (fun t ht hW => ⟨⟨0, [], rfl, ⟨rfl, rfl⟩, by rw [ht]; exact hP, hD⟩, hS.F ht⟩) hS.2.2 dX11_isOn_15
  ·
    exact absurd c_1 (by decide)
set_option maxHeartbeats 4000000 in
set_option maxRecDepth 100000 in
theorem k_run1 (l : Launch) (G : g5_G) (a_42 a_1 a_46 a_13 a_9 a_43 a_2 a_3 a_5 a_7 a_11 a_10 : Nat) (sz : Nat) (p_c : Int32) (p_h : Int32) (e_length : Int32) (e_seen : Int32) (e_lastHour : Int32) (e_bright : Int32) (e_went : Int32) (e_met : Int32) (e_cell : Int32) (e_way : Int32) (e_hour : Int32) (f_p : Nat → Int32) (h_p_c : 0 ≤ p_c.toInt ∧ p_c.toInt ≤ 63) (h_p_h : 0 ≤ p_h.toInt ∧ p_h.toInt ≤ 23) : Met l yX5_run (wsG yX5_run cX5_run 9 none) ({ frames := 2, cells := 0, slots := 0, locals := 42 }) (va_Pc [.ref a_42, .int p_c, .int 1, .int p_h, .int 0] (g5_P G [(a_42, .inr (5, [.ref a_1, .ref a_43, .ref a_46, .int e_length, .int e_seen, .int e_lastHour, .int e_bright, .int e_went, .int e_met, .int e_cell, .int e_way, .int e_hour, .int 0])), (a_1, .inr (1, [.long 0, .int 1000, .int (-1), .int (-1), .int 0, .ref a_2, .ref a_3, .ref a_5, .ref a_7, .ref a_9, .ref a_11, .long 0, .ref a_13])), (a_46, .inl (G.2 0, 200, .inl f_p)), (a_13, .inl (G.2 1, 24, .inr (.inl (fun _ => 0)))), (a_9, .inr (6, [.int 8, .int 5, .ref a_10, .int 0]))] sz)) (va_Qv (fun (u : va_W) => (∃ (o_n : Int32) (o_l : Int32) (o_c : Int32) (o_f : Nat → Int32), (o_n.toInt = 7 - p_c.toInt % 8) ∧ (0 ≤ o_n.toInt ∧ o_n.toInt ≤ 7) ∧ ((o_n.toInt = 0 → o_l.toInt = -1) ∧ (0 < o_n.toInt → o_l.toInt = p_h.toInt)) ∧ (-1 ≤ o_l.toInt ∧ o_l.toInt ≤ 23) ∧ (0 ≤ o_c.toInt ∧ o_c.toInt ≤ 63) ∧ (∀ j : Nat, (j : Int) < o_n.toInt → (o_f j).toInt = p_h.toInt * 64 + (p_c.toInt + ((j : Int) + 1))) ∧ (u = [(a_42, .inr (5, [.ref a_1, .ref a_43, .ref a_46, .int o_n, .int (-1), .int o_l, .int 1000000, .int 0, .int e_met, .int o_c, .int 1, .int p_h, .int 0])), (a_1, .inr (1, [.long 0, .int 1000, .int (-1), .int (-1), .int 0, .ref a_2, .ref a_3, .ref a_5, .ref a_7, .ref a_9, .ref a_11, .long 0, .ref a_13])), (a_46, .inl (G.2 0, 200, .inl o_f)), (a_13, .inl (G.2 1, 24, .inr (.inl (fun _ => 0)))), (a_9, .inr (6, [.int 8, .int 5, .ref a_10, .int 0]))]))) (g5_B G (va_A [(a_42, .inr (5, [.ref a_1, .ref a_43, .ref a_46, .int e_length, .int e_seen, .int e_lastHour, .int e_bright, .int e_went, .int e_met, .int e_cell, .int e_way, .int e_hour, .int 0])), (a_1, .inr (1, [.long 0, .int 1000, .int (-1), .int (-1), .int 0, .ref a_2, .ref a_3, .ref a_5, .ref a_7, .ref a_9, .ref a_11, .long 0, .ref a_13])), (a_46, .inl (G.2 0, 200, .inl f_p)), (a_13, .inl (G.2 1, 24, .inr (.inl (fun _ => 0)))), (a_9, .inr (6, [.int 8, .int 5, .ref a_10, .int 0]))] sz)) (va_A [(a_42, .inr (5, [.ref a_1, .ref a_43, .ref a_46, .int e_length, .int e_seen, .int e_lastHour, .int e_bright, .int e_went, .int e_met, .int e_cell, .int e_way, .int e_hour, .int 0])), (a_1, .inr (1, [.long 0, .int 1000, .int (-1), .int (-1), .int 0, .ref a_2, .ref a_3, .ref a_5, .ref a_7, .ref a_9, .ref a_11, .long 0, .ref a_13])), (a_46, .inl (G.2 0, 200, .inl f_p)), (a_13, .inl (G.2 1, 24, .inr (.inl (fun _ => 0)))), (a_9, .inr (6, [.int 8, .int 5, .ref a_10, .int 0]))] sz)) 0 0 (va_A [(a_42, .inr (5, [.ref a_1, .ref a_43, .ref a_46, .int e_length, .int e_seen, .int e_lastHour, .int e_bright, .int e_went, .int e_met, .int e_cell, .int e_way, .int e_hour, .int 0])), (a_1, .inr (1, [.long 0, .int 1000, .int (-1), .int (-1), .int 0, .ref a_2, .ref a_3, .ref a_5, .ref a_7, .ref a_9, .ref a_11, .long 0, .ref a_13])), (a_46, .inl (G.2 0, 200, .inl f_p)), (a_13, .inl (G.2 1, 24, .inr (.inl (fun _ => 0)))), (a_9, .inr (6, [.int 8, .int 5, .ref a_10, .int 0]))] sz) := by
  refine Met.ofW (cc := cX5_run) (maxL := 9) (ret := none) (by decide) rfl ?_
  intro p e s m args below meth c s₁ B hml hv
  obtain ⟨rfl, hsz, hP, hK, hD0, hN, hT⟩ := hv
  have hx := B.exec
  have hb := B.bytes
  have hr := B.returns
  have hts : ∀ w ∈ tblG, w.before _ s = true := fun w h => atoms_spec (ws := (wsG yX5_run cX5_run 9 none)) B.pre w (List.mem_cons_of_mem _ h)
  have hown : s.vm.findClass RX5 = some m.cls := findClass_of_methodNamed B.named
  have hlocks := B.notSynchronized
  subst hsz
  have hD := hD0.self (sz := s.heap.size)
  generalize hAe : va_A [(a_42, .inr (5, [.ref a_1, .ref a_43, .ref a_46, .int e_length, .int e_seen, .int e_lastHour, .int e_bright, .int e_went, .int e_met, .int e_cell, .int e_way, .int e_hour, .int 0])), (a_1, .inr (1, [.long 0, .int 1000, .int (-1), .int (-1), .int 0, .ref a_2, .ref a_3, .ref a_5, .ref a_7, .ref a_9, .ref a_11, .long 0, .ref a_13])), (a_46, .inl (G.2 0, 200, .inl f_p)), (a_13, .inl (G.2 1, 24, .inr (.inl (fun _ => 0)))), (a_9, .inr (6, [.int 8, .int 5, .ref a_10, .int 0]))] s.heap.size = A at hD hT ⊢
  have hA : ∀ q : Nat, s.heap.size ≤ q → A q := fun q h => by rw [← hAe]; exact Or.inr h
  have hS : va_S A s.heap s.heap [] := va_S.rf
  have hP : va_P G.1 vwCl [(a_42, .inr (5, [.ref a_1, .ref a_43, .ref a_46, .int e_length, .int e_seen, .int e_lastHour, .int e_bright, .int e_went, .int e_met, .int e_cell, .int e_way, .int e_hour, .int 0])), (a_1, .inr (1, [.long 0, .int 1000, .int (-1), .int (-1), .int 0, .ref a_2, .ref a_3, .ref a_5, .ref a_7, .ref a_9, .ref a_11, .long 0, .ref a_13])), (a_46, .inl (G.2 0, 200, .inl f_p)), (a_13, .inl (G.2 1, 24, .inr (.inl (fun _ => 0)))), (a_9, .inr (6, [.int 8, .int 5, .ref a_10, .int 0]))] s.heap := hP
  have hl := lv_entry ([.ref a_42, .int p_c, .int 1, .int p_h, .int 0]) (n := 9) (Nat.le_of_ble_eq_true rfl)
  rw [lg_entry_eq]
  generalize (lg_sl ([.ref a_42, .int p_c, .int 1, .int p_h, .int 0]) ++ List.replicate (9 - (lg_sl ([.ref a_42, .int p_c, .int 1, .int p_h, .int 0])).length) Slot.unset).toArray = ls at hl ⊢
  have hl : lv_has ls 9 [(0, .ref a_42), (1, .int p_c), (2, .int 1), (3, .int p_h), (4, .int 0)] := hl
  refine lv_aload_n hx hb dX5_run_0 rfl (lv_at hl 0 rfl) ?_
  refine lv_iload_n hx hb dX5_run_1 rfl (lv_at hl 1 rfl) ?_
  refine va_put (D := G.1) (ci := 5) (v := .int p_c) (ty := .int) (C := RX5) (T := TX5) (N := 13) hx hb hts inG_X5 tyX5 tyX5_ok nmX5 hown hK hP hD hS 0 rfl rfl 9 (by decide) (hts _ fl_X5_26) (fun _ h9 => h9) rfl (by decide +kernel) rfl rfl (Nat.le_of_ble_eq_true rfl) dX5_run_2 (fun H locs hP hD hS => ?_)
  have hP : va_P G.1 vwCl [(a_42, .inr (5, [.ref a_1, .ref a_43, .ref a_46, .int e_length, .int e_seen, .int e_lastHour, .int e_bright, .int e_went, .int e_met, .int p_c, .int e_way, .int e_hour, .int 0])), (a_1, .inr (1, [.long 0, .int 1000, .int (-1), .int (-1), .int 0, .ref a_2, .ref a_3, .ref a_5, .ref a_7, .ref a_9, .ref a_11, .long 0, .ref a_13])), (a_46, .inl (G.2 0, 200, .inl f_p)), (a_13, .inl (G.2 1, 24, .inr (.inl (fun _ => 0)))), (a_9, .inr (6, [.int 8, .int 5, .ref a_10, .int 0]))] H := hP
  have hD : va_D A [(a_42, .inr (5, [.ref a_1, .ref a_43, .ref a_46, .int e_length, .int e_seen, .int e_lastHour, .int e_bright, .int e_went, .int e_met, .int p_c, .int e_way, .int e_hour, .int 0])), (a_1, .inr (1, [.long 0, .int 1000, .int (-1), .int (-1), .int 0, .ref a_2, .ref a_3, .ref a_5, .ref a_7, .ref a_9, .ref a_11, .long 0, .ref a_13])), (a_46, .inl (G.2 0, 200, .inl f_p)), (a_13, .inl (G.2 1, 24, .inr (.inl (fun _ => 0)))), (a_9, .inr (6, [.int 8, .int 5, .ref a_10, .int 0]))] := hD
  refine lv_aload_n hx hb dX5_run_5 rfl (lv_at hl 0 rfl) ?_
  refine lv_iload_n hx hb dX5_run_6 rfl (lv_at hl 2 rfl) ?_
  refine va_put (D := G.1) (ci := 5) (v := .int 1) (ty := .int) (C := RX5) (T := TX5) (N := 13) hx hb hts inG_X5 tyX5 tyX5_ok nmX5 hown hK hP hD hS 0 rfl rfl 10 (by decide) (hts _ fl_X5_30) (fun _ h9 => h9) rfl (by decide +kernel) rfl rfl (Nat.le_of_ble_eq_true rfl) dX5_run_7 (fun H locs hP hD hS => ?_)
  have hP : va_P G.1 vwCl [(a_42, .inr (5, [.ref a_1, .ref a_43, .ref a_46, .int e_length, .int e_seen, .int e_lastHour, .int e_bright, .int e_went, .int e_met, .int p_c, .int 1, .int e_hour, .int 0])), (a_1, .inr (1, [.long 0, .int 1000, .int (-1), .int (-1), .int 0, .ref a_2, .ref a_3, .ref a_5, .ref a_7, .ref a_9, .ref a_11, .long 0, .ref a_13])), (a_46, .inl (G.2 0, 200, .inl f_p)), (a_13, .inl (G.2 1, 24, .inr (.inl (fun _ => 0)))), (a_9, .inr (6, [.int 8, .int 5, .ref a_10, .int 0]))] H := hP
  have hD : va_D A [(a_42, .inr (5, [.ref a_1, .ref a_43, .ref a_46, .int e_length, .int e_seen, .int e_lastHour, .int e_bright, .int e_went, .int e_met, .int p_c, .int 1, .int e_hour, .int 0])), (a_1, .inr (1, [.long 0, .int 1000, .int (-1), .int (-1), .int 0, .ref a_2, .ref a_3, .ref a_5, .ref a_7, .ref a_9, .ref a_11, .long 0, .ref a_13])), (a_46, .inl (G.2 0, 200, .inl f_p)), (a_13, .inl (G.2 1, 24, .inr (.inl (fun _ => 0)))), (a_9, .inr (6, [.int 8, .int 5, .ref a_10, .int 0]))] := hD
  refine lv_aload_n hx hb dX5_run_10 rfl (lv_at hl 0 rfl) ?_
  refine lv_iload_n hx hb dX5_run_11 rfl (lv_at hl 3 rfl) ?_
  refine va_put (D := G.1) (ci := 5) (v := .int p_h) (ty := .int) (C := RX5) (T := TX5) (N := 13) hx hb hts inG_X5 tyX5 tyX5_ok nmX5 hown hK hP hD hS 0 rfl rfl 11 (by decide) (hts _ fl_X5_33) (fun _ h9 => h9) rfl (by decide +kernel) rfl rfl (Nat.le_of_ble_eq_true rfl) dX5_run_12 (fun H locs hP hD hS => ?_)
  have hP : va_P G.1 vwCl [(a_42, .inr (5, [.ref a_1, .ref a_43, .ref a_46, .int e_length, .int e_seen, .int e_lastHour, .int e_bright, .int e_went, .int e_met, .int p_c, .int 1, .int p_h, .int 0])), (a_1, .inr (1, [.long 0, .int 1000, .int (-1), .int (-1), .int 0, .ref a_2, .ref a_3, .ref a_5, .ref a_7, .ref a_9, .ref a_11, .long 0, .ref a_13])), (a_46, .inl (G.2 0, 200, .inl f_p)), (a_13, .inl (G.2 1, 24, .inr (.inl (fun _ => 0)))), (a_9, .inr (6, [.int 8, .int 5, .ref a_10, .int 0]))] H := hP
  have hD : va_D A [(a_42, .inr (5, [.ref a_1, .ref a_43, .ref a_46, .int e_length, .int e_seen, .int e_lastHour, .int e_bright, .int e_went, .int e_met, .int p_c, .int 1, .int p_h, .int 0])), (a_1, .inr (1, [.long 0, .int 1000, .int (-1), .int (-1), .int 0, .ref a_2, .ref a_3, .ref a_5, .ref a_7, .ref a_9, .ref a_11, .long 0, .ref a_13])), (a_46, .inl (G.2 0, 200, .inl f_p)), (a_13, .inl (G.2 1, 24, .inr (.inl (fun _ => 0)))), (a_9, .inr (6, [.int 8, .int 5, .ref a_10, .int 0]))] := hD
  refine lv_aload_n hx hb dX5_run_15 rfl (lv_at hl 0 rfl) ?_
  refine lv_iconst (v := 0) hx hb dX5_run_16 (by decide) ?_
  refine va_put (D := G.1) (ci := 5) (v := .int 0) (ty := .int) (C := RX5) (T := TX5) (N := 13) hx hb hts inG_X5 tyX5 tyX5_ok nmX5 hown hK hP hD hS 0 rfl rfl 3 (by decide) (hts _ fl_X5_36) (fun _ h9 => h9) rfl (by decide +kernel) rfl rfl (Nat.le_of_ble_eq_true rfl) dX5_run_17 (fun H locs hP hD hS => ?_)
  have hP : va_P G.1 vwCl [(a_42, .inr (5, [.ref a_1, .ref a_43, .ref a_46, .int 0, .int e_seen, .int e_lastHour, .int e_bright, .int e_went, .int e_met, .int p_c, .int 1, .int p_h, .int 0])), (a_1, .inr (1, [.long 0, .int 1000, .int (-1), .int (-1), .int 0, .ref a_2, .ref a_3, .ref a_5, .ref a_7, .ref a_9, .ref a_11, .long 0, .ref a_13])), (a_46, .inl (G.2 0, 200, .inl f_p)), (a_13, .inl (G.2 1, 24, .inr (.inl (fun _ => 0)))), (a_9, .inr (6, [.int 8, .int 5, .ref a_10, .int 0]))] H := hP
  have hD : va_D A [(a_42, .inr (5, [.ref a_1, .ref a_43, .ref a_46, .int 0, .int e_seen, .int e_lastHour, .int e_bright, .int e_went, .int e_met, .int p_c, .int 1, .int p_h, .int 0])), (a_1, .inr (1, [.long 0, .int 1000, .int (-1), .int (-1), .int 0, .ref a_2, .ref a_3, .ref a_5, .ref a_7, .ref a_9, .ref a_11, .long 0, .ref a_13])), (a_46, .inl (G.2 0, 200, .inl f_p)), (a_13, .inl (G.2 1, 24, .inr (.inl (fun _ => 0)))), (a_9, .inr (6, [.int 8, .int 5, .ref a_10, .int 0]))] := hD
  refine lv_aload_n hx hb dX5_run_20 rfl (lv_at hl 0 rfl) ?_
  refine lv_iconst (v := (-1)) hx hb dX5_run_21 (by decide) ?_
  refine va_put (D := G.1) (ci := 5) (v := .int (-1)) (ty := .int) (C := RX5) (T := TX5) (N := 13) hx hb hts inG_X5 tyX5 tyX5_ok nmX5 hown hK hP hD hS 0 rfl rfl 4 (by decide) (hts _ fl_X5_39) (fun _ h9 => h9) rfl (by decide +kernel) rfl rfl (Nat.le_of_ble_eq_true rfl) dX5_run_22 (fun H locs hP hD hS => ?_)
  have hP : va_P G.1 vwCl [(a_42, .inr (5, [.ref a_1, .ref a_43, .ref a_46, .int 0, .int (-1), .int e_lastHour, .int e_bright, .int e_went, .int e_met, .int p_c, .int 1, .int p_h, .int 0])), (a_1, .inr (1, [.long 0, .int 1000, .int (-1), .int (-1), .int 0, .ref a_2, .ref a_3, .ref a_5, .ref a_7, .ref a_9, .ref a_11, .long 0, .ref a_13])), (a_46, .inl (G.2 0, 200, .inl f_p)), (a_13, .inl (G.2 1, 24, .inr (.inl (fun _ => 0)))), (a_9, .inr (6, [.int 8, .int 5, .ref a_10, .int 0]))] H := hP
  have hD : va_D A [(a_42, .inr (5, [.ref a_1, .ref a_43, .ref a_46, .int 0, .int (-1), .int e_lastHour, .int e_bright, .int e_went, .int e_met, .int p_c, .int 1, .int p_h, .int 0])), (a_1, .inr (1, [.long 0, .int 1000, .int (-1), .int (-1), .int 0, .ref a_2, .ref a_3, .ref a_5, .ref a_7, .ref a_9, .ref a_11, .long 0, .ref a_13])), (a_46, .inl (G.2 0, 200, .inl f_p)), (a_13, .inl (G.2 1, 24, .inr (.inl (fun _ => 0)))), (a_9, .inr (6, [.int 8, .int 5, .ref a_10, .int 0]))] := hD
  refine lv_aload_n hx hb dX5_run_25 rfl (lv_at hl 0 rfl) ?_
  refine lv_iconst (v := (-1)) hx hb dX5_run_26 (by decide) ?_
  refine va_put (D := G.1) (ci := 5) (v := .int (-1)) (ty := .int) (C := RX5) (T := TX5) (N := 13) hx hb hts inG_X5 tyX5 tyX5_ok nmX5 hown hK hP hD hS 0 rfl rfl 5 (by decide) (hts _ fl_X5_42) (fun _ h9 => h9) rfl (by decide +kernel) rfl rfl (Nat.le_of_ble_eq_true rfl) dX5_run_27 (fun H locs hP hD hS => ?_)
  have hP : va_P G.1 vwCl [(a_42, .inr (5, [.ref a_1, .ref a_43, .ref a_46, .int 0, .int (-1), .int (-1), .int e_bright, .int e_went, .int e_met, .int p_c, .int 1, .int p_h, .int 0])), (a_1, .inr (1, [.long 0, .int 1000, .int (-1), .int (-1), .int 0, .ref a_2, .ref a_3, .ref a_5, .ref a_7, .ref a_9, .ref a_11, .long 0, .ref a_13])), (a_46, .inl (G.2 0, 200, .inl f_p)), (a_13, .inl (G.2 1, 24, .inr (.inl (fun _ => 0)))), (a_9, .inr (6, [.int 8, .int 5, .ref a_10, .int 0]))] H := hP
  have hD : va_D A [(a_42, .inr (5, [.ref a_1, .ref a_43, .ref a_46, .int 0, .int (-1), .int (-1), .int e_bright, .int e_went, .int e_met, .int p_c, .int 1, .int p_h, .int 0])), (a_1, .inr (1, [.long 0, .int 1000, .int (-1), .int (-1), .int 0, .ref a_2, .ref a_3, .ref a_5, .ref a_7, .ref a_9, .ref a_11, .long 0, .ref a_13])), (a_46, .inl (G.2 0, 200, .inl f_p)), (a_13, .inl (G.2 1, 24, .inr (.inl (fun _ => 0)))), (a_9, .inr (6, [.int 8, .int 5, .ref a_10, .int 0]))] := hD
  refine lv_aload_n hx hb dX5_run_30 rfl (lv_at hl 0 rfl) ?_
  refine lv_ldc (v := 1000000) hx hb hown (hts _ ki_X5_45) dX5_run_31 ?_
  refine va_put (D := G.1) (ci := 5) (v := .int 1000000) (ty := .int) (C := RX5) (T := TX5) (N := 13) hx hb hts inG_X5 tyX5 tyX5_ok nmX5 hown hK hP hD hS 0 rfl rfl 6 (by decide) (hts _ fl_X5_46) (fun _ h9 => h9) rfl (by decide +kernel) rfl rfl (Nat.le_of_ble_eq_true rfl) dX5_run_33 (fun H locs hP hD hS => ?_)
  have hP : va_P G.1 vwCl [(a_42, .inr (5, [.ref a_1, .ref a_43, .ref a_46, .int 0, .int (-1), .int (-1), .int 1000000, .int e_went, .int e_met, .int p_c, .int 1, .int p_h, .int 0])), (a_1, .inr (1, [.long 0, .int 1000, .int (-1), .int (-1), .int 0, .ref a_2, .ref a_3, .ref a_5, .ref a_7, .ref a_9, .ref a_11, .long 0, .ref a_13])), (a_46, .inl (G.2 0, 200, .inl f_p)), (a_13, .inl (G.2 1, 24, .inr (.inl (fun _ => 0)))), (a_9, .inr (6, [.int 8, .int 5, .ref a_10, .int 0]))] H := hP
  have hD : va_D A [(a_42, .inr (5, [.ref a_1, .ref a_43, .ref a_46, .int 0, .int (-1), .int (-1), .int 1000000, .int e_went, .int e_met, .int p_c, .int 1, .int p_h, .int 0])), (a_1, .inr (1, [.long 0, .int 1000, .int (-1), .int (-1), .int 0, .ref a_2, .ref a_3, .ref a_5, .ref a_7, .ref a_9, .ref a_11, .long 0, .ref a_13])), (a_46, .inl (G.2 0, 200, .inl f_p)), (a_13, .inl (G.2 1, 24, .inr (.inl (fun _ => 0)))), (a_9, .inr (6, [.int 8, .int 5, .ref a_10, .int 0]))] := hD
  refine lv_aload_n hx hb dX5_run_36 rfl (lv_at hl 0 rfl) ?_
  refine lv_iconst (v := 0) hx hb dX5_run_37 (by decide) ?_
  refine va_put (D := G.1) (ci := 5) (v := .int 0) (ty := .int) (C := RX5) (T := TX5) (N := 13) hx hb hts inG_X5 tyX5 tyX5_ok nmX5 hown hK hP hD hS 0 rfl rfl 7 (by decide) (hts _ fl_X5_49) (fun _ h9 => h9) rfl (by decide +kernel) rfl rfl (Nat.le_of_ble_eq_true rfl) dX5_run_38 (fun H locs hP hD hS => ?_)
  have hP : va_P G.1 vwCl [(a_42, .inr (5, [.ref a_1, .ref a_43, .ref a_46, .int 0, .int (-1), .int (-1), .int 1000000, .int 0, .int e_met, .int p_c, .int 1, .int p_h, .int 0])), (a_1, .inr (1, [.long 0, .int 1000, .int (-1), .int (-1), .int 0, .ref a_2, .ref a_3, .ref a_5, .ref a_7, .ref a_9, .ref a_11, .long 0, .ref a_13])), (a_46, .inl (G.2 0, 200, .inl f_p)), (a_13, .inl (G.2 1, 24, .inr (.inl (fun _ => 0)))), (a_9, .inr (6, [.int 8, .int 5, .ref a_10, .int 0]))] H := hP
  have hD : va_D A [(a_42, .inr (5, [.ref a_1, .ref a_43, .ref a_46, .int 0, .int (-1), .int (-1), .int 1000000, .int 0, .int e_met, .int p_c, .int 1, .int p_h, .int 0])), (a_1, .inr (1, [.long 0, .int 1000, .int (-1), .int (-1), .int 0, .ref a_2, .ref a_3, .ref a_5, .ref a_7, .ref a_9, .ref a_11, .long 0, .ref a_13])), (a_46, .inl (G.2 0, 200, .inl f_p)), (a_13, .inl (G.2 1, 24, .inr (.inl (fun _ => 0)))), (a_9, .inr (6, [.int 8, .int 5, .ref a_10, .int 0]))] := hD
  refine lv_aload_n hx hb dX5_run_41 rfl (lv_at hl 0 rfl) ?_
  refine lv_iload_n hx hb dX5_run_42 rfl (lv_at hl 1 rfl) ?_
  refine lv_iload_n hx hb dX5_run_43 rfl (lv_at hl 2 rfl) ?_
  refine lv_iload_n hx hb dX5_run_44 rfl (lv_at hl 3 rfl) ?_
  have hPc := hP.sub (ws' := []) [] rfl
  have hDc := hD.sub (ws' := []) [] (by decide) rfl
  have hFc := va_free (wc := []) hD hS hA [] rfl
  refine va_calli (va_runSN (As := [.int p_c, .int 1, .int p_h]) (rest := [.ref a_42]) ⟨hx, hb, hml, hown, hts⟩ (kX11_isLook_2 l G H.size p_c p_h ⟨by omega, by omega⟩ ⟨by omega, by omega⟩) ⟨va_cnB 3 hts gW_X11_isLook rfl rfl rfl (hN.1 _ g5_nw_X5_52) (hts _ ini_X11) hs_X11_isLook ⟨Nat.le_of_ble_eq_true rfl, Nat.le_of_ble_eq_true rfl⟩, hts _ st_X11_isLook, trivial⟩ (g5_preS hPc hK hDc hN hT hS hFc) rfl rfl hl.1 rfl (lv_room (Nat.le_of_ble_eq_true rfl)) dX5_run_45 ⟨Nat.le_of_ble_eq_true rfl, Nat.le_of_ble_eq_true rfl⟩) hS (fun q _ h => hFc q h) hFc (fun r u t H1 locs ht hvm hw hB hz1 hk1 hS => ?_)
  obtain ⟨hP1, hD1⟩ := hB
  rw [ht] at hP1
  obtain ⟨i_1, i_2, i_3, i_4, rfl, rfl⟩ := hw
  have hP := g5_same hP hk1
  generalize H1 = H at hP hS ⊢
  refine lv_if_ne (tgt := 55) hx hb dX5_run_48 (by decide) (fun c_5 => ?_) (fun c_5 => ?_)
  ·
    refine lv_iconst (v := 0) hx hb dX5_run_55 (by decide) ?_
    refine va_put (D := G.1) (ci := 5) (v := .int 0) (ty := .boolean) (C := RX5) (T := TX5) (N := 13) hx hb hts inG_X5 tyX5 tyX5_ok nmX5 hown hK hP hD hS 0 rfl rfl 12 (by decide) (hts _ fl_X5_56) (fun _ h9 => h9) rfl (by decide +kernel) rfl rfl (Nat.le_of_ble_eq_true rfl) dX5_run_56 (fun H locs hP hD hS => ?_)
    have hP : va_P G.1 vwCl [(a_42, .inr (5, [.ref a_1, .ref a_43, .ref a_46, .int 0, .int (-1), .int (-1), .int 1000000, .int 0, .int e_met, .int p_c, .int 1, .int p_h, .int 0])), (a_1, .inr (1, [.long 0, .int 1000, .int (-1), .int (-1), .int 0, .ref a_2, .ref a_3, .ref a_5, .ref a_7, .ref a_9, .ref a_11, .long 0, .ref a_13])), (a_46, .inl (G.2 0, 200, .inl f_p)), (a_13, .inl (G.2 1, 24, .inr (.inl (fun _ => 0)))), (a_9, .inr (6, [.int 8, .int 5, .ref a_10, .int 0]))] H := hP
    have hD : va_D A [(a_42, .inr (5, [.ref a_1, .ref a_43, .ref a_46, .int 0, .int (-1), .int (-1), .int 1000000, .int 0, .int e_met, .int p_c, .int 1, .int p_h, .int 0])), (a_1, .inr (1, [.long 0, .int 1000, .int (-1), .int (-1), .int 0, .ref a_2, .ref a_3, .ref a_5, .ref a_7, .ref a_9, .ref a_11, .long 0, .ref a_13])), (a_46, .inl (G.2 0, 200, .inl f_p)), (a_13, .inl (G.2 1, 24, .inr (.inl (fun _ => 0)))), (a_9, .inr (6, [.int 8, .int 5, .ref a_10, .int 0]))] := hD
    refine lv_aload_n hx hb dX5_run_59 rfl (lv_at hl 0 rfl) ?_
    refine va_get (D := G.1) (ci := 5) (v := .ref a_1) (C := RX5) (T := TX5) (N := 13) hx hb hts inG_X5 hown hK hP 0 rfl rfl 0 (by decide) (hts _ fl_X5_22) (fun _ h9 => h9) rfl dX5_run_60 ?_
    refine va_get (D := G.1) (ci := 1) (v := .long 0) (C := RX1) (T := TX1) (N := 13) hx hb hts inG_X1 hown hK hP 1 rfl rfl 11 (by decide) (hts _ fl_X5_60) (fun _ h9 => h9) rfl dX5_run_63 ?_
    refine lv_aload_n hx hb dX5_run_66 rfl (lv_at hl 0 rfl) ?_
    refine lv_iload hx hb dX5_run_67 (lv_at hl 4 rfl) ?_
    have hPc := hP.sub (ws' := [(a_42, .inr (5, [.ref a_1, .ref a_43, .ref a_46, .int 0, .int (-1), .int (-1), .int 1000000, .int 0, .int e_met, .int p_c, .int 1, .int p_h, .int 0]))]) [0] rfl
    have hDc := hD.sub (ws' := [(a_42, .inr (5, [.ref a_1, .ref a_43, .ref a_46, .int 0, .int (-1), .int (-1), .int 1000000, .int 0, .int e_met, .int p_c, .int 1, .int p_h, .int 0]))]) [0] (by decide) rfl
    have hFc := va_free (wc := [(a_42, .inr (5, [.ref a_1, .ref a_43, .ref a_46, .int 0, .int (-1), .int (-1), .int 1000000, .int 0, .int e_met, .int p_c, .int 1, .int p_h, .int 0]))]) hD hS hA [0] rfl
    refine va_calll (va_runV (As := [.int 0]) (rest := [.long 0]) ⟨hx, hb, hml, hown, hts⟩ (kX5_hungBoard_2 l G a_42 a_1 a_43 a_46 H.size e_met p_c p_h ⟨by omega, by omega⟩ ⟨by omega, by omega⟩) (cwV 1 hts gV_X5_66 rfl rfl rfl hv_X5_hungBoard ⟨Nat.le_of_ble_eq_true rfl, Nat.le_of_ble_eq_true rfl⟩) (g5_preV hPc hK hDc hN hT hS hFc (ci := 5) (q0 := 0) rfl rfl) rfl rfl hl.1 rfl (lv_room (Nat.le_of_ble_eq_true rfl)) dX5_run_69 ⟨Nat.le_of_ble_eq_true rfl, Nat.le_of_ble_eq_true rfl⟩) hS (fun q _ h => hFc q h) hFc (fun r u t H1 locs ht hvm hw hB hz1 hk1 hS => ?_)
    obtain ⟨hP1, hD1⟩ := hB
    rw [ht] at hP1
    obtain ⟨rfl, rfl⟩ := hw
    obtain ⟨hP, hD⟩ := va_join (wr := [(a_1, .inr (1, [.long 0, .int 1000, .int (-1), .int (-1), .int 0, .ref a_2, .ref a_3, .ref a_5, .ref a_7, .ref a_9, .ref a_11, .long 0, .ref a_13])), (a_46, .inl (G.2 0, 200, .inl f_p)), (a_13, .inl (G.2 1, 24, .inr (.inl (fun _ => 0)))), (a_9, .inr (6, [.int 8, .int 5, .ref a_10, .int 0]))]) (w1 := [(a_42, .inr (5, [.ref a_1, .ref a_43, .ref a_46, .int 0, .int (-1), .int (-1), .int 1000000, .int 0, .int e_met, .int p_c, .int 1, .int p_h, .int 0]))]) hP hD [0] [1, 2, 3, 4] rfl rfl (by decide) (by decide) hk1 hFc hP1 hD1
    generalize H1 = H at hP hS ⊢
    have hP : va_P G.1 vwCl [(a_1, .inr (1, [.long 0, .int 1000, .int (-1), .int (-1), .int 0, .ref a_2, .ref a_3, .ref a_5, .ref a_7, .ref a_9, .ref a_11, .long 0, .ref a_13])), (a_46, .inl (G.2 0, 200, .inl f_p)), (a_13, .inl (G.2 1, 24, .inr (.inl (fun _ => 0)))), (a_9, .inr (6, [.int 8, .int 5, .ref a_10, .int 0])), (a_42, .inr (5, [.ref a_1, .ref a_43, .ref a_46, .int 0, .int (-1), .int (-1), .int 1000000, .int 0, .int e_met, .int p_c, .int 1, .int p_h, .int 0]))] H := hP
    have hD : va_D A [(a_1, .inr (1, [.long 0, .int 1000, .int (-1), .int (-1), .int 0, .ref a_2, .ref a_3, .ref a_5, .ref a_7, .ref a_9, .ref a_11, .long 0, .ref a_13])), (a_46, .inl (G.2 0, 200, .inl f_p)), (a_13, .inl (G.2 1, 24, .inr (.inl (fun _ => 0)))), (a_9, .inr (6, [.int 8, .int 5, .ref a_10, .int 0])), (a_42, .inr (5, [.ref a_1, .ref a_43, .ref a_46, .int 0, .int (-1), .int (-1), .int 1000000, .int 0, .int e_met, .int p_c, .int 1, .int p_h, .int 0]))] := hD
    refine lv_lor hx hb dX5_run_72 ?_
    refine g5_tl (v := 0) (by decide) ?_
    refine lv_lstore (lv' := [(5, .long 0), (0, .ref a_42), (1, .int p_c), (2, .int 1), (3, .int p_h), (4, .int 0)]) hx hb dX5_run_73 hl (by decide) rfl (fun ls hl => ?_)
    refine lv_iconst (v := 0) hx hb dX5_run_75 (by decide) ?_
    refine lv_istore (lv' := [(7, .int 0), (5, .long 0), (0, .ref a_42), (1, .int p_c), (2, .int 1), (3, .int p_h), (4, .int 0)]) hx hb dX5_run_76 hl (by decide) rfl (fun ls hl => ?_)
    refine g5_loop (α := (Int32) × (Int32) × (Int32) × (Int32) × (Nat → Int32)) (fun (q : (Int32) × (Int32) × (Int32) × (Int32) × (Nat → Int32)) (ls : Array Slot) (H : Heap) (locs : List Loc) => match q with | (k_s, k_n, k_l, k_c, k_f) => lv_has ls 9 [(7, .int k_s), (5, .long 0), (0, .ref a_42), (1, .int p_c), (2, .int 1), (3, .int p_h)] ∧ va_P G.1 vwCl [(a_1, .inr (1, [.long 0, .int 1000, .int (-1), .int (-1), .int 0, .ref a_2, .ref a_3, .ref a_5, .ref a_7, .ref a_9, .ref a_11, .long 0, .ref a_13])), (a_46, .inl (G.2 0, 200, .inl k_f)), (a_13, .inl (G.2 1, 24, .inr (.inl (fun _ => 0)))), (a_9, .inr (6, [.int 8, .int 5, .ref a_10, .int 0])), (a_42, .inr (5, [.ref a_1, .ref a_43, .ref a_46, .int k_n, .int (-1), .int k_l, .int 1000000, .int 0, .int e_met, .int k_c, .int 1, .int p_h, .int 0]))] H ∧ va_D A [(a_1, .inr (1, [.long 0, .int 1000, .int (-1), .int (-1), .int 0, .ref a_2, .ref a_3, .ref a_5, .ref a_7, .ref a_9, .ref a_11, .long 0, .ref a_13])), (a_46, .inl (G.2 0, 200, .inl k_f)), (a_13, .inl (G.2 1, 24, .inr (.inl (fun _ => 0)))), (a_9, .inr (6, [.int 8, .int 5, .ref a_10, .int 0])), (a_42, .inr (5, [.ref a_1, .ref a_43, .ref a_46, .int k_n, .int (-1), .int k_l, .int 1000000, .int 0, .int e_met, .int k_c, .int 1, .int p_h, .int 0]))] ∧ va_S A s.heap H locs ∧ (0 ≤ k_s.toInt ∧ k_s.toInt ≤ 7) ∧ (0 ≤ k_n.toInt ∧ k_n.toInt ≤ 7) ∧ ((-1) ≤ k_l.toInt ∧ k_l.toInt ≤ 23) ∧ (0 ≤ k_c.toInt ∧ k_c.toInt ≤ 63) ∧ (k_n.toInt = k_s.toInt) ∧ (k_s.toInt ≤ 7 - p_c.toInt % 8) ∧ (k_c.toInt = p_c.toInt + k_s.toInt) ∧ ((k_s.toInt = 0 → k_l.toInt = -1) ∧ (0 < k_s.toInt → k_l.toInt = p_h.toInt)) ∧ (∀ j : Nat, (j : Int) < k_s.toInt → (k_f j).toInt = p_h.toInt * 64 + (p_c.toInt + ((j : Int) + 1)))) (fun (q : (Int32) × (Int32) × (Int32) × (Int32) × (Nat → Int32)) => match q with | (k_s, k_n, k_l, k_c, k_f) => Int.toNat (200 - k_s.toInt)) (0, 0, (-1), p_c, f_p) ⟨lv_sub hl [0, 1, 2, 3, 4, 5] rfl, hP, hD, hS, ⟨by decide, by decide⟩, ⟨by decide, by decide⟩, ⟨by decide, by decide⟩, ⟨by omega, by omega⟩, rfl, by have z0 : (0 : Int32).toInt = 0 := (by decide); omega, by have z0 : (0 : Int32).toInt = 0 := (by decide); omega, ⟨fun _ => by decide, fun h => absurd h (by decide)⟩, fun j h => absurd h (by have z : (0 : Int32).toInt = 0 := (by decide); omega)⟩ ?_
    rintro ⟨k_s, k_n, k_l, k_c, k_f⟩ ls H locs ⟨hl, hP, hD, hS, i_6, i_7, i_8, i_9, i_10, i_11, i_12, i_13, i_14⟩ ih_78_15
    have hl : lv_has ls 9 [(7, .int k_s), (5, .long 0), (0, .ref a_42), (1, .int p_c), (2, .int 1), (3, .int p_h)] := hl
    have i_6 : 0 ≤ k_s.toInt ∧ k_s.toInt ≤ 7 := i_6
    have i_7 : 0 ≤ k_n.toInt ∧ k_n.toInt ≤ 7 := i_7
    have i_8 : (-1) ≤ k_l.toInt ∧ k_l.toInt ≤ 23 := i_8
    have i_9 : 0 ≤ k_c.toInt ∧ k_c.toInt ≤ 63 := i_9
    have i_10 : k_n.toInt = k_s.toInt := i_10
    have i_11 : k_s.toInt ≤ 7 - p_c.toInt % 8 := i_11
    have i_12 : k_c.toInt = p_c.toInt + k_s.toInt := i_12
    have i_13 : (k_s.toInt = 0 → k_l.toInt = -1) ∧ (0 < k_s.toInt → k_l.toInt = p_h.toInt) := i_13
    have i_14 : ∀ j : Nat, (j : Int) < k_s.toInt → (k_f j).toInt = p_h.toInt * 64 + (p_c.toInt + ((j : Int) + 1)) := i_14
    have hP : va_P G.1 vwCl [(a_1, .inr (1, [.long 0, .int 1000, .int (-1), .int (-1), .int 0, .ref a_2, .ref a_3, .ref a_5, .ref a_7, .ref a_9, .ref a_11, .long 0, .ref a_13])), (a_46, .inl (G.2 0, 200, .inl k_f)), (a_13, .inl (G.2 1, 24, .inr (.inl (fun _ => 0)))), (a_9, .inr (6, [.int 8, .int 5, .ref a_10, .int 0])), (a_42, .inr (5, [.ref a_1, .ref a_43, .ref a_46, .int k_n, .int (-1), .int k_l, .int 1000000, .int 0, .int e_met, .int k_c, .int 1, .int p_h, .int 0]))] H := hP
    have hD : va_D A [(a_1, .inr (1, [.long 0, .int 1000, .int (-1), .int (-1), .int 0, .ref a_2, .ref a_3, .ref a_5, .ref a_7, .ref a_9, .ref a_11, .long 0, .ref a_13])), (a_46, .inl (G.2 0, 200, .inl k_f)), (a_13, .inl (G.2 1, 24, .inr (.inl (fun _ => 0)))), (a_9, .inr (6, [.int 8, .int 5, .ref a_10, .int 0])), (a_42, .inr (5, [.ref a_1, .ref a_43, .ref a_46, .int k_n, .int (-1), .int k_l, .int 1000000, .int 0, .int e_met, .int k_c, .int 1, .int p_h, .int 0]))] := hD
    refine lv_iload hx hb dX5_run_78 (lv_at hl 0 rfl) ?_
    refine lv_sipush (v := 200) hx hb dX5_run_80 (by decide) ?_
    refine lv_icmp_ge (tgt := 227) hx hb dX5_run_83 (by decide) (fun c_16 => ?_) (fun c_16 => ?_)
    ·
      have i_16 : k_s.toInt ≥ 200 := by have z := g5_ge (a := k_s.toInt) (b := 200) (by rfl) (by decide) c_16; omega
      omega
    ·
      have i_16 : k_s.toInt < 200 := by have z := g5_geN (a := k_s.toInt) (b := 200) (by rfl) (by decide) c_16; omega
      refine lv_aload_n hx hb dX5_run_86 rfl (lv_at hl 2 rfl) ?_
      refine va_get (D := G.1) (ci := 5) (v := .int 0) (C := RX5) (T := TX5) (N := 13) hx hb hts inG_X5 hown hK hP 4 rfl rfl 12 (by decide) (hts _ fl_X5_56) (fun _ h9 => h9) rfl dX5_run_87 ?_
      refine lv_if_ne (tgt := 227) hx hb dX5_run_90 (by decide) (fun c_17 => ?_) (fun c_17 => ?_)
      ·
        exact absurd c_17 (by decide)
      ·
        refine lv_aload_n hx hb dX5_run_93 rfl (lv_at hl 2 rfl) ?_
        refine va_get (D := G.1) (ci := 5) (v := .int k_c) (C := RX5) (T := TX5) (N := 13) hx hb hts inG_X5 hown hK hP 4 rfl rfl 9 (by decide) (hts _ fl_X5_26) (fun _ h9 => h9) rfl dX5_run_94 ?_
        refine lv_aload_n hx hb dX5_run_97 rfl (lv_at hl 2 rfl) ?_
        refine va_get (D := G.1) (ci := 5) (v := .int 1) (C := RX5) (T := TX5) (N := 13) hx hb hts inG_X5 hown hK hP 4 rfl rfl 10 (by decide) (hts _ fl_X5_30) (fun _ h9 => h9) rfl dX5_run_98 ?_
        have hPc := hP.sub (ws' := []) [] rfl
        have hDc := hD.sub (ws' := []) [] (by decide) rfl
        have hFc := va_free (wc := []) hD hS hA [] rfl
        refine va_calli (va_runSN (As := [.int k_c, .int 1]) (rest := []) ⟨hx, hb, hml, hown, hts⟩ (kX11_beside_2 l G H.size k_c ⟨by omega, by omega⟩) ⟨va_cnB 2 hts gW_X11_beside rfl rfl rfl (hN.1 _ g5_nw_X5_70) (hts _ ini_X11) hs_X11_beside ⟨Nat.le_of_ble_eq_true rfl, Nat.le_of_ble_eq_true rfl⟩, hts _ st_X11_beside, trivial⟩ (g5_preS hPc hK hDc hN hT hS hFc) rfl rfl hl.1 rfl (lv_room (Nat.le_of_ble_eq_true rfl)) dX5_run_101 ⟨Nat.le_of_ble_eq_true rfl, Nat.le_of_ble_eq_true rfl⟩) hS (fun q _ h => hFc q h) hFc (fun r u t H1 locs ht hvm hw hB hz1 hk1 hS => ?_)
        obtain ⟨hP1, hD1⟩ := hB
        rw [ht] at hP1
        rcases hw with ⟨i_18, rfl, rfl⟩ | ⟨i_19, i_20, rfl, rfl⟩
        ·
          have hP := g5_same hP hk1
          generalize H1 = H at hP hS ⊢
          refine lv_istore (lv' := [(8, .int (-1)), (7, .int k_s), (5, .long 0), (0, .ref a_42), (1, .int p_c), (2, .int 1), (3, .int p_h)]) hx hb dX5_run_104 hl (by decide) rfl (fun ls hl => ?_)
          refine lv_iload hx hb dX5_run_106 (lv_at hl 0 rfl) ?_
          refine lv_iconst (v := (-1)) hx hb dX5_run_108 (by decide) ?_
          refine lv_icmp_eq (tgt := 127) hx hb dX5_run_109 (by decide) (fun c_21 => ?_) (fun c_21 => ?_)
          ·
            exact W.vret hx hb hr (fun t ht hW => ⟨⟨[(a_42, .inr (5, [.ref a_1, .ref a_43, .ref a_46, .int k_n, .int (-1), .int k_l, .int 1000000, .int 0, .int e_met, .int k_c, .int 1, .int p_h, .int 0])), (a_1, .inr (1, [.long 0, .int 1000, .int (-1), .int (-1), .int 0, .ref a_2, .ref a_3, .ref a_5, .ref a_7, .ref a_9, .ref a_11, .long 0, .ref a_13])), (a_46, .inl (G.2 0, 200, .inl k_f)), (a_13, .inl (G.2 1, 24, .inr (.inl (fun _ => 0)))), (a_9, .inr (6, [.int 8, .int 5, .ref a_10, .int 0]))], rfl, ⟨k_n, k_l, k_c, k_f, by omega, ⟨by omega, by omega⟩, ⟨fun h => i_13.1 (by omega), fun h => i_13.2 (by omega)⟩, ⟨by omega, by omega⟩, ⟨by omega, by omega⟩, fun j h => i_14 j (by omega), rfl⟩, by rw [ht]; exact hP.sub [4, 0, 1, 2, 3] rfl, hD.sub [4, 0, 1, 2, 3] (by decide) rfl⟩, hS.F ht⟩) hS.2.2 dX5_run_127
          ·
            exact absurd c_21 (by decide)
        ·
          have hP := g5_same hP hk1
          generalize H1 = H at hP hS ⊢
          refine lv_istore (lv' := [(8, .int (k_c + 1)), (7, .int k_s), (5, .long 0), (0, .ref a_42), (1, .int p_c), (2, .int 1), (3, .int p_h)]) hx hb dX5_run_104 hl (by decide) rfl (fun ls hl => ?_)
          refine lv_iload hx hb dX5_run_106 (lv_at hl 0 rfl) ?_
          refine lv_iconst (v := (-1)) hx hb dX5_run_108 (by decide) ?_
          refine lv_icmp_eq (tgt := 127) hx hb dX5_run_109 (by decide) (fun c_22 => ?_) (fun c_22 => ?_)
          ·
            have i_22 : (k_c + 1).toInt = (-1) := by have z := g5_eq (a := (k_c + 1).toInt) (b := (-1)) (by rfl) (by decide) c_22; omega
            omega
          ·
            have i_22 : (k_c + 1).toInt ≠ (-1) := by have z := g5_eqN (a := (k_c + 1).toInt) (b := (-1)) (by rfl) (by decide) c_22; omega
            refine lv_aload_n hx hb dX5_run_112 rfl (lv_at hl 3 rfl) ?_
            refine va_get (D := G.1) (ci := 5) (v := .ref a_1) (C := RX5) (T := TX5) (N := 13) hx hb hts inG_X5 hown hK hP 4 rfl rfl 0 (by decide) (hts _ fl_X5_22) (fun _ h9 => h9) rfl dX5_run_113 ?_
            refine va_get (D := G.1) (ci := 1) (v := .long 0) (C := RX1) (T := TX1) (N := 13) hx hb hts inG_X1 hown hK hP 0 rfl rfl 0 (by decide) (hts _ fl_X5_74) (fun _ h9 => h9) rfl dX5_run_116 ?_
            refine lv_iload hx hb dX5_run_119 (lv_at hl 0 rfl) ?_
            have hPc := hP.sub (ws' := []) [] rfl
            have hDc := hD.sub (ws' := []) [] (by decide) rfl
            have hFc := va_free (wc := []) hD hS hA [] rfl
            refine va_calli (va_runSN (As := [.long 0, .int (k_c + 1)]) (rest := []) ⟨hx, hb, hml, hown, hts⟩ (kX11_isOn_2 l G H.size (k_c + 1) ⟨by omega, by omega⟩) ⟨va_cnB 2 hts gW_X11_isOn rfl rfl rfl (hN.1 _ g5_nw_X5_77) (hts _ ini_X11) hs_X11_isOn ⟨Nat.le_of_ble_eq_true rfl, Nat.le_of_ble_eq_true rfl⟩, hts _ st_X11_isOn, trivial⟩ (g5_preS hPc hK hDc hN hT hS hFc) rfl rfl hl.1 rfl (lv_room (Nat.le_of_ble_eq_true rfl)) dX5_run_121 ⟨Nat.le_of_ble_eq_true rfl, Nat.le_of_ble_eq_true rfl⟩) hS (fun q _ h => hFc q h) hFc (fun r u t H1 locs ht hvm hw hB hz1 hk1 hS => ?_)
            obtain ⟨hP1, hD1⟩ := hB
            rw [ht] at hP1
            obtain ⟨rfl, rfl⟩ := hw
            have hP := g5_same hP hk1
            generalize H1 = H at hP hS ⊢
            refine lv_if_eq (tgt := 128) hx hb dX5_run_124 (by decide) (fun c_23 => ?_) (fun c_23 => ?_)
            ·
              refine lv_aload_n hx hb dX5_run_128 rfl (lv_at hl 3 rfl) ?_
              refine lv_iload hx hb dX5_run_129 (lv_at hl 0 rfl) ?_
              refine va_put (D := G.1) (ci := 5) (v := .int (k_c + 1)) (ty := .int) (C := RX5) (T := TX5) (N := 13) hx hb hts inG_X5 tyX5 tyX5_ok nmX5 hown hK hP hD hS 4 rfl rfl 9 (by decide) (hts _ fl_X5_26) (fun _ h9 => h9) rfl (by decide +kernel) rfl rfl (Nat.le_of_ble_eq_true rfl) dX5_run_131 (fun H locs hP hD hS => ?_)
              have hP : va_P G.1 vwCl [(a_1, .inr (1, [.long 0, .int 1000, .int (-1), .int (-1), .int 0, .ref a_2, .ref a_3, .ref a_5, .ref a_7, .ref a_9, .ref a_11, .long 0, .ref a_13])), (a_46, .inl (G.2 0, 200, .inl k_f)), (a_13, .inl (G.2 1, 24, .inr (.inl (fun _ => 0)))), (a_9, .inr (6, [.int 8, .int 5, .ref a_10, .int 0])), (a_42, .inr (5, [.ref a_1, .ref a_43, .ref a_46, .int k_n, .int (-1), .int k_l, .int 1000000, .int 0, .int e_met, .int (k_c + 1), .int 1, .int p_h, .int 0]))] H := hP
              have hD : va_D A [(a_1, .inr (1, [.long 0, .int 1000, .int (-1), .int (-1), .int 0, .ref a_2, .ref a_3, .ref a_5, .ref a_7, .ref a_9, .ref a_11, .long 0, .ref a_13])), (a_46, .inl (G.2 0, 200, .inl k_f)), (a_13, .inl (G.2 1, 24, .inr (.inl (fun _ => 0)))), (a_9, .inr (6, [.int 8, .int 5, .ref a_10, .int 0])), (a_42, .inr (5, [.ref a_1, .ref a_43, .ref a_46, .int k_n, .int (-1), .int k_l, .int 1000000, .int 0, .int e_met, .int (k_c + 1), .int 1, .int p_h, .int 0]))] := hD
              refine lv_aload_n hx hb dX5_run_134 rfl (lv_at hl 3 rfl) ?_
              refine lv_aload_n hx hb dX5_run_135 rfl (lv_at hl 3 rfl) ?_
              refine va_get (D := G.1) (ci := 5) (v := .int p_h) (C := RX5) (T := TX5) (N := 13) hx hb hts inG_X5 hown hK hP 4 rfl rfl 11 (by decide) (hts _ fl_X5_33) (fun _ h9 => h9) rfl dX5_run_136 ?_
              refine va_put (D := G.1) (ci := 5) (v := .int p_h) (ty := .int) (C := RX5) (T := TX5) (N := 13) hx hb hts inG_X5 tyX5 tyX5_ok nmX5 hown hK hP hD hS 4 rfl rfl 5 (by decide) (hts _ fl_X5_42) (fun _ h9 => h9) rfl (by decide +kernel) rfl rfl (Nat.le_of_ble_eq_true rfl) dX5_run_139 (fun H locs hP hD hS => ?_)
              have hP : va_P G.1 vwCl [(a_1, .inr (1, [.long 0, .int 1000, .int (-1), .int (-1), .int 0, .ref a_2, .ref a_3, .ref a_5, .ref a_7, .ref a_9, .ref a_11, .long 0, .ref a_13])), (a_46, .inl (G.2 0, 200, .inl k_f)), (a_13, .inl (G.2 1, 24, .inr (.inl (fun _ => 0)))), (a_9, .inr (6, [.int 8, .int 5, .ref a_10, .int 0])), (a_42, .inr (5, [.ref a_1, .ref a_43, .ref a_46, .int k_n, .int (-1), .int p_h, .int 1000000, .int 0, .int e_met, .int (k_c + 1), .int 1, .int p_h, .int 0]))] H := hP
              have hD : va_D A [(a_1, .inr (1, [.long 0, .int 1000, .int (-1), .int (-1), .int 0, .ref a_2, .ref a_3, .ref a_5, .ref a_7, .ref a_9, .ref a_11, .long 0, .ref a_13])), (a_46, .inl (G.2 0, 200, .inl k_f)), (a_13, .inl (G.2 1, 24, .inr (.inl (fun _ => 0)))), (a_9, .inr (6, [.int 8, .int 5, .ref a_10, .int 0])), (a_42, .inr (5, [.ref a_1, .ref a_43, .ref a_46, .int k_n, .int (-1), .int p_h, .int 1000000, .int 0, .int e_met, .int (k_c + 1), .int 1, .int p_h, .int 0]))] := hD
              refine lv_aload_n hx hb dX5_run_142 rfl (lv_at hl 3 rfl) ?_
              refine va_get (D := G.1) (ci := 5) (v := .ref a_46) (C := RX5) (T := TX5) (N := 13) hx hb hts inG_X5 hown hK hP 4 rfl rfl 2 (by decide) (hts _ fl_X5_18) (fun _ h9 => h9) rfl dX5_run_143 ?_
              refine lv_iload hx hb dX5_run_146 (lv_at hl 1 rfl) ?_
              refine lv_aload_n hx hb dX5_run_148 rfl (lv_at hl 3 rfl) ?_
              refine va_get (D := G.1) (ci := 5) (v := .int p_h) (C := RX5) (T := TX5) (N := 13) hx hb hts inG_X5 hown hK hP 4 rfl rfl 11 (by decide) (hts _ fl_X5_33) (fun _ h9 => h9) rfl dX5_run_149 ?_
              refine lv_bipush (v := 64) hx hb dX5_run_152 (by decide) ?_
              refine lv_imul hx hb dX5_run_154 ?_
              have t_24 : (p_h * 64).toInt = p_h.toInt * 64 := g5_imul (a := p_h.toInt) (b := 64) (by rfl) (by decide) (by omega) (by omega)
              refine lv_aload_n hx hb dX5_run_155 rfl (lv_at hl 3 rfl) ?_
              refine va_get (D := G.1) (ci := 5) (v := .int (k_c + 1)) (C := RX5) (T := TX5) (N := 13) hx hb hts inG_X5 hown hK hP 4 rfl rfl 9 (by decide) (hts _ fl_X5_26) (fun _ h9 => h9) rfl dX5_run_156 ?_
              refine lv_iadd hx hb dX5_run_159 ?_
              have t_25 : ((p_h * 64) + (k_c + 1)).toInt = (p_h * 64).toInt + (k_c + 1).toInt := g5_iadd (a := (p_h * 64).toInt) (b := (k_c + 1).toInt) (by rfl) (by rfl) (by omega) (by omega)
              refine va_iast hx hb hK hP hD hS 1 0 rfl rfl (i := k_s) (x := ((p_h * 64) + (k_c + 1))) (vp_in_iff.mpr ⟨by omega, by omega⟩) dX5_run_160 (fun H locs hP hD hS => ?_)
              have hP : va_P G.1 vwCl [(a_1, .inr (1, [.long 0, .int 1000, .int (-1), .int (-1), .int 0, .ref a_2, .ref a_3, .ref a_5, .ref a_7, .ref a_9, .ref a_11, .long 0, .ref a_13])), (a_46, .inl (G.2 0, 200, .inl (upd k_f k_s.toNatClampNeg ((p_h * 64) + (k_c + 1))))), (a_13, .inl (G.2 1, 24, .inr (.inl (fun _ => 0)))), (a_9, .inr (6, [.int 8, .int 5, .ref a_10, .int 0])), (a_42, .inr (5, [.ref a_1, .ref a_43, .ref a_46, .int k_n, .int (-1), .int p_h, .int 1000000, .int 0, .int e_met, .int (k_c + 1), .int 1, .int p_h, .int 0]))] H := hP
              have hD : va_D A [(a_1, .inr (1, [.long 0, .int 1000, .int (-1), .int (-1), .int 0, .ref a_2, .ref a_3, .ref a_5, .ref a_7, .ref a_9, .ref a_11, .long 0, .ref a_13])), (a_46, .inl (G.2 0, 200, .inl (upd k_f k_s.toNatClampNeg ((p_h * 64) + (k_c + 1))))), (a_13, .inl (G.2 1, 24, .inr (.inl (fun _ => 0)))), (a_9, .inr (6, [.int 8, .int 5, .ref a_10, .int 0])), (a_42, .inr (5, [.ref a_1, .ref a_43, .ref a_46, .int k_n, .int (-1), .int p_h, .int 1000000, .int 0, .int e_met, .int (k_c + 1), .int 1, .int p_h, .int 0]))] := hD
              refine lv_aload_n hx hb dX5_run_161 rfl (lv_at hl 3 rfl) ?_
              refine lv_iload hx hb dX5_run_162 (lv_at hl 1 rfl) ?_
              refine lv_iconst (v := 1) hx hb dX5_run_164 (by decide) ?_
              refine lv_iadd hx hb dX5_run_165 ?_
              have t_26 : (k_s + 1).toInt = k_s.toInt + 1 := g5_iadd (a := k_s.toInt) (b := 1) (by rfl) (by decide) (by omega) (by omega)
              refine va_put (D := G.1) (ci := 5) (v := .int (k_s + 1)) (ty := .int) (C := RX5) (T := TX5) (N := 13) hx hb hts inG_X5 tyX5 tyX5_ok nmX5 hown hK hP hD hS 4 rfl rfl 3 (by decide) (hts _ fl_X5_36) (fun _ h9 => h9) rfl (by decide +kernel) rfl rfl (Nat.le_of_ble_eq_true rfl) dX5_run_166 (fun H locs hP hD hS => ?_)
              have hP : va_P G.1 vwCl [(a_1, .inr (1, [.long 0, .int 1000, .int (-1), .int (-1), .int 0, .ref a_2, .ref a_3, .ref a_5, .ref a_7, .ref a_9, .ref a_11, .long 0, .ref a_13])), (a_46, .inl (G.2 0, 200, .inl (upd k_f k_s.toNatClampNeg ((p_h * 64) + (k_c + 1))))), (a_13, .inl (G.2 1, 24, .inr (.inl (fun _ => 0)))), (a_9, .inr (6, [.int 8, .int 5, .ref a_10, .int 0])), (a_42, .inr (5, [.ref a_1, .ref a_43, .ref a_46, .int (k_s + 1), .int (-1), .int p_h, .int 1000000, .int 0, .int e_met, .int (k_c + 1), .int 1, .int p_h, .int 0]))] H := hP
              have hD : va_D A [(a_1, .inr (1, [.long 0, .int 1000, .int (-1), .int (-1), .int 0, .ref a_2, .ref a_3, .ref a_5, .ref a_7, .ref a_9, .ref a_11, .long 0, .ref a_13])), (a_46, .inl (G.2 0, 200, .inl (upd k_f k_s.toNatClampNeg ((p_h * 64) + (k_c + 1))))), (a_13, .inl (G.2 1, 24, .inr (.inl (fun _ => 0)))), (a_9, .inr (6, [.int 8, .int 5, .ref a_10, .int 0])), (a_42, .inr (5, [.ref a_1, .ref a_43, .ref a_46, .int (k_s + 1), .int (-1), .int p_h, .int 1000000, .int 0, .int e_met, .int (k_c + 1), .int 1, .int p_h, .int 0]))] := hD
              refine lv_aload_n hx hb dX5_run_169 rfl (lv_at hl 3 rfl) ?_
              refine va_get (D := G.1) (ci := 5) (v := .ref a_1) (C := RX5) (T := TX5) (N := 13) hx hb hts inG_X5 hown hK hP 4 rfl rfl 0 (by decide) (hts _ fl_X5_22) (fun _ h9 => h9) rfl dX5_run_170 ?_
              refine va_get (D := G.1) (ci := 1) (v := .ref a_13) (C := RX1) (T := TX1) (N := 13) hx hb hts inG_X1 hown hK hP 0 rfl rfl 12 (by decide) (hts _ fl_X5_81) (fun _ h9 => h9) rfl dX5_run_173 ?_
              refine lv_aload_n hx hb dX5_run_176 rfl (lv_at hl 3 rfl) ?_
              refine va_get (D := G.1) (ci := 5) (v := .int p_h) (C := RX5) (T := TX5) (N := 13) hx hb hts inG_X5 hown hK hP 4 rfl rfl 11 (by decide) (hts _ fl_X5_33) (fun _ h9 => h9) rfl dX5_run_177 ?_
              refine va_lald hx hb hK hP 2 1 rfl rfl (i := p_h) (vp_in_iff.mpr ⟨by omega, by omega⟩) dX5_run_180 ?_
              refine g5_tl (v := 0) rfl ?_
              refine lv_lload hx hb dX5_run_181 (lv_at hl 2 rfl) ?_
              refine lv_lor hx hb dX5_run_183 ?_
              refine g5_tl (v := 0) (by decide) ?_
              refine lv_aload_n hx hb dX5_run_184 rfl (lv_at hl 3 rfl) ?_
              refine va_get (D := G.1) (ci := 5) (v := .int (k_c + 1)) (C := RX5) (T := TX5) (N := 13) hx hb hts inG_X5 hown hK hP 4 rfl rfl 9 (by decide) (hts _ fl_X5_26) (fun _ h9 => h9) rfl dX5_run_185 ?_
              have hPc := hP.sub (ws' := []) [] rfl
              have hDc := hD.sub (ws' := []) [] (by decide) rfl
              have hFc := va_free (wc := []) hD hS hA [] rfl
              refine va_calli (va_runSN (As := [.long 0, .int (k_c + 1)]) (rest := []) ⟨hx, hb, hml, hown, hts⟩ (kX11_isOn_2 l G H.size (k_c + 1) ⟨by omega, by omega⟩) ⟨va_cnB 2 hts gW_X11_isOn rfl rfl rfl (hN.1 _ g5_nw_X5_77) (hts _ ini_X11) hs_X11_isOn ⟨Nat.le_of_ble_eq_true rfl, Nat.le_of_ble_eq_true rfl⟩, hts _ st_X11_isOn, trivial⟩ (g5_preS hPc hK hDc hN hT hS hFc) rfl rfl hl.1 rfl (lv_room (Nat.le_of_ble_eq_true rfl)) dX5_run_188 ⟨Nat.le_of_ble_eq_true rfl, Nat.le_of_ble_eq_true rfl⟩) hS (fun q _ h => hFc q h) hFc (fun r u t H1 locs ht hvm hw hB hz1 hk1 hS => ?_)
              obtain ⟨hP1, hD1⟩ := hB
              rw [ht] at hP1
              obtain ⟨rfl, rfl⟩ := hw
              have hP := g5_same hP hk1
              generalize H1 = H at hP hS ⊢
              refine lv_if_eq (tgt := 221) hx hb dX5_run_191 (by decide) (fun c_27 => ?_) (fun c_27 => ?_)
              ·
                refine lv_iinc (v := (k_s + 1)) (lv' := [(7, .int (k_s + 1)), (8, .int (k_c + 1)), (5, .long 0), (0, .ref a_42), (1, .int p_c), (2, .int 1), (3, .int p_h)]) hx hb dX5_run_221 hl (k := 1) rfl rfl (by decide) rfl (fun ls hl => ?_)
                have t_28 : (k_s + 1).toInt = k_s.toInt + 1 := g5_iadd (a := k_s.toInt) (b := 1) rfl (by decide) (by omega) (by omega)
                refine lv_goto (tgt := 78) hx hb dX5_run_224 (by decide) ?_
                exact ih_78_15 ((k_s + 1), (k_s + 1), p_h, (k_c + 1), (upd k_f k_s.toNatClampNeg ((p_h * 64) + (k_c + 1)))) ls H locs (show Int.toNat (200 - (k_s + 1).toInt) < Int.toNat (200 - k_s.toInt) by omega) ⟨lv_sub hl [0, 2, 3, 4, 5, 6] rfl, hP, hD, hS, ⟨by omega, by omega⟩, ⟨by omega, by omega⟩, ⟨by omega, by omega⟩, ⟨by omega, by omega⟩, by omega, by omega, by omega, ⟨fun h => by omega, fun _ => rfl⟩, g5_pts (fun j => p_h.toInt * 64 + (p_c.toInt + (j + 1))) i_14 (by omega) (by omega) (by show _ = p_h.toInt * 64 + (p_c.toInt + (k_s.toInt + 1)); omega)⟩
              ·
                exact absurd c_27 (by decide)
            ·
              exact absurd c_23 (by decide)
  ·
    exact absurd c_5 (by decide)
set_option maxHeartbeats 4000000 in
set_option maxRecDepth 100000 in
theorem kX11_isLook_3 (l : Launch) (G : g5_G) (sz : Nat) (n0 : Int32) (n1 : Int32) (h_n0 : 0 ≤ n0.toInt ∧ n0.toInt ≤ 63) (h_n1 : 0 ≤ n1.toInt ∧ n1.toInt ≤ 23) : Met l yX11_isLook (wsG yX11_isLook cX11_isLook 3 (some .boolean)) ({ frames := 1, cells := 0, slots := 0, locals := 20 }) (va_Pc [.int n0, .int 2, .int n1] (g5_P G [] sz)) (va_Qi (fun (r : Int32) (u : va_W) => ((n0.toInt ≥ 0) ∧ (n0.toInt < 64) ∧ (n1.toInt ≥ 0) ∧ (n1.toInt < 24) ∧ (r = 1) ∧ (u = []))) (g5_B G (va_A [] sz)) (va_A [] sz)) 0 0 (va_A [] sz) := by
  refine Met.ofW (cc := cX11_isLook) (maxL := 3) (ret := (some .boolean)) (by decide) rfl ?_
  intro p e s m args below meth c s₁ B hml hv
  obtain ⟨rfl, hsz, hP, hK, hD0, hN, hT⟩ := hv
  have hx := B.exec
  have hb := B.bytes
  have hr := B.returns
  have hts : ∀ w ∈ tblG, w.before _ s = true := fun w h => atoms_spec (ws := (wsG yX11_isLook cX11_isLook 3 (some .boolean))) B.pre w (List.mem_cons_of_mem _ h)
  have hown : s.vm.findClass RX11 = some m.cls := findClass_of_methodNamed B.named
  have hlocks := B.notSynchronized
  subst hsz
  have hD := hD0.self (sz := s.heap.size)
  generalize hAe : va_A [] s.heap.size = A at hD hT ⊢
  have hA : ∀ q : Nat, s.heap.size ≤ q → A q := fun q h => by rw [← hAe]; exact Or.inr h
  have hS : va_S A s.heap s.heap [] := va_S.rf
  have hP : va_P G.1 vwCl [] s.heap := hP
  have hl := lv_entry ([.int n0, .int 2, .int n1]) (n := 3) (Nat.le_of_ble_eq_true rfl)
  rw [lg_entry_eq]
  generalize (lg_sl ([.int n0, .int 2, .int n1]) ++ List.replicate (3 - (lg_sl ([.int n0, .int 2, .int n1])).length) Slot.unset).toArray = ls at hl ⊢
  have hl : lv_has ls 3 [(0, .int n0), (1, .int 2), (2, .int n1)] := hl
  refine lv_iload_n hx hb dX11_isLook_0 rfl (lv_at hl 0 rfl) ?_
  have hPc := hP.sub (ws' := []) [] rfl
  have hDc := hD.sub (ws' := []) [] (by decide) rfl
  have hFc := va_free (wc := []) hD hS hA [] rfl
  refine va_calli (va_runS (As := [.int n0]) (rest := []) ⟨hx, hb, hml, hown, hts⟩ (kX11_isCell l G s.heap.size n0 ⟨by omega, by omega⟩) (va_cwS 1 hts gS_X11_97 rfl rfl rfl hs_X11_isCell ⟨Nat.le_of_ble_eq_true rfl, Nat.le_of_ble_eq_true rfl⟩) (g5_preS hPc hK hDc hN hT hS hFc) rfl rfl hl.1 rfl (lv_room (Nat.le_of_ble_eq_true rfl)) dX11_isLook_1 ⟨Nat.le_of_ble_eq_true rfl, Nat.le_of_ble_eq_true rfl⟩) hS (fun q _ h => hFc q h) hFc (fun r u t H1 locs ht hvm hw hB hz1 hk1 hS => ?_)
  obtain ⟨hP1, hD1⟩ := hB
  rw [ht] at hP1
  obtain ⟨i_1, i_2, rfl, rfl⟩ := hw
  have hP := g5_same hP hk1
  generalize H1 = H at hP hS ⊢
  refine lv_if_eq (tgt := 27) hx hb dX11_isLook_4 (by decide) (fun c_3 => ?_) (fun c_3 => ?_)
  ·
    exact absurd c_3 (by decide)
  ·
    refine lv_iload_n hx hb dX11_isLook_7 rfl (lv_at hl 1 rfl) ?_
    refine lv_if_lt (tgt := 27) hx hb dX11_isLook_8 (by decide) (fun c_4 => ?_) (fun c_4 => ?_)
    ·
      exact absurd c_4 (by decide)
    ·
      refine lv_iload_n hx hb dX11_isLook_11 rfl (lv_at hl 1 rfl) ?_
      refine lv_iconst (v := 4) hx hb dX11_isLook_12 (by decide) ?_
      refine lv_icmp_ge (tgt := 27) hx hb dX11_isLook_13 (by decide) (fun c_5 => ?_) (fun c_5 => ?_)
      ·
        exact absurd c_5 (by decide)
      ·
        refine lv_iload_n hx hb dX11_isLook_16 rfl (lv_at hl 2 rfl) ?_
        have hPc := hP.sub (ws' := []) [] rfl
        have hDc := hD.sub (ws' := []) [] (by decide) rfl
        have hFc := va_free (wc := []) hD hS hA [] rfl
        refine va_calli (va_runS (As := [.int n1]) (rest := []) ⟨hx, hb, hml, hown, hts⟩ (kX11_isHour l G H.size n1 ⟨by omega, by omega⟩) (va_cwS 1 hts gS_X11_127 rfl rfl rfl hs_X11_isHour ⟨Nat.le_of_ble_eq_true rfl, Nat.le_of_ble_eq_true rfl⟩) (g5_preS hPc hK hDc hN hT hS hFc) rfl rfl hl.1 rfl (lv_room (Nat.le_of_ble_eq_true rfl)) dX11_isLook_17 ⟨Nat.le_of_ble_eq_true rfl, Nat.le_of_ble_eq_true rfl⟩) hS (fun q _ h => hFc q h) hFc (fun r u t H1 locs ht hvm hw hB hz1 hk1 hS => ?_)
        obtain ⟨hP1, hD1⟩ := hB
        rw [ht] at hP1
        obtain ⟨i_6, i_7, rfl, rfl⟩ := hw
        have hP := g5_same hP hk1
        generalize H1 = H at hP hS ⊢
        refine lv_if_eq (tgt := 27) hx hb dX11_isLook_20 (by decide) (fun c_8 => ?_) (fun c_8 => ?_)
        ·
          exact absurd c_8 (by decide)
        ·
          refine lv_iconst (v := 1) hx hb dX11_isLook_23 (by decide) ?_
          refine lv_goto (tgt := 28) hx hb dX11_isLook_24 (by decide) ?_
          exact W.zret (v := 1) hx hb hr rfl (fun t ht hW => ⟨⟨1, [], rfl, ⟨i_1, i_2, i_6, i_7, rfl, rfl⟩, by rw [ht]; exact hP, hD⟩, hS.F ht⟩) hS.2.2 dX11_isLook_28
set_option maxHeartbeats 4000000 in
set_option maxRecDepth 100000 in
theorem kX5_hungBoard_3 (l : Launch) (G : g5_G) (a0 a1 a2 a3 : Nat) (sz : Nat) (n0 : Int32) (n1 : Int32) (n2 : Int32) (h_n1 : 0 ≤ n1.toInt ∧ n1.toInt ≤ 63) (h_n2 : 0 ≤ n2.toInt ∧ n2.toInt ≤ 23) : Met l yX5_hungBoard (wsG yX5_hungBoard cX5_hungBoard 5 (some .long)) ({ frames := 0, cells := 0, slots := 0, locals := 0 }) (va_Pc [.ref a0, .int 0] (g5_P G [(a0, .inr (5, [.ref a1, .ref a2, .ref a3, .int 0, .int (-1), .int (-1), .int 1000000, .int 0, .int n0, .int n1, .int 2, .int n2, .int 0]))] sz)) (va_Ql (fun (r : Int64) (u : va_W) => ((r = 0) ∧ (u = [(a0, .inr (5, [.ref a1, .ref a2, .ref a3, .int 0, .int (-1), .int (-1), .int 1000000, .int 0, .int n0, .int n1, .int 2, .int n2, .int 0]))]))) (g5_B G (va_A [(a0, .inr (5, [.ref a1, .ref a2, .ref a3, .int 0, .int (-1), .int (-1), .int 1000000, .int 0, .int n0, .int n1, .int 2, .int n2, .int 0]))] sz)) (va_A [(a0, .inr (5, [.ref a1, .ref a2, .ref a3, .int 0, .int (-1), .int (-1), .int 1000000, .int 0, .int n0, .int n1, .int 2, .int n2, .int 0]))] sz)) 0 0 (va_A [(a0, .inr (5, [.ref a1, .ref a2, .ref a3, .int 0, .int (-1), .int (-1), .int 1000000, .int 0, .int n0, .int n1, .int 2, .int n2, .int 0]))] sz) := by
  refine Met.ofW (cc := cX5_hungBoard) (maxL := 5) (ret := (some .long)) (by decide) rfl ?_
  intro p e s m args below meth c s₁ B hml hv
  obtain ⟨rfl, hsz, hP, hK, hD0, hN, hT⟩ := hv
  have hx := B.exec
  have hb := B.bytes
  have hr := B.returns
  have hts : ∀ w ∈ tblG, w.before _ s = true := fun w h => atoms_spec (ws := (wsG yX5_hungBoard cX5_hungBoard 5 (some .long))) B.pre w (List.mem_cons_of_mem _ h)
  have hown : s.vm.findClass RX5 = some m.cls := findClass_of_methodNamed B.named
  have hlocks := B.notSynchronized
  subst hsz
  have hD := hD0.self (sz := s.heap.size)
  generalize hAe : va_A [(a0, .inr (5, [.ref a1, .ref a2, .ref a3, .int 0, .int (-1), .int (-1), .int 1000000, .int 0, .int n0, .int n1, .int 2, .int n2, .int 0]))] s.heap.size = A at hD hT ⊢
  have hA : ∀ q : Nat, s.heap.size ≤ q → A q := fun q h => by rw [← hAe]; exact Or.inr h
  have hS : va_S A s.heap s.heap [] := va_S.rf
  have hP : va_P G.1 vwCl [(a0, .inr (5, [.ref a1, .ref a2, .ref a3, .int 0, .int (-1), .int (-1), .int 1000000, .int 0, .int n0, .int n1, .int 2, .int n2, .int 0]))] s.heap := hP
  have hl := lv_entry ([.ref a0, .int 0]) (n := 5) (Nat.le_of_ble_eq_true rfl)
  rw [lg_entry_eq]
  generalize (lg_sl ([.ref a0, .int 0]) ++ List.replicate (5 - (lg_sl ([.ref a0, .int 0])).length) Slot.unset).toArray = ls at hl ⊢
  have hl : lv_has ls 5 [(0, .ref a0), (1, .int 0)] := hl
  refine lv_lconst (v := 0) hx hb dX5_hungBoard_0 (by decide) ?_
  refine lv_lstore_n (lv' := [(2, .long 0), (0, .ref a0), (1, .int 0)]) hx hb dX5_hungBoard_1 rfl hl (by decide) rfl (fun ls hl => ?_)
  refine lv_iconst (v := 0) hx hb dX5_hungBoard_2 (by decide) ?_
  refine lv_istore (lv' := [(4, .int 0), (2, .long 0), (0, .ref a0), (1, .int 0)]) hx hb dX5_hungBoard_3 hl (by decide) rfl (fun ls hl => ?_)
  refine lv_iload_n hx hb dX5_hungBoard_5 rfl (lv_at hl 3 rfl) ?_
  refine lv_iload hx hb dX5_hungBoard_6 (lv_at hl 0 rfl) ?_
  refine lv_ishr hx hb dX5_hungBoard_8 ?_
  refine g5_ti (v := 0) (by decide) ?_
  refine lv_if_eq (tgt := 64) hx hb dX5_hungBoard_9 (by decide) (fun c_1 => ?_) (fun c_1 => ?_)
  ·
    refine lv_lload_n hx hb dX5_hungBoard_64 rfl (lv_at hl 1 rfl) ?_
    exact W.lret (v := 0) hx hb hr (fun t ht hW => ⟨⟨0, [(a0, .inr (5, [.ref a1, .ref a2, .ref a3, .int 0, .int (-1), .int (-1), .int 1000000, .int 0, .int n0, .int n1, .int 2, .int n2, .int 0]))], rfl, ⟨rfl, rfl⟩, by rw [ht]; exact hP, hD⟩, hS.F ht⟩) hS.2.2 dX5_hungBoard_65
  ·
    exact absurd c_1 (by decide)
set_option maxHeartbeats 4000000 in
set_option maxRecDepth 100000 in
theorem kX11_beside_3 (l : Launch) (G : g5_G) (sz : Nat) (n0 : Int32) (h_n0 : 0 ≤ n0.toInt ∧ n0.toInt ≤ 63) : Met l yX11_beside (wsG yX11_beside cX11_beside 2 (some .int)) ({ frames := 0, cells := 0, slots := 0, locals := 0 }) (va_Pc [.int n0, .int 2] (g5_P G [] sz)) (va_Qi (fun (r : Int32) (u : va_W) => ((n0.toInt ≥ 56) ∧ (r = (-1)) ∧ (u = [])) ∨ ((n0.toInt < 56) ∧ ((n0 + 8).toInt = (n0.toInt + 8)) ∧ (r = (n0 + 8)) ∧ (u = []))) (g5_B G (va_A [] sz)) (va_A [] sz)) 0 0 (va_A [] sz) := by
  refine Met.ofW (cc := cX11_beside) (maxL := 2) (ret := (some .int)) (by decide) rfl ?_
  intro p e s m args below meth c s₁ B hml hv
  obtain ⟨rfl, hsz, hP, hK, hD0, hN, hT⟩ := hv
  have hx := B.exec
  have hb := B.bytes
  have hr := B.returns
  have hts : ∀ w ∈ tblG, w.before _ s = true := fun w h => atoms_spec (ws := (wsG yX11_beside cX11_beside 2 (some .int))) B.pre w (List.mem_cons_of_mem _ h)
  have hown : s.vm.findClass RX11 = some m.cls := findClass_of_methodNamed B.named
  have hlocks := B.notSynchronized
  subst hsz
  have hD := hD0.self (sz := s.heap.size)
  generalize hAe : va_A [] s.heap.size = A at hD hT ⊢
  have hA : ∀ q : Nat, s.heap.size ≤ q → A q := fun q h => by rw [← hAe]; exact Or.inr h
  have hS : va_S A s.heap s.heap [] := va_S.rf
  have hP : va_P G.1 vwCl [] s.heap := hP
  have hl := lv_entry ([.int n0, .int 2]) (n := 2) (Nat.le_of_ble_eq_true rfl)
  rw [lg_entry_eq]
  generalize (lg_sl ([.int n0, .int 2]) ++ List.replicate (2 - (lg_sl ([.int n0, .int 2])).length) Slot.unset).toArray = ls at hl ⊢
  have hl : lv_has ls 2 [(0, .int n0), (1, .int 2)] := hl
  refine lv_iload_n hx hb dX11_beside_0 rfl (lv_at hl 1 rfl) ?_
  refine lv_tableIn (tgt := 64) hx hb dX11_beside_1 (by decide) (by decide) rfl (by decide) ?_
  refine lv_iload_n hx hb dX11_beside_64 rfl (lv_at hl 0 rfl) ?_
  refine lv_bipush (v := 56) hx hb dX11_beside_65 (by decide) ?_
  refine lv_icmp_ge (tgt := 77) hx hb dX11_beside_67 (by decide) (fun c_1 => ?_) (fun c_1 => ?_)
  ·
    have i_1 : n0.toInt ≥ 56 := by have z := g5_ge (a := n0.toInt) (b := 56) (by rfl) (by decide) c_1; omega
    refine lv_iconst (v := (-1)) hx hb dX11_beside_77 (by decide) ?_
    exact W.iret (v := (-1)) hx hb hr (fun t ht hW => ⟨⟨(-1), [], rfl, Or.inl (⟨i_1, rfl, rfl⟩), by rw [ht]; exact hP, hD⟩, hS.F ht⟩) hS.2.2 dX11_beside_78
  ·
    have i_1 : n0.toInt < 56 := by have z := g5_geN (a := n0.toInt) (b := 56) (by rfl) (by decide) c_1; omega
    refine lv_iload_n hx hb dX11_beside_70 rfl (lv_at hl 0 rfl) ?_
    refine lv_bipush (v := 8) hx hb dX11_beside_71 (by decide) ?_
    refine lv_iadd hx hb dX11_beside_73 ?_
    have t_2 : (n0 + 8).toInt = n0.toInt + 8 := g5_iadd (a := n0.toInt) (b := 8) (by rfl) (by decide) (by omega) (by omega)
    refine lv_goto (tgt := 78) hx hb dX11_beside_74 (by decide) ?_
    exact W.iret (v := (n0 + 8)) hx hb hr (fun t ht hW => ⟨⟨(n0 + 8), [], rfl, Or.inr (⟨i_1, (by omega), rfl, rfl⟩), by rw [ht]; exact hP, hD⟩, hS.F ht⟩) hS.2.2 dX11_beside_78
set_option maxHeartbeats 4000000 in
set_option maxRecDepth 100000 in
theorem kX11_isOn_3 (l : Launch) (G : g5_G) (sz : Nat) (n0 : Int32) (h_n0 : 8 ≤ n0.toInt ∧ n0.toInt ≤ 63) : Met l yX11_isOn (wsG yX11_isOn cX11_isOn 3 (some .boolean)) ({ frames := 0, cells := 0, slots := 0, locals := 0 }) (va_Pc [.long 0, .int n0] (g5_P G [] sz)) (va_Qi (fun (r : Int32) (u : va_W) => ((r = 0) ∧ (u = []))) (g5_B G (va_A [] sz)) (va_A [] sz)) 0 0 (va_A [] sz) := by
  refine Met.ofW (cc := cX11_isOn) (maxL := 3) (ret := (some .boolean)) (by decide) rfl ?_
  intro p e s m args below meth c s₁ B hml hv
  obtain ⟨rfl, hsz, hP, hK, hD0, hN, hT⟩ := hv
  have hx := B.exec
  have hb := B.bytes
  have hr := B.returns
  have hts : ∀ w ∈ tblG, w.before _ s = true := fun w h => atoms_spec (ws := (wsG yX11_isOn cX11_isOn 3 (some .boolean))) B.pre w (List.mem_cons_of_mem _ h)
  have hown : s.vm.findClass RX11 = some m.cls := findClass_of_methodNamed B.named
  have hlocks := B.notSynchronized
  subst hsz
  have hD := hD0.self (sz := s.heap.size)
  generalize hAe : va_A [] s.heap.size = A at hD hT ⊢
  have hA : ∀ q : Nat, s.heap.size ≤ q → A q := fun q h => by rw [← hAe]; exact Or.inr h
  have hS : va_S A s.heap s.heap [] := va_S.rf
  have hP : va_P G.1 vwCl [] s.heap := hP
  have hl := lv_entry ([.long 0, .int n0]) (n := 3) (Nat.le_of_ble_eq_true rfl)
  rw [lg_entry_eq]
  generalize (lg_sl ([.long 0, .int n0]) ++ List.replicate (3 - (lg_sl ([.long 0, .int n0])).length) Slot.unset).toArray = ls at hl ⊢
  have hl : lv_has ls 3 [(0, .long 0), (2, .int n0)] := hl
  refine lv_lload_n hx hb dX11_isOn_0 rfl (lv_at hl 0 rfl) ?_
  refine lv_iload_n hx hb dX11_isOn_1 rfl (lv_at hl 1 rfl) ?_
  refine lv_lushr (v := 0) hx hb dX11_isOn_2 (g5_sh0 _) ?_
  refine lv_lconst (v := 1) hx hb dX11_isOn_3 (by decide) ?_
  refine lv_land hx hb dX11_isOn_4 ?_
  refine g5_tl (v := 0) (by decide) ?_
  refine lv_lconst (v := 0) hx hb dX11_isOn_5 (by decide) ?_
  refine W.lcmp hx hb dX11_isOn_6 ?_
  refine g5_ti (v := 0) (by decide) ?_
  refine lv_if_eq (tgt := 14) hx hb dX11_isOn_7 (by decide) (fun c_1 => ?_) (fun c_1 => ?_)
  ·
    refine lv_iconst (v := 0) hx hb dX11_isOn_14 (by decide) ?_
    exact W.zret (v := 0) hx hb hr rfl (fun t ht hW => ⟨⟨0, [], rfl, ⟨rfl, rfl⟩, by rw [ht]; exact hP, hD⟩, hS.F ht⟩) hS.2.2 dX11_isOn_15
  ·
    exact absurd c_1 (by decide)
set_option maxHeartbeats 4000000 in
set_option maxRecDepth 100000 in
theorem k_run2 (l : Launch) (G : g5_G) (a_42 a_1 a_46 a_13 a_9 a_43 a_2 a_3 a_5 a_7 a_11 a_10 : Nat) (sz : Nat) (p_c : Int32) (p_h : Int32) (e_length : Int32) (e_seen : Int32) (e_lastHour : Int32) (e_bright : Int32) (e_went : Int32) (e_met : Int32) (e_cell : Int32) (e_way : Int32) (e_hour : Int32) (f_p : Nat → Int32) (h_p_c : 0 ≤ p_c.toInt ∧ p_c.toInt ≤ 63) (h_p_h : 0 ≤ p_h.toInt ∧ p_h.toInt ≤ 23) : Met l yX5_run (wsG yX5_run cX5_run 9 none) ({ frames := 2, cells := 0, slots := 0, locals := 42 }) (va_Pc [.ref a_42, .int p_c, .int 2, .int p_h, .int 0] (g5_P G [(a_42, .inr (5, [.ref a_1, .ref a_43, .ref a_46, .int e_length, .int e_seen, .int e_lastHour, .int e_bright, .int e_went, .int e_met, .int e_cell, .int e_way, .int e_hour, .int 0])), (a_1, .inr (1, [.long 0, .int 1000, .int (-1), .int (-1), .int 0, .ref a_2, .ref a_3, .ref a_5, .ref a_7, .ref a_9, .ref a_11, .long 0, .ref a_13])), (a_46, .inl (G.2 0, 200, .inl f_p)), (a_13, .inl (G.2 1, 24, .inr (.inl (fun _ => 0)))), (a_9, .inr (6, [.int 8, .int 5, .ref a_10, .int 0]))] sz)) (va_Qv (fun (u : va_W) => (∃ (o_n : Int32) (o_l : Int32) (o_c : Int32) (o_f : Nat → Int32), (o_n.toInt = 7 - p_c.toInt / 8) ∧ (0 ≤ o_n.toInt ∧ o_n.toInt ≤ 7) ∧ ((o_n.toInt = 0 → o_l.toInt = -1) ∧ (0 < o_n.toInt → o_l.toInt = p_h.toInt)) ∧ (-1 ≤ o_l.toInt ∧ o_l.toInt ≤ 23) ∧ (0 ≤ o_c.toInt ∧ o_c.toInt ≤ 63) ∧ (∀ j : Nat, (j : Int) < o_n.toInt → (o_f j).toInt = p_h.toInt * 64 + (p_c.toInt + 8 * ((j : Int) + 1))) ∧ (u = [(a_42, .inr (5, [.ref a_1, .ref a_43, .ref a_46, .int o_n, .int (-1), .int o_l, .int 1000000, .int 0, .int e_met, .int o_c, .int 2, .int p_h, .int 0])), (a_1, .inr (1, [.long 0, .int 1000, .int (-1), .int (-1), .int 0, .ref a_2, .ref a_3, .ref a_5, .ref a_7, .ref a_9, .ref a_11, .long 0, .ref a_13])), (a_46, .inl (G.2 0, 200, .inl o_f)), (a_13, .inl (G.2 1, 24, .inr (.inl (fun _ => 0)))), (a_9, .inr (6, [.int 8, .int 5, .ref a_10, .int 0]))]))) (g5_B G (va_A [(a_42, .inr (5, [.ref a_1, .ref a_43, .ref a_46, .int e_length, .int e_seen, .int e_lastHour, .int e_bright, .int e_went, .int e_met, .int e_cell, .int e_way, .int e_hour, .int 0])), (a_1, .inr (1, [.long 0, .int 1000, .int (-1), .int (-1), .int 0, .ref a_2, .ref a_3, .ref a_5, .ref a_7, .ref a_9, .ref a_11, .long 0, .ref a_13])), (a_46, .inl (G.2 0, 200, .inl f_p)), (a_13, .inl (G.2 1, 24, .inr (.inl (fun _ => 0)))), (a_9, .inr (6, [.int 8, .int 5, .ref a_10, .int 0]))] sz)) (va_A [(a_42, .inr (5, [.ref a_1, .ref a_43, .ref a_46, .int e_length, .int e_seen, .int e_lastHour, .int e_bright, .int e_went, .int e_met, .int e_cell, .int e_way, .int e_hour, .int 0])), (a_1, .inr (1, [.long 0, .int 1000, .int (-1), .int (-1), .int 0, .ref a_2, .ref a_3, .ref a_5, .ref a_7, .ref a_9, .ref a_11, .long 0, .ref a_13])), (a_46, .inl (G.2 0, 200, .inl f_p)), (a_13, .inl (G.2 1, 24, .inr (.inl (fun _ => 0)))), (a_9, .inr (6, [.int 8, .int 5, .ref a_10, .int 0]))] sz)) 0 0 (va_A [(a_42, .inr (5, [.ref a_1, .ref a_43, .ref a_46, .int e_length, .int e_seen, .int e_lastHour, .int e_bright, .int e_went, .int e_met, .int e_cell, .int e_way, .int e_hour, .int 0])), (a_1, .inr (1, [.long 0, .int 1000, .int (-1), .int (-1), .int 0, .ref a_2, .ref a_3, .ref a_5, .ref a_7, .ref a_9, .ref a_11, .long 0, .ref a_13])), (a_46, .inl (G.2 0, 200, .inl f_p)), (a_13, .inl (G.2 1, 24, .inr (.inl (fun _ => 0)))), (a_9, .inr (6, [.int 8, .int 5, .ref a_10, .int 0]))] sz) := by
  refine Met.ofW (cc := cX5_run) (maxL := 9) (ret := none) (by decide) rfl ?_
  intro p e s m args below meth c s₁ B hml hv
  obtain ⟨rfl, hsz, hP, hK, hD0, hN, hT⟩ := hv
  have hx := B.exec
  have hb := B.bytes
  have hr := B.returns
  have hts : ∀ w ∈ tblG, w.before _ s = true := fun w h => atoms_spec (ws := (wsG yX5_run cX5_run 9 none)) B.pre w (List.mem_cons_of_mem _ h)
  have hown : s.vm.findClass RX5 = some m.cls := findClass_of_methodNamed B.named
  have hlocks := B.notSynchronized
  subst hsz
  have hD := hD0.self (sz := s.heap.size)
  generalize hAe : va_A [(a_42, .inr (5, [.ref a_1, .ref a_43, .ref a_46, .int e_length, .int e_seen, .int e_lastHour, .int e_bright, .int e_went, .int e_met, .int e_cell, .int e_way, .int e_hour, .int 0])), (a_1, .inr (1, [.long 0, .int 1000, .int (-1), .int (-1), .int 0, .ref a_2, .ref a_3, .ref a_5, .ref a_7, .ref a_9, .ref a_11, .long 0, .ref a_13])), (a_46, .inl (G.2 0, 200, .inl f_p)), (a_13, .inl (G.2 1, 24, .inr (.inl (fun _ => 0)))), (a_9, .inr (6, [.int 8, .int 5, .ref a_10, .int 0]))] s.heap.size = A at hD hT ⊢
  have hA : ∀ q : Nat, s.heap.size ≤ q → A q := fun q h => by rw [← hAe]; exact Or.inr h
  have hS : va_S A s.heap s.heap [] := va_S.rf
  have hP : va_P G.1 vwCl [(a_42, .inr (5, [.ref a_1, .ref a_43, .ref a_46, .int e_length, .int e_seen, .int e_lastHour, .int e_bright, .int e_went, .int e_met, .int e_cell, .int e_way, .int e_hour, .int 0])), (a_1, .inr (1, [.long 0, .int 1000, .int (-1), .int (-1), .int 0, .ref a_2, .ref a_3, .ref a_5, .ref a_7, .ref a_9, .ref a_11, .long 0, .ref a_13])), (a_46, .inl (G.2 0, 200, .inl f_p)), (a_13, .inl (G.2 1, 24, .inr (.inl (fun _ => 0)))), (a_9, .inr (6, [.int 8, .int 5, .ref a_10, .int 0]))] s.heap := hP
  have hl := lv_entry ([.ref a_42, .int p_c, .int 2, .int p_h, .int 0]) (n := 9) (Nat.le_of_ble_eq_true rfl)
  rw [lg_entry_eq]
  generalize (lg_sl ([.ref a_42, .int p_c, .int 2, .int p_h, .int 0]) ++ List.replicate (9 - (lg_sl ([.ref a_42, .int p_c, .int 2, .int p_h, .int 0])).length) Slot.unset).toArray = ls at hl ⊢
  have hl : lv_has ls 9 [(0, .ref a_42), (1, .int p_c), (2, .int 2), (3, .int p_h), (4, .int 0)] := hl
  refine lv_aload_n hx hb dX5_run_0 rfl (lv_at hl 0 rfl) ?_
  refine lv_iload_n hx hb dX5_run_1 rfl (lv_at hl 1 rfl) ?_
  refine va_put (D := G.1) (ci := 5) (v := .int p_c) (ty := .int) (C := RX5) (T := TX5) (N := 13) hx hb hts inG_X5 tyX5 tyX5_ok nmX5 hown hK hP hD hS 0 rfl rfl 9 (by decide) (hts _ fl_X5_26) (fun _ h9 => h9) rfl (by decide +kernel) rfl rfl (Nat.le_of_ble_eq_true rfl) dX5_run_2 (fun H locs hP hD hS => ?_)
  have hP : va_P G.1 vwCl [(a_42, .inr (5, [.ref a_1, .ref a_43, .ref a_46, .int e_length, .int e_seen, .int e_lastHour, .int e_bright, .int e_went, .int e_met, .int p_c, .int e_way, .int e_hour, .int 0])), (a_1, .inr (1, [.long 0, .int 1000, .int (-1), .int (-1), .int 0, .ref a_2, .ref a_3, .ref a_5, .ref a_7, .ref a_9, .ref a_11, .long 0, .ref a_13])), (a_46, .inl (G.2 0, 200, .inl f_p)), (a_13, .inl (G.2 1, 24, .inr (.inl (fun _ => 0)))), (a_9, .inr (6, [.int 8, .int 5, .ref a_10, .int 0]))] H := hP
  have hD : va_D A [(a_42, .inr (5, [.ref a_1, .ref a_43, .ref a_46, .int e_length, .int e_seen, .int e_lastHour, .int e_bright, .int e_went, .int e_met, .int p_c, .int e_way, .int e_hour, .int 0])), (a_1, .inr (1, [.long 0, .int 1000, .int (-1), .int (-1), .int 0, .ref a_2, .ref a_3, .ref a_5, .ref a_7, .ref a_9, .ref a_11, .long 0, .ref a_13])), (a_46, .inl (G.2 0, 200, .inl f_p)), (a_13, .inl (G.2 1, 24, .inr (.inl (fun _ => 0)))), (a_9, .inr (6, [.int 8, .int 5, .ref a_10, .int 0]))] := hD
  refine lv_aload_n hx hb dX5_run_5 rfl (lv_at hl 0 rfl) ?_
  refine lv_iload_n hx hb dX5_run_6 rfl (lv_at hl 2 rfl) ?_
  refine va_put (D := G.1) (ci := 5) (v := .int 2) (ty := .int) (C := RX5) (T := TX5) (N := 13) hx hb hts inG_X5 tyX5 tyX5_ok nmX5 hown hK hP hD hS 0 rfl rfl 10 (by decide) (hts _ fl_X5_30) (fun _ h9 => h9) rfl (by decide +kernel) rfl rfl (Nat.le_of_ble_eq_true rfl) dX5_run_7 (fun H locs hP hD hS => ?_)
  have hP : va_P G.1 vwCl [(a_42, .inr (5, [.ref a_1, .ref a_43, .ref a_46, .int e_length, .int e_seen, .int e_lastHour, .int e_bright, .int e_went, .int e_met, .int p_c, .int 2, .int e_hour, .int 0])), (a_1, .inr (1, [.long 0, .int 1000, .int (-1), .int (-1), .int 0, .ref a_2, .ref a_3, .ref a_5, .ref a_7, .ref a_9, .ref a_11, .long 0, .ref a_13])), (a_46, .inl (G.2 0, 200, .inl f_p)), (a_13, .inl (G.2 1, 24, .inr (.inl (fun _ => 0)))), (a_9, .inr (6, [.int 8, .int 5, .ref a_10, .int 0]))] H := hP
  have hD : va_D A [(a_42, .inr (5, [.ref a_1, .ref a_43, .ref a_46, .int e_length, .int e_seen, .int e_lastHour, .int e_bright, .int e_went, .int e_met, .int p_c, .int 2, .int e_hour, .int 0])), (a_1, .inr (1, [.long 0, .int 1000, .int (-1), .int (-1), .int 0, .ref a_2, .ref a_3, .ref a_5, .ref a_7, .ref a_9, .ref a_11, .long 0, .ref a_13])), (a_46, .inl (G.2 0, 200, .inl f_p)), (a_13, .inl (G.2 1, 24, .inr (.inl (fun _ => 0)))), (a_9, .inr (6, [.int 8, .int 5, .ref a_10, .int 0]))] := hD
  refine lv_aload_n hx hb dX5_run_10 rfl (lv_at hl 0 rfl) ?_
  refine lv_iload_n hx hb dX5_run_11 rfl (lv_at hl 3 rfl) ?_
  refine va_put (D := G.1) (ci := 5) (v := .int p_h) (ty := .int) (C := RX5) (T := TX5) (N := 13) hx hb hts inG_X5 tyX5 tyX5_ok nmX5 hown hK hP hD hS 0 rfl rfl 11 (by decide) (hts _ fl_X5_33) (fun _ h9 => h9) rfl (by decide +kernel) rfl rfl (Nat.le_of_ble_eq_true rfl) dX5_run_12 (fun H locs hP hD hS => ?_)
  have hP : va_P G.1 vwCl [(a_42, .inr (5, [.ref a_1, .ref a_43, .ref a_46, .int e_length, .int e_seen, .int e_lastHour, .int e_bright, .int e_went, .int e_met, .int p_c, .int 2, .int p_h, .int 0])), (a_1, .inr (1, [.long 0, .int 1000, .int (-1), .int (-1), .int 0, .ref a_2, .ref a_3, .ref a_5, .ref a_7, .ref a_9, .ref a_11, .long 0, .ref a_13])), (a_46, .inl (G.2 0, 200, .inl f_p)), (a_13, .inl (G.2 1, 24, .inr (.inl (fun _ => 0)))), (a_9, .inr (6, [.int 8, .int 5, .ref a_10, .int 0]))] H := hP
  have hD : va_D A [(a_42, .inr (5, [.ref a_1, .ref a_43, .ref a_46, .int e_length, .int e_seen, .int e_lastHour, .int e_bright, .int e_went, .int e_met, .int p_c, .int 2, .int p_h, .int 0])), (a_1, .inr (1, [.long 0, .int 1000, .int (-1), .int (-1), .int 0, .ref a_2, .ref a_3, .ref a_5, .ref a_7, .ref a_9, .ref a_11, .long 0, .ref a_13])), (a_46, .inl (G.2 0, 200, .inl f_p)), (a_13, .inl (G.2 1, 24, .inr (.inl (fun _ => 0)))), (a_9, .inr (6, [.int 8, .int 5, .ref a_10, .int 0]))] := hD
  refine lv_aload_n hx hb dX5_run_15 rfl (lv_at hl 0 rfl) ?_
  refine lv_iconst (v := 0) hx hb dX5_run_16 (by decide) ?_
  refine va_put (D := G.1) (ci := 5) (v := .int 0) (ty := .int) (C := RX5) (T := TX5) (N := 13) hx hb hts inG_X5 tyX5 tyX5_ok nmX5 hown hK hP hD hS 0 rfl rfl 3 (by decide) (hts _ fl_X5_36) (fun _ h9 => h9) rfl (by decide +kernel) rfl rfl (Nat.le_of_ble_eq_true rfl) dX5_run_17 (fun H locs hP hD hS => ?_)
  have hP : va_P G.1 vwCl [(a_42, .inr (5, [.ref a_1, .ref a_43, .ref a_46, .int 0, .int e_seen, .int e_lastHour, .int e_bright, .int e_went, .int e_met, .int p_c, .int 2, .int p_h, .int 0])), (a_1, .inr (1, [.long 0, .int 1000, .int (-1), .int (-1), .int 0, .ref a_2, .ref a_3, .ref a_5, .ref a_7, .ref a_9, .ref a_11, .long 0, .ref a_13])), (a_46, .inl (G.2 0, 200, .inl f_p)), (a_13, .inl (G.2 1, 24, .inr (.inl (fun _ => 0)))), (a_9, .inr (6, [.int 8, .int 5, .ref a_10, .int 0]))] H := hP
  have hD : va_D A [(a_42, .inr (5, [.ref a_1, .ref a_43, .ref a_46, .int 0, .int e_seen, .int e_lastHour, .int e_bright, .int e_went, .int e_met, .int p_c, .int 2, .int p_h, .int 0])), (a_1, .inr (1, [.long 0, .int 1000, .int (-1), .int (-1), .int 0, .ref a_2, .ref a_3, .ref a_5, .ref a_7, .ref a_9, .ref a_11, .long 0, .ref a_13])), (a_46, .inl (G.2 0, 200, .inl f_p)), (a_13, .inl (G.2 1, 24, .inr (.inl (fun _ => 0)))), (a_9, .inr (6, [.int 8, .int 5, .ref a_10, .int 0]))] := hD
  refine lv_aload_n hx hb dX5_run_20 rfl (lv_at hl 0 rfl) ?_
  refine lv_iconst (v := (-1)) hx hb dX5_run_21 (by decide) ?_
  refine va_put (D := G.1) (ci := 5) (v := .int (-1)) (ty := .int) (C := RX5) (T := TX5) (N := 13) hx hb hts inG_X5 tyX5 tyX5_ok nmX5 hown hK hP hD hS 0 rfl rfl 4 (by decide) (hts _ fl_X5_39) (fun _ h9 => h9) rfl (by decide +kernel) rfl rfl (Nat.le_of_ble_eq_true rfl) dX5_run_22 (fun H locs hP hD hS => ?_)
  have hP : va_P G.1 vwCl [(a_42, .inr (5, [.ref a_1, .ref a_43, .ref a_46, .int 0, .int (-1), .int e_lastHour, .int e_bright, .int e_went, .int e_met, .int p_c, .int 2, .int p_h, .int 0])), (a_1, .inr (1, [.long 0, .int 1000, .int (-1), .int (-1), .int 0, .ref a_2, .ref a_3, .ref a_5, .ref a_7, .ref a_9, .ref a_11, .long 0, .ref a_13])), (a_46, .inl (G.2 0, 200, .inl f_p)), (a_13, .inl (G.2 1, 24, .inr (.inl (fun _ => 0)))), (a_9, .inr (6, [.int 8, .int 5, .ref a_10, .int 0]))] H := hP
  have hD : va_D A [(a_42, .inr (5, [.ref a_1, .ref a_43, .ref a_46, .int 0, .int (-1), .int e_lastHour, .int e_bright, .int e_went, .int e_met, .int p_c, .int 2, .int p_h, .int 0])), (a_1, .inr (1, [.long 0, .int 1000, .int (-1), .int (-1), .int 0, .ref a_2, .ref a_3, .ref a_5, .ref a_7, .ref a_9, .ref a_11, .long 0, .ref a_13])), (a_46, .inl (G.2 0, 200, .inl f_p)), (a_13, .inl (G.2 1, 24, .inr (.inl (fun _ => 0)))), (a_9, .inr (6, [.int 8, .int 5, .ref a_10, .int 0]))] := hD
  refine lv_aload_n hx hb dX5_run_25 rfl (lv_at hl 0 rfl) ?_
  refine lv_iconst (v := (-1)) hx hb dX5_run_26 (by decide) ?_
  refine va_put (D := G.1) (ci := 5) (v := .int (-1)) (ty := .int) (C := RX5) (T := TX5) (N := 13) hx hb hts inG_X5 tyX5 tyX5_ok nmX5 hown hK hP hD hS 0 rfl rfl 5 (by decide) (hts _ fl_X5_42) (fun _ h9 => h9) rfl (by decide +kernel) rfl rfl (Nat.le_of_ble_eq_true rfl) dX5_run_27 (fun H locs hP hD hS => ?_)
  have hP : va_P G.1 vwCl [(a_42, .inr (5, [.ref a_1, .ref a_43, .ref a_46, .int 0, .int (-1), .int (-1), .int e_bright, .int e_went, .int e_met, .int p_c, .int 2, .int p_h, .int 0])), (a_1, .inr (1, [.long 0, .int 1000, .int (-1), .int (-1), .int 0, .ref a_2, .ref a_3, .ref a_5, .ref a_7, .ref a_9, .ref a_11, .long 0, .ref a_13])), (a_46, .inl (G.2 0, 200, .inl f_p)), (a_13, .inl (G.2 1, 24, .inr (.inl (fun _ => 0)))), (a_9, .inr (6, [.int 8, .int 5, .ref a_10, .int 0]))] H := hP
  have hD : va_D A [(a_42, .inr (5, [.ref a_1, .ref a_43, .ref a_46, .int 0, .int (-1), .int (-1), .int e_bright, .int e_went, .int e_met, .int p_c, .int 2, .int p_h, .int 0])), (a_1, .inr (1, [.long 0, .int 1000, .int (-1), .int (-1), .int 0, .ref a_2, .ref a_3, .ref a_5, .ref a_7, .ref a_9, .ref a_11, .long 0, .ref a_13])), (a_46, .inl (G.2 0, 200, .inl f_p)), (a_13, .inl (G.2 1, 24, .inr (.inl (fun _ => 0)))), (a_9, .inr (6, [.int 8, .int 5, .ref a_10, .int 0]))] := hD
  refine lv_aload_n hx hb dX5_run_30 rfl (lv_at hl 0 rfl) ?_
  refine lv_ldc (v := 1000000) hx hb hown (hts _ ki_X5_45) dX5_run_31 ?_
  refine va_put (D := G.1) (ci := 5) (v := .int 1000000) (ty := .int) (C := RX5) (T := TX5) (N := 13) hx hb hts inG_X5 tyX5 tyX5_ok nmX5 hown hK hP hD hS 0 rfl rfl 6 (by decide) (hts _ fl_X5_46) (fun _ h9 => h9) rfl (by decide +kernel) rfl rfl (Nat.le_of_ble_eq_true rfl) dX5_run_33 (fun H locs hP hD hS => ?_)
  have hP : va_P G.1 vwCl [(a_42, .inr (5, [.ref a_1, .ref a_43, .ref a_46, .int 0, .int (-1), .int (-1), .int 1000000, .int e_went, .int e_met, .int p_c, .int 2, .int p_h, .int 0])), (a_1, .inr (1, [.long 0, .int 1000, .int (-1), .int (-1), .int 0, .ref a_2, .ref a_3, .ref a_5, .ref a_7, .ref a_9, .ref a_11, .long 0, .ref a_13])), (a_46, .inl (G.2 0, 200, .inl f_p)), (a_13, .inl (G.2 1, 24, .inr (.inl (fun _ => 0)))), (a_9, .inr (6, [.int 8, .int 5, .ref a_10, .int 0]))] H := hP
  have hD : va_D A [(a_42, .inr (5, [.ref a_1, .ref a_43, .ref a_46, .int 0, .int (-1), .int (-1), .int 1000000, .int e_went, .int e_met, .int p_c, .int 2, .int p_h, .int 0])), (a_1, .inr (1, [.long 0, .int 1000, .int (-1), .int (-1), .int 0, .ref a_2, .ref a_3, .ref a_5, .ref a_7, .ref a_9, .ref a_11, .long 0, .ref a_13])), (a_46, .inl (G.2 0, 200, .inl f_p)), (a_13, .inl (G.2 1, 24, .inr (.inl (fun _ => 0)))), (a_9, .inr (6, [.int 8, .int 5, .ref a_10, .int 0]))] := hD
  refine lv_aload_n hx hb dX5_run_36 rfl (lv_at hl 0 rfl) ?_
  refine lv_iconst (v := 0) hx hb dX5_run_37 (by decide) ?_
  refine va_put (D := G.1) (ci := 5) (v := .int 0) (ty := .int) (C := RX5) (T := TX5) (N := 13) hx hb hts inG_X5 tyX5 tyX5_ok nmX5 hown hK hP hD hS 0 rfl rfl 7 (by decide) (hts _ fl_X5_49) (fun _ h9 => h9) rfl (by decide +kernel) rfl rfl (Nat.le_of_ble_eq_true rfl) dX5_run_38 (fun H locs hP hD hS => ?_)
  have hP : va_P G.1 vwCl [(a_42, .inr (5, [.ref a_1, .ref a_43, .ref a_46, .int 0, .int (-1), .int (-1), .int 1000000, .int 0, .int e_met, .int p_c, .int 2, .int p_h, .int 0])), (a_1, .inr (1, [.long 0, .int 1000, .int (-1), .int (-1), .int 0, .ref a_2, .ref a_3, .ref a_5, .ref a_7, .ref a_9, .ref a_11, .long 0, .ref a_13])), (a_46, .inl (G.2 0, 200, .inl f_p)), (a_13, .inl (G.2 1, 24, .inr (.inl (fun _ => 0)))), (a_9, .inr (6, [.int 8, .int 5, .ref a_10, .int 0]))] H := hP
  have hD : va_D A [(a_42, .inr (5, [.ref a_1, .ref a_43, .ref a_46, .int 0, .int (-1), .int (-1), .int 1000000, .int 0, .int e_met, .int p_c, .int 2, .int p_h, .int 0])), (a_1, .inr (1, [.long 0, .int 1000, .int (-1), .int (-1), .int 0, .ref a_2, .ref a_3, .ref a_5, .ref a_7, .ref a_9, .ref a_11, .long 0, .ref a_13])), (a_46, .inl (G.2 0, 200, .inl f_p)), (a_13, .inl (G.2 1, 24, .inr (.inl (fun _ => 0)))), (a_9, .inr (6, [.int 8, .int 5, .ref a_10, .int 0]))] := hD
  refine lv_aload_n hx hb dX5_run_41 rfl (lv_at hl 0 rfl) ?_
  refine lv_iload_n hx hb dX5_run_42 rfl (lv_at hl 1 rfl) ?_
  refine lv_iload_n hx hb dX5_run_43 rfl (lv_at hl 2 rfl) ?_
  refine lv_iload_n hx hb dX5_run_44 rfl (lv_at hl 3 rfl) ?_
  have hPc := hP.sub (ws' := []) [] rfl
  have hDc := hD.sub (ws' := []) [] (by decide) rfl
  have hFc := va_free (wc := []) hD hS hA [] rfl
  refine va_calli (va_runSN (As := [.int p_c, .int 2, .int p_h]) (rest := [.ref a_42]) ⟨hx, hb, hml, hown, hts⟩ (kX11_isLook_3 l G H.size p_c p_h ⟨by omega, by omega⟩ ⟨by omega, by omega⟩) ⟨va_cnB 3 hts gW_X11_isLook rfl rfl rfl (hN.1 _ g5_nw_X5_52) (hts _ ini_X11) hs_X11_isLook ⟨Nat.le_of_ble_eq_true rfl, Nat.le_of_ble_eq_true rfl⟩, hts _ st_X11_isLook, trivial⟩ (g5_preS hPc hK hDc hN hT hS hFc) rfl rfl hl.1 rfl (lv_room (Nat.le_of_ble_eq_true rfl)) dX5_run_45 ⟨Nat.le_of_ble_eq_true rfl, Nat.le_of_ble_eq_true rfl⟩) hS (fun q _ h => hFc q h) hFc (fun r u t H1 locs ht hvm hw hB hz1 hk1 hS => ?_)
  obtain ⟨hP1, hD1⟩ := hB
  rw [ht] at hP1
  obtain ⟨i_1, i_2, i_3, i_4, rfl, rfl⟩ := hw
  have hP := g5_same hP hk1
  generalize H1 = H at hP hS ⊢
  refine lv_if_ne (tgt := 55) hx hb dX5_run_48 (by decide) (fun c_5 => ?_) (fun c_5 => ?_)
  ·
    refine lv_iconst (v := 0) hx hb dX5_run_55 (by decide) ?_
    refine va_put (D := G.1) (ci := 5) (v := .int 0) (ty := .boolean) (C := RX5) (T := TX5) (N := 13) hx hb hts inG_X5 tyX5 tyX5_ok nmX5 hown hK hP hD hS 0 rfl rfl 12 (by decide) (hts _ fl_X5_56) (fun _ h9 => h9) rfl (by decide +kernel) rfl rfl (Nat.le_of_ble_eq_true rfl) dX5_run_56 (fun H locs hP hD hS => ?_)
    have hP : va_P G.1 vwCl [(a_42, .inr (5, [.ref a_1, .ref a_43, .ref a_46, .int 0, .int (-1), .int (-1), .int 1000000, .int 0, .int e_met, .int p_c, .int 2, .int p_h, .int 0])), (a_1, .inr (1, [.long 0, .int 1000, .int (-1), .int (-1), .int 0, .ref a_2, .ref a_3, .ref a_5, .ref a_7, .ref a_9, .ref a_11, .long 0, .ref a_13])), (a_46, .inl (G.2 0, 200, .inl f_p)), (a_13, .inl (G.2 1, 24, .inr (.inl (fun _ => 0)))), (a_9, .inr (6, [.int 8, .int 5, .ref a_10, .int 0]))] H := hP
    have hD : va_D A [(a_42, .inr (5, [.ref a_1, .ref a_43, .ref a_46, .int 0, .int (-1), .int (-1), .int 1000000, .int 0, .int e_met, .int p_c, .int 2, .int p_h, .int 0])), (a_1, .inr (1, [.long 0, .int 1000, .int (-1), .int (-1), .int 0, .ref a_2, .ref a_3, .ref a_5, .ref a_7, .ref a_9, .ref a_11, .long 0, .ref a_13])), (a_46, .inl (G.2 0, 200, .inl f_p)), (a_13, .inl (G.2 1, 24, .inr (.inl (fun _ => 0)))), (a_9, .inr (6, [.int 8, .int 5, .ref a_10, .int 0]))] := hD
    refine lv_aload_n hx hb dX5_run_59 rfl (lv_at hl 0 rfl) ?_
    refine va_get (D := G.1) (ci := 5) (v := .ref a_1) (C := RX5) (T := TX5) (N := 13) hx hb hts inG_X5 hown hK hP 0 rfl rfl 0 (by decide) (hts _ fl_X5_22) (fun _ h9 => h9) rfl dX5_run_60 ?_
    refine va_get (D := G.1) (ci := 1) (v := .long 0) (C := RX1) (T := TX1) (N := 13) hx hb hts inG_X1 hown hK hP 1 rfl rfl 11 (by decide) (hts _ fl_X5_60) (fun _ h9 => h9) rfl dX5_run_63 ?_
    refine lv_aload_n hx hb dX5_run_66 rfl (lv_at hl 0 rfl) ?_
    refine lv_iload hx hb dX5_run_67 (lv_at hl 4 rfl) ?_
    have hPc := hP.sub (ws' := [(a_42, .inr (5, [.ref a_1, .ref a_43, .ref a_46, .int 0, .int (-1), .int (-1), .int 1000000, .int 0, .int e_met, .int p_c, .int 2, .int p_h, .int 0]))]) [0] rfl
    have hDc := hD.sub (ws' := [(a_42, .inr (5, [.ref a_1, .ref a_43, .ref a_46, .int 0, .int (-1), .int (-1), .int 1000000, .int 0, .int e_met, .int p_c, .int 2, .int p_h, .int 0]))]) [0] (by decide) rfl
    have hFc := va_free (wc := [(a_42, .inr (5, [.ref a_1, .ref a_43, .ref a_46, .int 0, .int (-1), .int (-1), .int 1000000, .int 0, .int e_met, .int p_c, .int 2, .int p_h, .int 0]))]) hD hS hA [0] rfl
    refine va_calll (va_runV (As := [.int 0]) (rest := [.long 0]) ⟨hx, hb, hml, hown, hts⟩ (kX5_hungBoard_3 l G a_42 a_1 a_43 a_46 H.size e_met p_c p_h ⟨by omega, by omega⟩ ⟨by omega, by omega⟩) (cwV 1 hts gV_X5_66 rfl rfl rfl hv_X5_hungBoard ⟨Nat.le_of_ble_eq_true rfl, Nat.le_of_ble_eq_true rfl⟩) (g5_preV hPc hK hDc hN hT hS hFc (ci := 5) (q0 := 0) rfl rfl) rfl rfl hl.1 rfl (lv_room (Nat.le_of_ble_eq_true rfl)) dX5_run_69 ⟨Nat.le_of_ble_eq_true rfl, Nat.le_of_ble_eq_true rfl⟩) hS (fun q _ h => hFc q h) hFc (fun r u t H1 locs ht hvm hw hB hz1 hk1 hS => ?_)
    obtain ⟨hP1, hD1⟩ := hB
    rw [ht] at hP1
    obtain ⟨rfl, rfl⟩ := hw
    obtain ⟨hP, hD⟩ := va_join (wr := [(a_1, .inr (1, [.long 0, .int 1000, .int (-1), .int (-1), .int 0, .ref a_2, .ref a_3, .ref a_5, .ref a_7, .ref a_9, .ref a_11, .long 0, .ref a_13])), (a_46, .inl (G.2 0, 200, .inl f_p)), (a_13, .inl (G.2 1, 24, .inr (.inl (fun _ => 0)))), (a_9, .inr (6, [.int 8, .int 5, .ref a_10, .int 0]))]) (w1 := [(a_42, .inr (5, [.ref a_1, .ref a_43, .ref a_46, .int 0, .int (-1), .int (-1), .int 1000000, .int 0, .int e_met, .int p_c, .int 2, .int p_h, .int 0]))]) hP hD [0] [1, 2, 3, 4] rfl rfl (by decide) (by decide) hk1 hFc hP1 hD1
    generalize H1 = H at hP hS ⊢
    have hP : va_P G.1 vwCl [(a_1, .inr (1, [.long 0, .int 1000, .int (-1), .int (-1), .int 0, .ref a_2, .ref a_3, .ref a_5, .ref a_7, .ref a_9, .ref a_11, .long 0, .ref a_13])), (a_46, .inl (G.2 0, 200, .inl f_p)), (a_13, .inl (G.2 1, 24, .inr (.inl (fun _ => 0)))), (a_9, .inr (6, [.int 8, .int 5, .ref a_10, .int 0])), (a_42, .inr (5, [.ref a_1, .ref a_43, .ref a_46, .int 0, .int (-1), .int (-1), .int 1000000, .int 0, .int e_met, .int p_c, .int 2, .int p_h, .int 0]))] H := hP
    have hD : va_D A [(a_1, .inr (1, [.long 0, .int 1000, .int (-1), .int (-1), .int 0, .ref a_2, .ref a_3, .ref a_5, .ref a_7, .ref a_9, .ref a_11, .long 0, .ref a_13])), (a_46, .inl (G.2 0, 200, .inl f_p)), (a_13, .inl (G.2 1, 24, .inr (.inl (fun _ => 0)))), (a_9, .inr (6, [.int 8, .int 5, .ref a_10, .int 0])), (a_42, .inr (5, [.ref a_1, .ref a_43, .ref a_46, .int 0, .int (-1), .int (-1), .int 1000000, .int 0, .int e_met, .int p_c, .int 2, .int p_h, .int 0]))] := hD
    refine lv_lor hx hb dX5_run_72 ?_
    refine g5_tl (v := 0) (by decide) ?_
    refine lv_lstore (lv' := [(5, .long 0), (0, .ref a_42), (1, .int p_c), (2, .int 2), (3, .int p_h), (4, .int 0)]) hx hb dX5_run_73 hl (by decide) rfl (fun ls hl => ?_)
    refine lv_iconst (v := 0) hx hb dX5_run_75 (by decide) ?_
    refine lv_istore (lv' := [(7, .int 0), (5, .long 0), (0, .ref a_42), (1, .int p_c), (2, .int 2), (3, .int p_h), (4, .int 0)]) hx hb dX5_run_76 hl (by decide) rfl (fun ls hl => ?_)
    refine g5_loop (α := (Int32) × (Int32) × (Int32) × (Int32) × (Nat → Int32)) (fun (q : (Int32) × (Int32) × (Int32) × (Int32) × (Nat → Int32)) (ls : Array Slot) (H : Heap) (locs : List Loc) => match q with | (k_s, k_n, k_l, k_c, k_f) => lv_has ls 9 [(7, .int k_s), (5, .long 0), (0, .ref a_42), (1, .int p_c), (2, .int 2), (3, .int p_h)] ∧ va_P G.1 vwCl [(a_1, .inr (1, [.long 0, .int 1000, .int (-1), .int (-1), .int 0, .ref a_2, .ref a_3, .ref a_5, .ref a_7, .ref a_9, .ref a_11, .long 0, .ref a_13])), (a_46, .inl (G.2 0, 200, .inl k_f)), (a_13, .inl (G.2 1, 24, .inr (.inl (fun _ => 0)))), (a_9, .inr (6, [.int 8, .int 5, .ref a_10, .int 0])), (a_42, .inr (5, [.ref a_1, .ref a_43, .ref a_46, .int k_n, .int (-1), .int k_l, .int 1000000, .int 0, .int e_met, .int k_c, .int 2, .int p_h, .int 0]))] H ∧ va_D A [(a_1, .inr (1, [.long 0, .int 1000, .int (-1), .int (-1), .int 0, .ref a_2, .ref a_3, .ref a_5, .ref a_7, .ref a_9, .ref a_11, .long 0, .ref a_13])), (a_46, .inl (G.2 0, 200, .inl k_f)), (a_13, .inl (G.2 1, 24, .inr (.inl (fun _ => 0)))), (a_9, .inr (6, [.int 8, .int 5, .ref a_10, .int 0])), (a_42, .inr (5, [.ref a_1, .ref a_43, .ref a_46, .int k_n, .int (-1), .int k_l, .int 1000000, .int 0, .int e_met, .int k_c, .int 2, .int p_h, .int 0]))] ∧ va_S A s.heap H locs ∧ (0 ≤ k_s.toInt ∧ k_s.toInt ≤ 7) ∧ (0 ≤ k_n.toInt ∧ k_n.toInt ≤ 7) ∧ ((-1) ≤ k_l.toInt ∧ k_l.toInt ≤ 23) ∧ (0 ≤ k_c.toInt ∧ k_c.toInt ≤ 63) ∧ (k_n.toInt = k_s.toInt) ∧ (k_s.toInt ≤ 7 - p_c.toInt / 8) ∧ (k_c.toInt = p_c.toInt + 8 * k_s.toInt) ∧ ((k_s.toInt = 0 → k_l.toInt = -1) ∧ (0 < k_s.toInt → k_l.toInt = p_h.toInt)) ∧ (∀ j : Nat, (j : Int) < k_s.toInt → (k_f j).toInt = p_h.toInt * 64 + (p_c.toInt + 8 * ((j : Int) + 1)))) (fun (q : (Int32) × (Int32) × (Int32) × (Int32) × (Nat → Int32)) => match q with | (k_s, k_n, k_l, k_c, k_f) => Int.toNat (200 - k_s.toInt)) (0, 0, (-1), p_c, f_p) ⟨lv_sub hl [0, 1, 2, 3, 4, 5] rfl, hP, hD, hS, ⟨by decide, by decide⟩, ⟨by decide, by decide⟩, ⟨by decide, by decide⟩, ⟨by omega, by omega⟩, rfl, by have z0 : (0 : Int32).toInt = 0 := (by decide); omega, by have z0 : (0 : Int32).toInt = 0 := (by decide); omega, ⟨fun _ => by decide, fun h => absurd h (by decide)⟩, fun j h => absurd h (by have z : (0 : Int32).toInt = 0 := (by decide); omega)⟩ ?_
    rintro ⟨k_s, k_n, k_l, k_c, k_f⟩ ls H locs ⟨hl, hP, hD, hS, i_6, i_7, i_8, i_9, i_10, i_11, i_12, i_13, i_14⟩ ih_78_15
    have hl : lv_has ls 9 [(7, .int k_s), (5, .long 0), (0, .ref a_42), (1, .int p_c), (2, .int 2), (3, .int p_h)] := hl
    have i_6 : 0 ≤ k_s.toInt ∧ k_s.toInt ≤ 7 := i_6
    have i_7 : 0 ≤ k_n.toInt ∧ k_n.toInt ≤ 7 := i_7
    have i_8 : (-1) ≤ k_l.toInt ∧ k_l.toInt ≤ 23 := i_8
    have i_9 : 0 ≤ k_c.toInt ∧ k_c.toInt ≤ 63 := i_9
    have i_10 : k_n.toInt = k_s.toInt := i_10
    have i_11 : k_s.toInt ≤ 7 - p_c.toInt / 8 := i_11
    have i_12 : k_c.toInt = p_c.toInt + 8 * k_s.toInt := i_12
    have i_13 : (k_s.toInt = 0 → k_l.toInt = -1) ∧ (0 < k_s.toInt → k_l.toInt = p_h.toInt) := i_13
    have i_14 : ∀ j : Nat, (j : Int) < k_s.toInt → (k_f j).toInt = p_h.toInt * 64 + (p_c.toInt + 8 * ((j : Int) + 1)) := i_14
    have hP : va_P G.1 vwCl [(a_1, .inr (1, [.long 0, .int 1000, .int (-1), .int (-1), .int 0, .ref a_2, .ref a_3, .ref a_5, .ref a_7, .ref a_9, .ref a_11, .long 0, .ref a_13])), (a_46, .inl (G.2 0, 200, .inl k_f)), (a_13, .inl (G.2 1, 24, .inr (.inl (fun _ => 0)))), (a_9, .inr (6, [.int 8, .int 5, .ref a_10, .int 0])), (a_42, .inr (5, [.ref a_1, .ref a_43, .ref a_46, .int k_n, .int (-1), .int k_l, .int 1000000, .int 0, .int e_met, .int k_c, .int 2, .int p_h, .int 0]))] H := hP
    have hD : va_D A [(a_1, .inr (1, [.long 0, .int 1000, .int (-1), .int (-1), .int 0, .ref a_2, .ref a_3, .ref a_5, .ref a_7, .ref a_9, .ref a_11, .long 0, .ref a_13])), (a_46, .inl (G.2 0, 200, .inl k_f)), (a_13, .inl (G.2 1, 24, .inr (.inl (fun _ => 0)))), (a_9, .inr (6, [.int 8, .int 5, .ref a_10, .int 0])), (a_42, .inr (5, [.ref a_1, .ref a_43, .ref a_46, .int k_n, .int (-1), .int k_l, .int 1000000, .int 0, .int e_met, .int k_c, .int 2, .int p_h, .int 0]))] := hD
    refine lv_iload hx hb dX5_run_78 (lv_at hl 0 rfl) ?_
    refine lv_sipush (v := 200) hx hb dX5_run_80 (by decide) ?_
    refine lv_icmp_ge (tgt := 227) hx hb dX5_run_83 (by decide) (fun c_16 => ?_) (fun c_16 => ?_)
    ·
      have i_16 : k_s.toInt ≥ 200 := by have z := g5_ge (a := k_s.toInt) (b := 200) (by rfl) (by decide) c_16; omega
      omega
    ·
      have i_16 : k_s.toInt < 200 := by have z := g5_geN (a := k_s.toInt) (b := 200) (by rfl) (by decide) c_16; omega
      refine lv_aload_n hx hb dX5_run_86 rfl (lv_at hl 2 rfl) ?_
      refine va_get (D := G.1) (ci := 5) (v := .int 0) (C := RX5) (T := TX5) (N := 13) hx hb hts inG_X5 hown hK hP 4 rfl rfl 12 (by decide) (hts _ fl_X5_56) (fun _ h9 => h9) rfl dX5_run_87 ?_
      refine lv_if_ne (tgt := 227) hx hb dX5_run_90 (by decide) (fun c_17 => ?_) (fun c_17 => ?_)
      ·
        exact absurd c_17 (by decide)
      ·
        refine lv_aload_n hx hb dX5_run_93 rfl (lv_at hl 2 rfl) ?_
        refine va_get (D := G.1) (ci := 5) (v := .int k_c) (C := RX5) (T := TX5) (N := 13) hx hb hts inG_X5 hown hK hP 4 rfl rfl 9 (by decide) (hts _ fl_X5_26) (fun _ h9 => h9) rfl dX5_run_94 ?_
        refine lv_aload_n hx hb dX5_run_97 rfl (lv_at hl 2 rfl) ?_
        refine va_get (D := G.1) (ci := 5) (v := .int 2) (C := RX5) (T := TX5) (N := 13) hx hb hts inG_X5 hown hK hP 4 rfl rfl 10 (by decide) (hts _ fl_X5_30) (fun _ h9 => h9) rfl dX5_run_98 ?_
        have hPc := hP.sub (ws' := []) [] rfl
        have hDc := hD.sub (ws' := []) [] (by decide) rfl
        have hFc := va_free (wc := []) hD hS hA [] rfl
        refine va_calli (va_runSN (As := [.int k_c, .int 2]) (rest := []) ⟨hx, hb, hml, hown, hts⟩ (kX11_beside_3 l G H.size k_c ⟨by omega, by omega⟩) ⟨va_cnB 2 hts gW_X11_beside rfl rfl rfl (hN.1 _ g5_nw_X5_70) (hts _ ini_X11) hs_X11_beside ⟨Nat.le_of_ble_eq_true rfl, Nat.le_of_ble_eq_true rfl⟩, hts _ st_X11_beside, trivial⟩ (g5_preS hPc hK hDc hN hT hS hFc) rfl rfl hl.1 rfl (lv_room (Nat.le_of_ble_eq_true rfl)) dX5_run_101 ⟨Nat.le_of_ble_eq_true rfl, Nat.le_of_ble_eq_true rfl⟩) hS (fun q _ h => hFc q h) hFc (fun r u t H1 locs ht hvm hw hB hz1 hk1 hS => ?_)
        obtain ⟨hP1, hD1⟩ := hB
        rw [ht] at hP1
        rcases hw with ⟨i_18, rfl, rfl⟩ | ⟨i_19, i_20, rfl, rfl⟩
        ·
          have hP := g5_same hP hk1
          generalize H1 = H at hP hS ⊢
          refine lv_istore (lv' := [(8, .int (-1)), (7, .int k_s), (5, .long 0), (0, .ref a_42), (1, .int p_c), (2, .int 2), (3, .int p_h)]) hx hb dX5_run_104 hl (by decide) rfl (fun ls hl => ?_)
          refine lv_iload hx hb dX5_run_106 (lv_at hl 0 rfl) ?_
          refine lv_iconst (v := (-1)) hx hb dX5_run_108 (by decide) ?_
          refine lv_icmp_eq (tgt := 127) hx hb dX5_run_109 (by decide) (fun c_21 => ?_) (fun c_21 => ?_)
          ·
            exact W.vret hx hb hr (fun t ht hW => ⟨⟨[(a_42, .inr (5, [.ref a_1, .ref a_43, .ref a_46, .int k_n, .int (-1), .int k_l, .int 1000000, .int 0, .int e_met, .int k_c, .int 2, .int p_h, .int 0])), (a_1, .inr (1, [.long 0, .int 1000, .int (-1), .int (-1), .int 0, .ref a_2, .ref a_3, .ref a_5, .ref a_7, .ref a_9, .ref a_11, .long 0, .ref a_13])), (a_46, .inl (G.2 0, 200, .inl k_f)), (a_13, .inl (G.2 1, 24, .inr (.inl (fun _ => 0)))), (a_9, .inr (6, [.int 8, .int 5, .ref a_10, .int 0]))], rfl, ⟨k_n, k_l, k_c, k_f, by omega, ⟨by omega, by omega⟩, ⟨fun h => i_13.1 (by omega), fun h => i_13.2 (by omega)⟩, ⟨by omega, by omega⟩, ⟨by omega, by omega⟩, fun j h => i_14 j (by omega), rfl⟩, by rw [ht]; exact hP.sub [4, 0, 1, 2, 3] rfl, hD.sub [4, 0, 1, 2, 3] (by decide) rfl⟩, hS.F ht⟩) hS.2.2 dX5_run_127
          ·
            exact absurd c_21 (by decide)
        ·
          have hP := g5_same hP hk1
          generalize H1 = H at hP hS ⊢
          refine lv_istore (lv' := [(8, .int (k_c + 8)), (7, .int k_s), (5, .long 0), (0, .ref a_42), (1, .int p_c), (2, .int 2), (3, .int p_h)]) hx hb dX5_run_104 hl (by decide) rfl (fun ls hl => ?_)
          refine lv_iload hx hb dX5_run_106 (lv_at hl 0 rfl) ?_
          refine lv_iconst (v := (-1)) hx hb dX5_run_108 (by decide) ?_
          refine lv_icmp_eq (tgt := 127) hx hb dX5_run_109 (by decide) (fun c_22 => ?_) (fun c_22 => ?_)
          ·
            have i_22 : (k_c + 8).toInt = (-1) := by have z := g5_eq (a := (k_c + 8).toInt) (b := (-1)) (by rfl) (by decide) c_22; omega
            omega
          ·
            have i_22 : (k_c + 8).toInt ≠ (-1) := by have z := g5_eqN (a := (k_c + 8).toInt) (b := (-1)) (by rfl) (by decide) c_22; omega
            refine lv_aload_n hx hb dX5_run_112 rfl (lv_at hl 3 rfl) ?_
            refine va_get (D := G.1) (ci := 5) (v := .ref a_1) (C := RX5) (T := TX5) (N := 13) hx hb hts inG_X5 hown hK hP 4 rfl rfl 0 (by decide) (hts _ fl_X5_22) (fun _ h9 => h9) rfl dX5_run_113 ?_
            refine va_get (D := G.1) (ci := 1) (v := .long 0) (C := RX1) (T := TX1) (N := 13) hx hb hts inG_X1 hown hK hP 0 rfl rfl 0 (by decide) (hts _ fl_X5_74) (fun _ h9 => h9) rfl dX5_run_116 ?_
            refine lv_iload hx hb dX5_run_119 (lv_at hl 0 rfl) ?_
            have hPc := hP.sub (ws' := []) [] rfl
            have hDc := hD.sub (ws' := []) [] (by decide) rfl
            have hFc := va_free (wc := []) hD hS hA [] rfl
            refine va_calli (va_runSN (As := [.long 0, .int (k_c + 8)]) (rest := []) ⟨hx, hb, hml, hown, hts⟩ (kX11_isOn_3 l G H.size (k_c + 8) ⟨by omega, by omega⟩) ⟨va_cnB 2 hts gW_X11_isOn rfl rfl rfl (hN.1 _ g5_nw_X5_77) (hts _ ini_X11) hs_X11_isOn ⟨Nat.le_of_ble_eq_true rfl, Nat.le_of_ble_eq_true rfl⟩, hts _ st_X11_isOn, trivial⟩ (g5_preS hPc hK hDc hN hT hS hFc) rfl rfl hl.1 rfl (lv_room (Nat.le_of_ble_eq_true rfl)) dX5_run_121 ⟨Nat.le_of_ble_eq_true rfl, Nat.le_of_ble_eq_true rfl⟩) hS (fun q _ h => hFc q h) hFc (fun r u t H1 locs ht hvm hw hB hz1 hk1 hS => ?_)
            obtain ⟨hP1, hD1⟩ := hB
            rw [ht] at hP1
            obtain ⟨rfl, rfl⟩ := hw
            have hP := g5_same hP hk1
            generalize H1 = H at hP hS ⊢
            refine lv_if_eq (tgt := 128) hx hb dX5_run_124 (by decide) (fun c_23 => ?_) (fun c_23 => ?_)
            ·
              refine lv_aload_n hx hb dX5_run_128 rfl (lv_at hl 3 rfl) ?_
              refine lv_iload hx hb dX5_run_129 (lv_at hl 0 rfl) ?_
              refine va_put (D := G.1) (ci := 5) (v := .int (k_c + 8)) (ty := .int) (C := RX5) (T := TX5) (N := 13) hx hb hts inG_X5 tyX5 tyX5_ok nmX5 hown hK hP hD hS 4 rfl rfl 9 (by decide) (hts _ fl_X5_26) (fun _ h9 => h9) rfl (by decide +kernel) rfl rfl (Nat.le_of_ble_eq_true rfl) dX5_run_131 (fun H locs hP hD hS => ?_)
              have hP : va_P G.1 vwCl [(a_1, .inr (1, [.long 0, .int 1000, .int (-1), .int (-1), .int 0, .ref a_2, .ref a_3, .ref a_5, .ref a_7, .ref a_9, .ref a_11, .long 0, .ref a_13])), (a_46, .inl (G.2 0, 200, .inl k_f)), (a_13, .inl (G.2 1, 24, .inr (.inl (fun _ => 0)))), (a_9, .inr (6, [.int 8, .int 5, .ref a_10, .int 0])), (a_42, .inr (5, [.ref a_1, .ref a_43, .ref a_46, .int k_n, .int (-1), .int k_l, .int 1000000, .int 0, .int e_met, .int (k_c + 8), .int 2, .int p_h, .int 0]))] H := hP
              have hD : va_D A [(a_1, .inr (1, [.long 0, .int 1000, .int (-1), .int (-1), .int 0, .ref a_2, .ref a_3, .ref a_5, .ref a_7, .ref a_9, .ref a_11, .long 0, .ref a_13])), (a_46, .inl (G.2 0, 200, .inl k_f)), (a_13, .inl (G.2 1, 24, .inr (.inl (fun _ => 0)))), (a_9, .inr (6, [.int 8, .int 5, .ref a_10, .int 0])), (a_42, .inr (5, [.ref a_1, .ref a_43, .ref a_46, .int k_n, .int (-1), .int k_l, .int 1000000, .int 0, .int e_met, .int (k_c + 8), .int 2, .int p_h, .int 0]))] := hD
              refine lv_aload_n hx hb dX5_run_134 rfl (lv_at hl 3 rfl) ?_
              refine lv_aload_n hx hb dX5_run_135 rfl (lv_at hl 3 rfl) ?_
              refine va_get (D := G.1) (ci := 5) (v := .int p_h) (C := RX5) (T := TX5) (N := 13) hx hb hts inG_X5 hown hK hP 4 rfl rfl 11 (by decide) (hts _ fl_X5_33) (fun _ h9 => h9) rfl dX5_run_136 ?_
              refine va_put (D := G.1) (ci := 5) (v := .int p_h) (ty := .int) (C := RX5) (T := TX5) (N := 13) hx hb hts inG_X5 tyX5 tyX5_ok nmX5 hown hK hP hD hS 4 rfl rfl 5 (by decide) (hts _ fl_X5_42) (fun _ h9 => h9) rfl (by decide +kernel) rfl rfl (Nat.le_of_ble_eq_true rfl) dX5_run_139 (fun H locs hP hD hS => ?_)
              have hP : va_P G.1 vwCl [(a_1, .inr (1, [.long 0, .int 1000, .int (-1), .int (-1), .int 0, .ref a_2, .ref a_3, .ref a_5, .ref a_7, .ref a_9, .ref a_11, .long 0, .ref a_13])), (a_46, .inl (G.2 0, 200, .inl k_f)), (a_13, .inl (G.2 1, 24, .inr (.inl (fun _ => 0)))), (a_9, .inr (6, [.int 8, .int 5, .ref a_10, .int 0])), (a_42, .inr (5, [.ref a_1, .ref a_43, .ref a_46, .int k_n, .int (-1), .int p_h, .int 1000000, .int 0, .int e_met, .int (k_c + 8), .int 2, .int p_h, .int 0]))] H := hP
              have hD : va_D A [(a_1, .inr (1, [.long 0, .int 1000, .int (-1), .int (-1), .int 0, .ref a_2, .ref a_3, .ref a_5, .ref a_7, .ref a_9, .ref a_11, .long 0, .ref a_13])), (a_46, .inl (G.2 0, 200, .inl k_f)), (a_13, .inl (G.2 1, 24, .inr (.inl (fun _ => 0)))), (a_9, .inr (6, [.int 8, .int 5, .ref a_10, .int 0])), (a_42, .inr (5, [.ref a_1, .ref a_43, .ref a_46, .int k_n, .int (-1), .int p_h, .int 1000000, .int 0, .int e_met, .int (k_c + 8), .int 2, .int p_h, .int 0]))] := hD
              refine lv_aload_n hx hb dX5_run_142 rfl (lv_at hl 3 rfl) ?_
              refine va_get (D := G.1) (ci := 5) (v := .ref a_46) (C := RX5) (T := TX5) (N := 13) hx hb hts inG_X5 hown hK hP 4 rfl rfl 2 (by decide) (hts _ fl_X5_18) (fun _ h9 => h9) rfl dX5_run_143 ?_
              refine lv_iload hx hb dX5_run_146 (lv_at hl 1 rfl) ?_
              refine lv_aload_n hx hb dX5_run_148 rfl (lv_at hl 3 rfl) ?_
              refine va_get (D := G.1) (ci := 5) (v := .int p_h) (C := RX5) (T := TX5) (N := 13) hx hb hts inG_X5 hown hK hP 4 rfl rfl 11 (by decide) (hts _ fl_X5_33) (fun _ h9 => h9) rfl dX5_run_149 ?_
              refine lv_bipush (v := 64) hx hb dX5_run_152 (by decide) ?_
              refine lv_imul hx hb dX5_run_154 ?_
              have t_24 : (p_h * 64).toInt = p_h.toInt * 64 := g5_imul (a := p_h.toInt) (b := 64) (by rfl) (by decide) (by omega) (by omega)
              refine lv_aload_n hx hb dX5_run_155 rfl (lv_at hl 3 rfl) ?_
              refine va_get (D := G.1) (ci := 5) (v := .int (k_c + 8)) (C := RX5) (T := TX5) (N := 13) hx hb hts inG_X5 hown hK hP 4 rfl rfl 9 (by decide) (hts _ fl_X5_26) (fun _ h9 => h9) rfl dX5_run_156 ?_
              refine lv_iadd hx hb dX5_run_159 ?_
              have t_25 : ((p_h * 64) + (k_c + 8)).toInt = (p_h * 64).toInt + (k_c + 8).toInt := g5_iadd (a := (p_h * 64).toInt) (b := (k_c + 8).toInt) (by rfl) (by rfl) (by omega) (by omega)
              refine va_iast hx hb hK hP hD hS 1 0 rfl rfl (i := k_s) (x := ((p_h * 64) + (k_c + 8))) (vp_in_iff.mpr ⟨by omega, by omega⟩) dX5_run_160 (fun H locs hP hD hS => ?_)
              have hP : va_P G.1 vwCl [(a_1, .inr (1, [.long 0, .int 1000, .int (-1), .int (-1), .int 0, .ref a_2, .ref a_3, .ref a_5, .ref a_7, .ref a_9, .ref a_11, .long 0, .ref a_13])), (a_46, .inl (G.2 0, 200, .inl (upd k_f k_s.toNatClampNeg ((p_h * 64) + (k_c + 8))))), (a_13, .inl (G.2 1, 24, .inr (.inl (fun _ => 0)))), (a_9, .inr (6, [.int 8, .int 5, .ref a_10, .int 0])), (a_42, .inr (5, [.ref a_1, .ref a_43, .ref a_46, .int k_n, .int (-1), .int p_h, .int 1000000, .int 0, .int e_met, .int (k_c + 8), .int 2, .int p_h, .int 0]))] H := hP
              have hD : va_D A [(a_1, .inr (1, [.long 0, .int 1000, .int (-1), .int (-1), .int 0, .ref a_2, .ref a_3, .ref a_5, .ref a_7, .ref a_9, .ref a_11, .long 0, .ref a_13])), (a_46, .inl (G.2 0, 200, .inl (upd k_f k_s.toNatClampNeg ((p_h * 64) + (k_c + 8))))), (a_13, .inl (G.2 1, 24, .inr (.inl (fun _ => 0)))), (a_9, .inr (6, [.int 8, .int 5, .ref a_10, .int 0])), (a_42, .inr (5, [.ref a_1, .ref a_43, .ref a_46, .int k_n, .int (-1), .int p_h, .int 1000000, .int 0, .int e_met, .int (k_c + 8), .int 2, .int p_h, .int 0]))] := hD
              refine lv_aload_n hx hb dX5_run_161 rfl (lv_at hl 3 rfl) ?_
              refine lv_iload hx hb dX5_run_162 (lv_at hl 1 rfl) ?_
              refine lv_iconst (v := 1) hx hb dX5_run_164 (by decide) ?_
              refine lv_iadd hx hb dX5_run_165 ?_
              have t_26 : (k_s + 1).toInt = k_s.toInt + 1 := g5_iadd (a := k_s.toInt) (b := 1) (by rfl) (by decide) (by omega) (by omega)
              refine va_put (D := G.1) (ci := 5) (v := .int (k_s + 1)) (ty := .int) (C := RX5) (T := TX5) (N := 13) hx hb hts inG_X5 tyX5 tyX5_ok nmX5 hown hK hP hD hS 4 rfl rfl 3 (by decide) (hts _ fl_X5_36) (fun _ h9 => h9) rfl (by decide +kernel) rfl rfl (Nat.le_of_ble_eq_true rfl) dX5_run_166 (fun H locs hP hD hS => ?_)
              have hP : va_P G.1 vwCl [(a_1, .inr (1, [.long 0, .int 1000, .int (-1), .int (-1), .int 0, .ref a_2, .ref a_3, .ref a_5, .ref a_7, .ref a_9, .ref a_11, .long 0, .ref a_13])), (a_46, .inl (G.2 0, 200, .inl (upd k_f k_s.toNatClampNeg ((p_h * 64) + (k_c + 8))))), (a_13, .inl (G.2 1, 24, .inr (.inl (fun _ => 0)))), (a_9, .inr (6, [.int 8, .int 5, .ref a_10, .int 0])), (a_42, .inr (5, [.ref a_1, .ref a_43, .ref a_46, .int (k_s + 1), .int (-1), .int p_h, .int 1000000, .int 0, .int e_met, .int (k_c + 8), .int 2, .int p_h, .int 0]))] H := hP
              have hD : va_D A [(a_1, .inr (1, [.long 0, .int 1000, .int (-1), .int (-1), .int 0, .ref a_2, .ref a_3, .ref a_5, .ref a_7, .ref a_9, .ref a_11, .long 0, .ref a_13])), (a_46, .inl (G.2 0, 200, .inl (upd k_f k_s.toNatClampNeg ((p_h * 64) + (k_c + 8))))), (a_13, .inl (G.2 1, 24, .inr (.inl (fun _ => 0)))), (a_9, .inr (6, [.int 8, .int 5, .ref a_10, .int 0])), (a_42, .inr (5, [.ref a_1, .ref a_43, .ref a_46, .int (k_s + 1), .int (-1), .int p_h, .int 1000000, .int 0, .int e_met, .int (k_c + 8), .int 2, .int p_h, .int 0]))] := hD
              refine lv_aload_n hx hb dX5_run_169 rfl (lv_at hl 3 rfl) ?_
              refine va_get (D := G.1) (ci := 5) (v := .ref a_1) (C := RX5) (T := TX5) (N := 13) hx hb hts inG_X5 hown hK hP 4 rfl rfl 0 (by decide) (hts _ fl_X5_22) (fun _ h9 => h9) rfl dX5_run_170 ?_
              refine va_get (D := G.1) (ci := 1) (v := .ref a_13) (C := RX1) (T := TX1) (N := 13) hx hb hts inG_X1 hown hK hP 0 rfl rfl 12 (by decide) (hts _ fl_X5_81) (fun _ h9 => h9) rfl dX5_run_173 ?_
              refine lv_aload_n hx hb dX5_run_176 rfl (lv_at hl 3 rfl) ?_
              refine va_get (D := G.1) (ci := 5) (v := .int p_h) (C := RX5) (T := TX5) (N := 13) hx hb hts inG_X5 hown hK hP 4 rfl rfl 11 (by decide) (hts _ fl_X5_33) (fun _ h9 => h9) rfl dX5_run_177 ?_
              refine va_lald hx hb hK hP 2 1 rfl rfl (i := p_h) (vp_in_iff.mpr ⟨by omega, by omega⟩) dX5_run_180 ?_
              refine g5_tl (v := 0) rfl ?_
              refine lv_lload hx hb dX5_run_181 (lv_at hl 2 rfl) ?_
              refine lv_lor hx hb dX5_run_183 ?_
              refine g5_tl (v := 0) (by decide) ?_
              refine lv_aload_n hx hb dX5_run_184 rfl (lv_at hl 3 rfl) ?_
              refine va_get (D := G.1) (ci := 5) (v := .int (k_c + 8)) (C := RX5) (T := TX5) (N := 13) hx hb hts inG_X5 hown hK hP 4 rfl rfl 9 (by decide) (hts _ fl_X5_26) (fun _ h9 => h9) rfl dX5_run_185 ?_
              have hPc := hP.sub (ws' := []) [] rfl
              have hDc := hD.sub (ws' := []) [] (by decide) rfl
              have hFc := va_free (wc := []) hD hS hA [] rfl
              refine va_calli (va_runSN (As := [.long 0, .int (k_c + 8)]) (rest := []) ⟨hx, hb, hml, hown, hts⟩ (kX11_isOn_3 l G H.size (k_c + 8) ⟨by omega, by omega⟩) ⟨va_cnB 2 hts gW_X11_isOn rfl rfl rfl (hN.1 _ g5_nw_X5_77) (hts _ ini_X11) hs_X11_isOn ⟨Nat.le_of_ble_eq_true rfl, Nat.le_of_ble_eq_true rfl⟩, hts _ st_X11_isOn, trivial⟩ (g5_preS hPc hK hDc hN hT hS hFc) rfl rfl hl.1 rfl (lv_room (Nat.le_of_ble_eq_true rfl)) dX5_run_188 ⟨Nat.le_of_ble_eq_true rfl, Nat.le_of_ble_eq_true rfl⟩) hS (fun q _ h => hFc q h) hFc (fun r u t H1 locs ht hvm hw hB hz1 hk1 hS => ?_)
              obtain ⟨hP1, hD1⟩ := hB
              rw [ht] at hP1
              obtain ⟨rfl, rfl⟩ := hw
              have hP := g5_same hP hk1
              generalize H1 = H at hP hS ⊢
              refine lv_if_eq (tgt := 221) hx hb dX5_run_191 (by decide) (fun c_27 => ?_) (fun c_27 => ?_)
              ·
                refine lv_iinc (v := (k_s + 1)) (lv' := [(7, .int (k_s + 1)), (8, .int (k_c + 8)), (5, .long 0), (0, .ref a_42), (1, .int p_c), (2, .int 2), (3, .int p_h)]) hx hb dX5_run_221 hl (k := 1) rfl rfl (by decide) rfl (fun ls hl => ?_)
                have t_28 : (k_s + 1).toInt = k_s.toInt + 1 := g5_iadd (a := k_s.toInt) (b := 1) rfl (by decide) (by omega) (by omega)
                refine lv_goto (tgt := 78) hx hb dX5_run_224 (by decide) ?_
                exact ih_78_15 ((k_s + 1), (k_s + 1), p_h, (k_c + 8), (upd k_f k_s.toNatClampNeg ((p_h * 64) + (k_c + 8)))) ls H locs (show Int.toNat (200 - (k_s + 1).toInt) < Int.toNat (200 - k_s.toInt) by omega) ⟨lv_sub hl [0, 2, 3, 4, 5, 6] rfl, hP, hD, hS, ⟨by omega, by omega⟩, ⟨by omega, by omega⟩, ⟨by omega, by omega⟩, ⟨by omega, by omega⟩, by omega, by omega, by omega, ⟨fun h => by omega, fun _ => rfl⟩, g5_pts (fun j => p_h.toInt * 64 + (p_c.toInt + 8 * (j + 1))) i_14 (by omega) (by omega) (by show _ = p_h.toInt * 64 + (p_c.toInt + 8 * (k_s.toInt + 1)); omega)⟩
              ·
                exact absurd c_27 (by decide)
            ·
              exact absurd c_23 (by decide)
  ·
    exact absurd c_5 (by decide)
set_option maxHeartbeats 4000000 in
set_option maxRecDepth 100000 in
theorem kX11_isLook_4 (l : Launch) (G : g5_G) (sz : Nat) (n0 : Int32) (n1 : Int32) (h_n0 : 0 ≤ n0.toInt ∧ n0.toInt ≤ 63) (h_n1 : 0 ≤ n1.toInt ∧ n1.toInt ≤ 23) : Met l yX11_isLook (wsG yX11_isLook cX11_isLook 3 (some .boolean)) ({ frames := 1, cells := 0, slots := 0, locals := 20 }) (va_Pc [.int n0, .int 3, .int n1] (g5_P G [] sz)) (va_Qi (fun (r : Int32) (u : va_W) => ((n0.toInt ≥ 0) ∧ (n0.toInt < 64) ∧ (n1.toInt ≥ 0) ∧ (n1.toInt < 24) ∧ (r = 1) ∧ (u = []))) (g5_B G (va_A [] sz)) (va_A [] sz)) 0 0 (va_A [] sz) := by
  refine Met.ofW (cc := cX11_isLook) (maxL := 3) (ret := (some .boolean)) (by decide) rfl ?_
  intro p e s m args below meth c s₁ B hml hv
  obtain ⟨rfl, hsz, hP, hK, hD0, hN, hT⟩ := hv
  have hx := B.exec
  have hb := B.bytes
  have hr := B.returns
  have hts : ∀ w ∈ tblG, w.before _ s = true := fun w h => atoms_spec (ws := (wsG yX11_isLook cX11_isLook 3 (some .boolean))) B.pre w (List.mem_cons_of_mem _ h)
  have hown : s.vm.findClass RX11 = some m.cls := findClass_of_methodNamed B.named
  have hlocks := B.notSynchronized
  subst hsz
  have hD := hD0.self (sz := s.heap.size)
  generalize hAe : va_A [] s.heap.size = A at hD hT ⊢
  have hA : ∀ q : Nat, s.heap.size ≤ q → A q := fun q h => by rw [← hAe]; exact Or.inr h
  have hS : va_S A s.heap s.heap [] := va_S.rf
  have hP : va_P G.1 vwCl [] s.heap := hP
  have hl := lv_entry ([.int n0, .int 3, .int n1]) (n := 3) (Nat.le_of_ble_eq_true rfl)
  rw [lg_entry_eq]
  generalize (lg_sl ([.int n0, .int 3, .int n1]) ++ List.replicate (3 - (lg_sl ([.int n0, .int 3, .int n1])).length) Slot.unset).toArray = ls at hl ⊢
  have hl : lv_has ls 3 [(0, .int n0), (1, .int 3), (2, .int n1)] := hl
  refine lv_iload_n hx hb dX11_isLook_0 rfl (lv_at hl 0 rfl) ?_
  have hPc := hP.sub (ws' := []) [] rfl
  have hDc := hD.sub (ws' := []) [] (by decide) rfl
  have hFc := va_free (wc := []) hD hS hA [] rfl
  refine va_calli (va_runS (As := [.int n0]) (rest := []) ⟨hx, hb, hml, hown, hts⟩ (kX11_isCell l G s.heap.size n0 ⟨by omega, by omega⟩) (va_cwS 1 hts gS_X11_97 rfl rfl rfl hs_X11_isCell ⟨Nat.le_of_ble_eq_true rfl, Nat.le_of_ble_eq_true rfl⟩) (g5_preS hPc hK hDc hN hT hS hFc) rfl rfl hl.1 rfl (lv_room (Nat.le_of_ble_eq_true rfl)) dX11_isLook_1 ⟨Nat.le_of_ble_eq_true rfl, Nat.le_of_ble_eq_true rfl⟩) hS (fun q _ h => hFc q h) hFc (fun r u t H1 locs ht hvm hw hB hz1 hk1 hS => ?_)
  obtain ⟨hP1, hD1⟩ := hB
  rw [ht] at hP1
  obtain ⟨i_1, i_2, rfl, rfl⟩ := hw
  have hP := g5_same hP hk1
  generalize H1 = H at hP hS ⊢
  refine lv_if_eq (tgt := 27) hx hb dX11_isLook_4 (by decide) (fun c_3 => ?_) (fun c_3 => ?_)
  ·
    exact absurd c_3 (by decide)
  ·
    refine lv_iload_n hx hb dX11_isLook_7 rfl (lv_at hl 1 rfl) ?_
    refine lv_if_lt (tgt := 27) hx hb dX11_isLook_8 (by decide) (fun c_4 => ?_) (fun c_4 => ?_)
    ·
      exact absurd c_4 (by decide)
    ·
      refine lv_iload_n hx hb dX11_isLook_11 rfl (lv_at hl 1 rfl) ?_
      refine lv_iconst (v := 4) hx hb dX11_isLook_12 (by decide) ?_
      refine lv_icmp_ge (tgt := 27) hx hb dX11_isLook_13 (by decide) (fun c_5 => ?_) (fun c_5 => ?_)
      ·
        exact absurd c_5 (by decide)
      ·
        refine lv_iload_n hx hb dX11_isLook_16 rfl (lv_at hl 2 rfl) ?_
        have hPc := hP.sub (ws' := []) [] rfl
        have hDc := hD.sub (ws' := []) [] (by decide) rfl
        have hFc := va_free (wc := []) hD hS hA [] rfl
        refine va_calli (va_runS (As := [.int n1]) (rest := []) ⟨hx, hb, hml, hown, hts⟩ (kX11_isHour l G H.size n1 ⟨by omega, by omega⟩) (va_cwS 1 hts gS_X11_127 rfl rfl rfl hs_X11_isHour ⟨Nat.le_of_ble_eq_true rfl, Nat.le_of_ble_eq_true rfl⟩) (g5_preS hPc hK hDc hN hT hS hFc) rfl rfl hl.1 rfl (lv_room (Nat.le_of_ble_eq_true rfl)) dX11_isLook_17 ⟨Nat.le_of_ble_eq_true rfl, Nat.le_of_ble_eq_true rfl⟩) hS (fun q _ h => hFc q h) hFc (fun r u t H1 locs ht hvm hw hB hz1 hk1 hS => ?_)
        obtain ⟨hP1, hD1⟩ := hB
        rw [ht] at hP1
        obtain ⟨i_6, i_7, rfl, rfl⟩ := hw
        have hP := g5_same hP hk1
        generalize H1 = H at hP hS ⊢
        refine lv_if_eq (tgt := 27) hx hb dX11_isLook_20 (by decide) (fun c_8 => ?_) (fun c_8 => ?_)
        ·
          exact absurd c_8 (by decide)
        ·
          refine lv_iconst (v := 1) hx hb dX11_isLook_23 (by decide) ?_
          refine lv_goto (tgt := 28) hx hb dX11_isLook_24 (by decide) ?_
          exact W.zret (v := 1) hx hb hr rfl (fun t ht hW => ⟨⟨1, [], rfl, ⟨i_1, i_2, i_6, i_7, rfl, rfl⟩, by rw [ht]; exact hP, hD⟩, hS.F ht⟩) hS.2.2 dX11_isLook_28
set_option maxHeartbeats 4000000 in
set_option maxRecDepth 100000 in
theorem kX5_hungBoard_4 (l : Launch) (G : g5_G) (a0 a1 a2 a3 : Nat) (sz : Nat) (n0 : Int32) (n1 : Int32) (n2 : Int32) (h_n1 : 0 ≤ n1.toInt ∧ n1.toInt ≤ 63) (h_n2 : 0 ≤ n2.toInt ∧ n2.toInt ≤ 23) : Met l yX5_hungBoard (wsG yX5_hungBoard cX5_hungBoard 5 (some .long)) ({ frames := 0, cells := 0, slots := 0, locals := 0 }) (va_Pc [.ref a0, .int 0] (g5_P G [(a0, .inr (5, [.ref a1, .ref a2, .ref a3, .int 0, .int (-1), .int (-1), .int 1000000, .int 0, .int n0, .int n1, .int 3, .int n2, .int 0]))] sz)) (va_Ql (fun (r : Int64) (u : va_W) => ((r = 0) ∧ (u = [(a0, .inr (5, [.ref a1, .ref a2, .ref a3, .int 0, .int (-1), .int (-1), .int 1000000, .int 0, .int n0, .int n1, .int 3, .int n2, .int 0]))]))) (g5_B G (va_A [(a0, .inr (5, [.ref a1, .ref a2, .ref a3, .int 0, .int (-1), .int (-1), .int 1000000, .int 0, .int n0, .int n1, .int 3, .int n2, .int 0]))] sz)) (va_A [(a0, .inr (5, [.ref a1, .ref a2, .ref a3, .int 0, .int (-1), .int (-1), .int 1000000, .int 0, .int n0, .int n1, .int 3, .int n2, .int 0]))] sz)) 0 0 (va_A [(a0, .inr (5, [.ref a1, .ref a2, .ref a3, .int 0, .int (-1), .int (-1), .int 1000000, .int 0, .int n0, .int n1, .int 3, .int n2, .int 0]))] sz) := by
  refine Met.ofW (cc := cX5_hungBoard) (maxL := 5) (ret := (some .long)) (by decide) rfl ?_
  intro p e s m args below meth c s₁ B hml hv
  obtain ⟨rfl, hsz, hP, hK, hD0, hN, hT⟩ := hv
  have hx := B.exec
  have hb := B.bytes
  have hr := B.returns
  have hts : ∀ w ∈ tblG, w.before _ s = true := fun w h => atoms_spec (ws := (wsG yX5_hungBoard cX5_hungBoard 5 (some .long))) B.pre w (List.mem_cons_of_mem _ h)
  have hown : s.vm.findClass RX5 = some m.cls := findClass_of_methodNamed B.named
  have hlocks := B.notSynchronized
  subst hsz
  have hD := hD0.self (sz := s.heap.size)
  generalize hAe : va_A [(a0, .inr (5, [.ref a1, .ref a2, .ref a3, .int 0, .int (-1), .int (-1), .int 1000000, .int 0, .int n0, .int n1, .int 3, .int n2, .int 0]))] s.heap.size = A at hD hT ⊢
  have hA : ∀ q : Nat, s.heap.size ≤ q → A q := fun q h => by rw [← hAe]; exact Or.inr h
  have hS : va_S A s.heap s.heap [] := va_S.rf
  have hP : va_P G.1 vwCl [(a0, .inr (5, [.ref a1, .ref a2, .ref a3, .int 0, .int (-1), .int (-1), .int 1000000, .int 0, .int n0, .int n1, .int 3, .int n2, .int 0]))] s.heap := hP
  have hl := lv_entry ([.ref a0, .int 0]) (n := 5) (Nat.le_of_ble_eq_true rfl)
  rw [lg_entry_eq]
  generalize (lg_sl ([.ref a0, .int 0]) ++ List.replicate (5 - (lg_sl ([.ref a0, .int 0])).length) Slot.unset).toArray = ls at hl ⊢
  have hl : lv_has ls 5 [(0, .ref a0), (1, .int 0)] := hl
  refine lv_lconst (v := 0) hx hb dX5_hungBoard_0 (by decide) ?_
  refine lv_lstore_n (lv' := [(2, .long 0), (0, .ref a0), (1, .int 0)]) hx hb dX5_hungBoard_1 rfl hl (by decide) rfl (fun ls hl => ?_)
  refine lv_iconst (v := 0) hx hb dX5_hungBoard_2 (by decide) ?_
  refine lv_istore (lv' := [(4, .int 0), (2, .long 0), (0, .ref a0), (1, .int 0)]) hx hb dX5_hungBoard_3 hl (by decide) rfl (fun ls hl => ?_)
  refine lv_iload_n hx hb dX5_hungBoard_5 rfl (lv_at hl 3 rfl) ?_
  refine lv_iload hx hb dX5_hungBoard_6 (lv_at hl 0 rfl) ?_
  refine lv_ishr hx hb dX5_hungBoard_8 ?_
  refine g5_ti (v := 0) (by decide) ?_
  refine lv_if_eq (tgt := 64) hx hb dX5_hungBoard_9 (by decide) (fun c_1 => ?_) (fun c_1 => ?_)
  ·
    refine lv_lload_n hx hb dX5_hungBoard_64 rfl (lv_at hl 1 rfl) ?_
    exact W.lret (v := 0) hx hb hr (fun t ht hW => ⟨⟨0, [(a0, .inr (5, [.ref a1, .ref a2, .ref a3, .int 0, .int (-1), .int (-1), .int 1000000, .int 0, .int n0, .int n1, .int 3, .int n2, .int 0]))], rfl, ⟨rfl, rfl⟩, by rw [ht]; exact hP, hD⟩, hS.F ht⟩) hS.2.2 dX5_hungBoard_65
  ·
    exact absurd c_1 (by decide)
set_option maxHeartbeats 4000000 in
set_option maxRecDepth 100000 in
theorem kX11_beside_4 (l : Launch) (G : g5_G) (sz : Nat) (n0 : Int32) (h_n0 : 0 ≤ n0.toInt ∧ n0.toInt ≤ 63) : Met l yX11_beside (wsG yX11_beside cX11_beside 2 (some .int)) ({ frames := 0, cells := 0, slots := 0, locals := 0 }) (va_Pc [.int n0, .int 3] (g5_P G [] sz)) (va_Qi (fun (r : Int32) (u : va_W) => (((n0.toInt % 8) ≤ 0) ∧ (r = (-1)) ∧ (u = [])) ∨ (((n0.toInt % 8) > 0) ∧ ((n0 - 1).toInt = (n0.toInt - 1)) ∧ (r = (n0 - 1)) ∧ (u = []))) (g5_B G (va_A [] sz)) (va_A [] sz)) 0 0 (va_A [] sz) := by
  refine Met.ofW (cc := cX11_beside) (maxL := 2) (ret := (some .int)) (by decide) rfl ?_
  intro p e s m args below meth c s₁ B hml hv
  obtain ⟨rfl, hsz, hP, hK, hD0, hN, hT⟩ := hv
  have hx := B.exec
  have hb := B.bytes
  have hr := B.returns
  have hts : ∀ w ∈ tblG, w.before _ s = true := fun w h => atoms_spec (ws := (wsG yX11_beside cX11_beside 2 (some .int))) B.pre w (List.mem_cons_of_mem _ h)
  have hown : s.vm.findClass RX11 = some m.cls := findClass_of_methodNamed B.named
  have hlocks := B.notSynchronized
  subst hsz
  have hD := hD0.self (sz := s.heap.size)
  generalize hAe : va_A [] s.heap.size = A at hD hT ⊢
  have hA : ∀ q : Nat, s.heap.size ≤ q → A q := fun q h => by rw [← hAe]; exact Or.inr h
  have hS : va_S A s.heap s.heap [] := va_S.rf
  have hP : va_P G.1 vwCl [] s.heap := hP
  have hl := lv_entry ([.int n0, .int 3]) (n := 2) (Nat.le_of_ble_eq_true rfl)
  rw [lg_entry_eq]
  generalize (lg_sl ([.int n0, .int 3]) ++ List.replicate (2 - (lg_sl ([.int n0, .int 3])).length) Slot.unset).toArray = ls at hl ⊢
  have hl : lv_has ls 2 [(0, .int n0), (1, .int 3)] := hl
  refine lv_iload_n hx hb dX11_beside_0 rfl (lv_at hl 1 rfl) ?_
  refine lv_tableIn (tgt := 79) hx hb dX11_beside_1 (by decide) (by decide) rfl (by decide) ?_
  refine lv_iload_n hx hb dX11_beside_79 rfl (lv_at hl 0 rfl) ?_
  refine lv_bipush (v := 7) hx hb dX11_beside_80 (by decide) ?_
  refine lv_iand hx hb dX11_beside_82 ?_
  have t_1 : (n0 &&& 7).toInt = n0.toInt % 8 := g5_and7 (a := n0.toInt) rfl (by omega)
  refine lv_if_le (tgt := 92) hx hb dX11_beside_83 (by decide) (fun c_2 => ?_) (fun c_2 => ?_)
  ·
    have i_2 : (n0.toInt % 8) ≤ 0 := by have z := g5_le (a := (n0 &&& 7).toInt) (b := 0) (by rfl) (by decide) c_2; omega
    refine lv_iconst (v := (-1)) hx hb dX11_beside_92 (by decide) ?_
    exact W.iret (v := (-1)) hx hb hr (fun t ht hW => ⟨⟨(-1), [], rfl, Or.inl (⟨i_2, rfl, rfl⟩), by rw [ht]; exact hP, hD⟩, hS.F ht⟩) hS.2.2 dX11_beside_93
  ·
    have i_2 : (n0.toInt % 8) > 0 := by have z := g5_leN (a := (n0 &&& 7).toInt) (b := 0) (by rfl) (by decide) c_2; omega
    refine lv_iload_n hx hb dX11_beside_86 rfl (lv_at hl 0 rfl) ?_
    refine lv_iconst (v := 1) hx hb dX11_beside_87 (by decide) ?_
    refine lv_isub hx hb dX11_beside_88 ?_
    have t_3 : (n0 - 1).toInt = n0.toInt - 1 := g5_isub (a := n0.toInt) (b := 1) (by rfl) (by decide) (by omega) (by omega)
    refine lv_goto (tgt := 93) hx hb dX11_beside_89 (by decide) ?_
    exact W.iret (v := (n0 - 1)) hx hb hr (fun t ht hW => ⟨⟨(n0 - 1), [], rfl, Or.inr (⟨i_2, (by omega), rfl, rfl⟩), by rw [ht]; exact hP, hD⟩, hS.F ht⟩) hS.2.2 dX11_beside_93
