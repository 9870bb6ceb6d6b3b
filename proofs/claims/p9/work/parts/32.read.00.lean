theorem dgX4_isNext_0 : ∀ r ∈ ([(0, (.aload_n 0, 1)), (1, (.getfield 42, 3)), (4, (.aload_n 0, 1)), (5, (.getfield 12, 3)), (8, (.getfield 96, 3)), (11, (.arraylength, 1)), (12, (.if_icmp .ge 23, 3)), (15, (.aload_n 0, 1)), (16, (.getfield 12, 3)), (19, (.getfield 96, 3)), (22, (.aload_n 0, 1)), (23, (.getfield 42, 3)), (26, (.iaload, 1)), (27, (.iload_n 1, 1)), (28, (.if_icmp .ne 7, 3)), (31, (.iconst 1, 1)), (32, (.goto 4, 3)), (35, (.iconst 0, 1)), (36, (.ireturn, 1))] : List (Nat × (Instr × Nat))), decode cX4_isNext r.1 = .ok r.2 := by decide +kernel
theorem dX4_isNext_0 : decode cX4_isNext 0 = .ok (.aload_n 0, 1) := dgX4_isNext_0 (0, (.aload_n 0, 1)) (List.mem_of_getElem? (i := 0) rfl)
theorem dX4_isNext_1 : decode cX4_isNext 1 = .ok (.getfield 42, 3) := dgX4_isNext_0 (1, (.getfield 42, 3)) (List.mem_of_getElem? (i := 1) rfl)
theorem dX4_isNext_4 : decode cX4_isNext 4 = .ok (.aload_n 0, 1) := dgX4_isNext_0 (4, (.aload_n 0, 1)) (List.mem_of_getElem? (i := 2) rfl)
theorem dX4_isNext_5 : decode cX4_isNext 5 = .ok (.getfield 12, 3) := dgX4_isNext_0 (5, (.getfield 12, 3)) (List.mem_of_getElem? (i := 3) rfl)
theorem dX4_isNext_8 : decode cX4_isNext 8 = .ok (.getfield 96, 3) := dgX4_isNext_0 (8, (.getfield 96, 3)) (List.mem_of_getElem? (i := 4) rfl)
theorem dX4_isNext_11 : decode cX4_isNext 11 = .ok (.arraylength, 1) := dgX4_isNext_0 (11, (.arraylength, 1)) (List.mem_of_getElem? (i := 5) rfl)
theorem dX4_isNext_12 : decode cX4_isNext 12 = .ok (.if_icmp .ge 23, 3) := dgX4_isNext_0 (12, (.if_icmp .ge 23, 3)) (List.mem_of_getElem? (i := 6) rfl)
theorem dX4_isNext_15 : decode cX4_isNext 15 = .ok (.aload_n 0, 1) := dgX4_isNext_0 (15, (.aload_n 0, 1)) (List.mem_of_getElem? (i := 7) rfl)
theorem dX4_isNext_16 : decode cX4_isNext 16 = .ok (.getfield 12, 3) := dgX4_isNext_0 (16, (.getfield 12, 3)) (List.mem_of_getElem? (i := 8) rfl)
theorem dX4_isNext_19 : decode cX4_isNext 19 = .ok (.getfield 96, 3) := dgX4_isNext_0 (19, (.getfield 96, 3)) (List.mem_of_getElem? (i := 9) rfl)
theorem dX4_isNext_22 : decode cX4_isNext 22 = .ok (.aload_n 0, 1) := dgX4_isNext_0 (22, (.aload_n 0, 1)) (List.mem_of_getElem? (i := 10) rfl)
theorem dX4_isNext_23 : decode cX4_isNext 23 = .ok (.getfield 42, 3) := dgX4_isNext_0 (23, (.getfield 42, 3)) (List.mem_of_getElem? (i := 11) rfl)
theorem dX4_isNext_26 : decode cX4_isNext 26 = .ok (.iaload, 1) := dgX4_isNext_0 (26, (.iaload, 1)) (List.mem_of_getElem? (i := 12) rfl)
theorem dX4_isNext_27 : decode cX4_isNext 27 = .ok (.iload_n 1, 1) := dgX4_isNext_0 (27, (.iload_n 1, 1)) (List.mem_of_getElem? (i := 13) rfl)
theorem dX4_isNext_28 : decode cX4_isNext 28 = .ok (.if_icmp .ne 7, 3) := dgX4_isNext_0 (28, (.if_icmp .ne 7, 3)) (List.mem_of_getElem? (i := 14) rfl)
theorem dX4_isNext_31 : decode cX4_isNext 31 = .ok (.iconst 1, 1) := dgX4_isNext_0 (31, (.iconst 1, 1)) (List.mem_of_getElem? (i := 15) rfl)
theorem dX4_isNext_32 : decode cX4_isNext 32 = .ok (.goto 4, 3) := dgX4_isNext_0 (32, (.goto 4, 3)) (List.mem_of_getElem? (i := 16) rfl)
theorem dX4_isNext_35 : decode cX4_isNext 35 = .ok (.iconst 0, 1) := dgX4_isNext_0 (35, (.iconst 0, 1)) (List.mem_of_getElem? (i := 17) rfl)
theorem dX4_isNext_36 : decode cX4_isNext 36 = .ok (.ireturn, 1) := dgX4_isNext_0 (36, (.ireturn, 1)) (List.mem_of_getElem? (i := 18) rfl)
theorem inG_X4 : ∀ w ∈ wsX40, w ∈ tblG := tgs [427, 429, 431, 433, 435, 437, 439, 441] (by decide +kernel) (by decide +kernel)
theorem fl_X4_42 : Cond.fieldLink RX4 42 "LateGlass$LawReader" "at" "I" ∈ tblG := tg 424 (by decide +kernel) (by decide +kernel)
theorem fl_X4_12 : Cond.fieldLink RX4 12 "LateGlass$LawReader" "tokens" "LLateGlass$Tokens;" ∈ tblG := tg 418 (by decide +kernel) (by decide +kernel)
theorem fl_X4_96 : Cond.fieldLink RX4 96 "LateGlass$Tokens" "kinds" "[I" ∈ tblG := tg 406 (by decide +kernel) (by decide +kernel)
set_option maxHeartbeats 4000000 in
set_option maxRecDepth 100000 in
theorem r_isNext (l : Launch) (G : g5_G) (a_r a_tk a_kd a_rh a_rs a_rc a_nm a_pl : Nat) (sz : Nat) (e_ln : Int32) (e_pa : Int32) (e_at : Int32) (e_fp : Int32) (p_k : Int32) (f_kd : Nat → Int32) (h_e_ln : 0 ≤ e_ln.toInt ∧ e_ln.toInt ≤ 400) (h_e_pa : 0 ≤ e_pa.toInt ∧ e_pa.toInt ≤ 50) (h_e_at : 0 ≤ e_at.toInt ∧ e_at.toInt ≤ 401) : Met l yX4_isNext (wsG yX4_isNext cX4_isNext 2 (some .boolean)) ({ frames := 0, cells := 0, slots := 0, locals := 0 }) (va_Pc [.ref a_r, .int p_k] (g5_P G [(a_r, (oc4 a_tk a_rh a_rs a_rc e_ln e_pa e_at e_fp)), (a_tk, (oc8 a_kd a_nm a_pl)), (a_kd, (arI G 401 f_kd))] sz)) (va_Qi (fun (r : Int32) (u : va_W) => ((e_at.toInt ≤ 400) ∧ (f_kd e_at.toNatClampNeg = p_k) ∧ (r = 1) ∧ (u = [(a_r, (oc4 a_tk a_rh a_rs a_rc e_ln e_pa e_at e_fp)), (a_tk, (oc8 a_kd a_nm a_pl)), (a_kd, (arI G 401 f_kd))])) ∨ ((r = 0) ∧ (u = [(a_r, (oc4 a_tk a_rh a_rs a_rc e_ln e_pa e_at e_fp)), (a_tk, (oc8 a_kd a_nm a_pl)), (a_kd, (arI G 401 f_kd))]))) (g5_B G (va_A [(a_r, (oc4 a_tk a_rh a_rs a_rc e_ln e_pa e_at e_fp)), (a_tk, (oc8 a_kd a_nm a_pl)), (a_kd, (arI G 401 f_kd))] sz)) (va_A [(a_r, (oc4 a_tk a_rh a_rs a_rc e_ln e_pa e_at e_fp)), (a_tk, (oc8 a_kd a_nm a_pl)), (a_kd, (arI G 401 f_kd))] sz)) 0 0 (va_A [(a_r, (oc4 a_tk a_rh a_rs a_rc e_ln e_pa e_at e_fp)), (a_tk, (oc8 a_kd a_nm a_pl)), (a_kd, (arI G 401 f_kd))] sz) := by
  refine Met.ofW (cc := cX4_isNext) (maxL := 2) (ret := (some .boolean)) (by decide) rfl ?_
  intro p e s m args below meth c s₁ B hml hv
  obtain ⟨rfl, hsz, hP, hK, hD0, hN, hT⟩ := hv
  have hx := B.exec
  have hb := B.bytes
  have hr := B.returns
  have hts : ∀ w ∈ tblG, w.before _ s = true := fun w h => atoms_spec (ws := (wsG yX4_isNext cX4_isNext 2 (some .boolean))) B.pre w (List.mem_cons_of_mem _ h)
  have hown : s.vm.findClass RX4 = some m.cls := findClass_of_methodNamed B.named
  have hlocks := B.notSynchronized
  subst hsz
  have hD := hD0.self (sz := s.heap.size)
  generalize hAe : va_A [(a_r, (oc4 a_tk a_rh a_rs a_rc e_ln e_pa e_at e_fp)), (a_tk, (oc8 a_kd a_nm a_pl)), (a_kd, (arI G 401 f_kd))] s.heap.size = A at hD hT ⊢
  have hA : ∀ q : Nat, s.heap.size ≤ q → A q := fun q h => by rw [← hAe]; exact Or.inr h
  have hS : va_S A s.heap s.heap [] := va_S.rf
  have hP : va_P G.1 vwCl [(a_r, (oc4 a_tk a_rh a_rs a_rc e_ln e_pa e_at e_fp)), (a_tk, (oc8 a_kd a_nm a_pl)), (a_kd, (arI G 401 f_kd))] s.heap := hP
  have hl := lv_entry ([.ref a_r, .int p_k]) (n := 2) (Nat.le_of_ble_eq_true rfl)
  rw [lg_entry_eq]
  generalize (lg_sl ([.ref a_r, .int p_k]) ++ List.replicate (2 - (lg_sl ([.ref a_r, .int p_k])).length) Slot.unset).toArray = ls at hl ⊢
  have hl : lv_has ls 2 [(0, .ref a_r), (1, .int p_k)] := hl
  refine lv_aload_n hx hb dX4_isNext_0 rfl (lv_at hl 0 rfl) ?_
  refine va_get (D := G.1) (ci := 4) (v := .int e_at) (C := RX4) (T := TX4) (N := 8) hx hb hts inG_X4 hown hK hP 0 rfl rfl 6 (by decide) (hts _ fl_X4_42) (fun _ h9 => h9) rfl dX4_isNext_1 ?_
  refine lv_aload_n hx hb dX4_isNext_4 rfl (lv_at hl 0 rfl) ?_
  refine va_get (D := G.1) (ci := 4) (v := .ref a_tk) (C := RX4) (T := TX4) (N := 8) hx hb hts inG_X4 hown hK hP 0 rfl rfl 0 (by decide) (hts _ fl_X4_12) (fun _ h9 => h9) rfl dX4_isNext_5 ?_
  refine va_get (D := G.1) (ci := 8) (v := .ref a_kd) (C := RX8) (T := TX8) (N := 3) hx hb hts inG_X8 hown hK hP 1 rfl rfl 0 (by decide) (hts _ fl_X4_96) (fun _ h9 => h9) rfl dX4_isNext_8 ?_
  refine va_alen hx hb hK hP 2 0 rfl rfl (v := 401) (by show Int32.ofNat 401 = 401; decide) dX4_isNext_11 ?_
  refine lv_icmp_ge (tgt := 35) hx hb dX4_isNext_12 (by decide) (fun c_1 => ?_) (fun c_1 => ?_)
  ·
    have i_1 : e_at.toInt ≥ 401 := by have z := g5_ge (a := e_at.toInt) (b := 401) (by rfl) (by decide) c_1; omega
    refine lv_iconst (v := 0) hx hb dX4_isNext_35 (by decide) ?_
    exact W.zret (v := 0) hx hb hr rfl (fun t ht hW => ⟨⟨0, [(a_r, (oc4 a_tk a_rh a_rs a_rc e_ln e_pa e_at e_fp)), (a_tk, (oc8 a_kd a_nm a_pl)), (a_kd, (arI G 401 f_kd))], rfl, Or.inr (⟨rfl, rfl⟩), by rw [ht]; exact hP.sub [0, 1, 2] rfl, hD.sub [0, 1, 2] (by decide) rfl⟩, hS.F ht⟩) hS.2.2 dX4_isNext_36
  ·
    have i_1 : e_at.toInt < 401 := by have z := g5_geN (a := e_at.toInt) (b := 401) (by rfl) (by decide) c_1; omega
    refine lv_aload_n hx hb dX4_isNext_15 rfl (lv_at hl 0 rfl) ?_
    refine va_get (D := G.1) (ci := 4) (v := .ref a_tk) (C := RX4) (T := TX4) (N := 8) hx hb hts inG_X4 hown hK hP 0 rfl rfl 0 (by decide) (hts _ fl_X4_12) (fun _ h9 => h9) rfl dX4_isNext_16 ?_
    refine va_get (D := G.1) (ci := 8) (v := .ref a_kd) (C := RX8) (T := TX8) (N := 3) hx hb hts inG_X8 hown hK hP 1 rfl rfl 0 (by decide) (hts _ fl_X4_96) (fun _ h9 => h9) rfl dX4_isNext_19 ?_
    refine lv_aload_n hx hb dX4_isNext_22 rfl (lv_at hl 0 rfl) ?_
    refine va_get (D := G.1) (ci := 4) (v := .int e_at) (C := RX4) (T := TX4) (N := 8) hx hb hts inG_X4 hown hK hP 0 rfl rfl 6 (by decide) (hts _ fl_X4_42) (fun _ h9 => h9) rfl dX4_isNext_23 ?_
    refine va_iald hx hb hK hP 2 0 rfl rfl (i := e_at) (vp_in_iff.mpr ⟨by omega, by omega⟩) dX4_isNext_26 ?_
    refine lv_iload_n hx hb dX4_isNext_27 rfl (lv_at hl 1 rfl) ?_
    refine lv_icmp_ne (tgt := 35) hx hb dX4_isNext_28 (by decide) (fun c_2 => ?_) (fun c_2 => ?_)
    ·
      have n_2 : gNe ((f_kd e_at.toNatClampNeg).toInt) (p_k.toInt) := by have z := g5_ne (a := (f_kd e_at.toNatClampNeg).toInt) (b := p_k.toInt) (by rfl) (by rfl) c_2; unfold gNe; omega
      refine lv_iconst (v := 0) hx hb dX4_isNext_35 (by decide) ?_
      exact W.zret (v := 0) hx hb hr rfl (fun t ht hW => ⟨⟨0, [(a_r, (oc4 a_tk a_rh a_rs a_rc e_ln e_pa e_at e_fp)), (a_tk, (oc8 a_kd a_nm a_pl)), (a_kd, (arI G 401 f_kd))], rfl, Or.inr (⟨rfl, rfl⟩), by rw [ht]; exact hP.sub [0, 1, 2] rfl, hD.sub [0, 1, 2] (by decide) rfl⟩, hS.F ht⟩) hS.2.2 dX4_isNext_36
    ·
      have i_2 : (f_kd e_at.toNatClampNeg).toInt = p_k.toInt := by have z := g5_neN (a := (f_kd e_at.toNatClampNeg).toInt) (b := p_k.toInt) (by rfl) (by rfl) c_2; omega
      refine lv_iconst (v := 1) hx hb dX4_isNext_31 (by decide) ?_
      refine lv_goto (tgt := 36) hx hb dX4_isNext_32 (by decide) ?_
      exact W.zret (v := 1) hx hb hr rfl (fun t ht hW => ⟨⟨1, [(a_r, (oc4 a_tk a_rh a_rs a_rc e_ln e_pa e_at e_fp)), (a_tk, (oc8 a_kd a_nm a_pl)), (a_kd, (arI G 401 f_kd))], rfl, Or.inl (⟨by omega, Int32.toInt_inj.mp (by omega), rfl, rfl⟩), by rw [ht]; exact hP.sub [0, 1, 2] rfl, hD.sub [0, 1, 2] (by decide) rfl⟩, hS.F ht⟩) hS.2.2 dX4_isNext_36
theorem dgX4_passed_0 : ∀ r ∈ ([(0, (.aload_n 0, 1)), (1, (.getfield 42, 3)), (4, (.aload_n 0, 1)), (5, (.getfield 12, 3)), (8, (.getfield 96, 3)), (11, (.arraylength, 1)), (12, (.if_icmp .ge 23, 3)), (15, (.aload_n 0, 1)), (16, (.getfield 12, 3)), (19, (.getfield 96, 3)), (22, (.aload_n 0, 1)), (23, (.getfield 42, 3)), (26, (.iaload, 1)), (27, (.iload_n 1, 1)), (28, (.if_icmp .ne 7, 3)), (31, (.iconst 1, 1)), (32, (.goto 4, 3)), (35, (.iconst 0, 1)), (36, (.istore_n 2, 1)), (37, (.aload_n 0, 1)), (38, (.dup, 1)), (39, (.getfield 42, 3)), (42, (.iload_n 2, 1)), (43, (.ifCond .eq 7, 3)), (46, (.iconst 1, 1)), (47, (.goto 4, 3)), (50, (.iconst 0, 1)), (51, (.iadd, 1)), (52, (.putfield 42, 3)), (55, (.iload_n 2, 1)), (56, (.ireturn, 1))] : List (Nat × (Instr × Nat))), decode cX4_passed r.1 = .ok r.2 := by decide +kernel
theorem dX4_passed_0 : decode cX4_passed 0 = .ok (.aload_n 0, 1) := dgX4_passed_0 (0, (.aload_n 0, 1)) (List.mem_of_getElem? (i := 0) rfl)
theorem dX4_passed_1 : decode cX4_passed 1 = .ok (.getfield 42, 3) := dgX4_passed_0 (1, (.getfield 42, 3)) (List.mem_of_getElem? (i := 1) rfl)
theorem dX4_passed_4 : decode cX4_passed 4 = .ok (.aload_n 0, 1) := dgX4_passed_0 (4, (.aload_n 0, 1)) (List.mem_of_getElem? (i := 2) rfl)
theorem dX4_passed_5 : decode cX4_passed 5 = .ok (.getfield 12, 3) := dgX4_passed_0 (5, (.getfield 12, 3)) (List.mem_of_getElem? (i := 3) rfl)
theorem dX4_passed_8 : decode cX4_passed 8 = .ok (.getfield 96, 3) := dgX4_passed_0 (8, (.getfield 96, 3)) (List.mem_of_getElem? (i := 4) rfl)
theorem dX4_passed_11 : decode cX4_passed 11 = .ok (.arraylength, 1) := dgX4_passed_0 (11, (.arraylength, 1)) (List.mem_of_getElem? (i := 5) rfl)
theorem dX4_passed_12 : decode cX4_passed 12 = .ok (.if_icmp .ge 23, 3) := dgX4_passed_0 (12, (.if_icmp .ge 23, 3)) (List.mem_of_getElem? (i := 6) rfl)
theorem dX4_passed_15 : decode cX4_passed 15 = .ok (.aload_n 0, 1) := dgX4_passed_0 (15, (.aload_n 0, 1)) (List.mem_of_getElem? (i := 7) rfl)
theorem dX4_passed_16 : decode cX4_passed 16 = .ok (.getfield 12, 3) := dgX4_passed_0 (16, (.getfield 12, 3)) (List.mem_of_getElem? (i := 8) rfl)
theorem dX4_passed_19 : decode cX4_passed 19 = .ok (.getfield 96, 3) := dgX4_passed_0 (19, (.getfield 96, 3)) (List.mem_of_getElem? (i := 9) rfl)
theorem dX4_passed_22 : decode cX4_passed 22 = .ok (.aload_n 0, 1) := dgX4_passed_0 (22, (.aload_n 0, 1)) (List.mem_of_getElem? (i := 10) rfl)
theorem dX4_passed_23 : decode cX4_passed 23 = .ok (.getfield 42, 3) := dgX4_passed_0 (23, (.getfield 42, 3)) (List.mem_of_getElem? (i := 11) rfl)
theorem dX4_passed_26 : decode cX4_passed 26 = .ok (.iaload, 1) := dgX4_passed_0 (26, (.iaload, 1)) (List.mem_of_getElem? (i := 12) rfl)
theorem dX4_passed_27 : decode cX4_passed 27 = .ok (.iload_n 1, 1) := dgX4_passed_0 (27, (.iload_n 1, 1)) (List.mem_of_getElem? (i := 13) rfl)
theorem dX4_passed_28 : decode cX4_passed 28 = .ok (.if_icmp .ne 7, 3) := dgX4_passed_0 (28, (.if_icmp .ne 7, 3)) (List.mem_of_getElem? (i := 14) rfl)
theorem dX4_passed_31 : decode cX4_passed 31 = .ok (.iconst 1, 1) := dgX4_passed_0 (31, (.iconst 1, 1)) (List.mem_of_getElem? (i := 15) rfl)
theorem dX4_passed_32 : decode cX4_passed 32 = .ok (.goto 4, 3) := dgX4_passed_0 (32, (.goto 4, 3)) (List.mem_of_getElem? (i := 16) rfl)
theorem dX4_passed_35 : decode cX4_passed 35 = .ok (.iconst 0, 1) := dgX4_passed_0 (35, (.iconst 0, 1)) (List.mem_of_getElem? (i := 17) rfl)
theorem dX4_passed_36 : decode cX4_passed 36 = .ok (.istore_n 2, 1) := dgX4_passed_0 (36, (.istore_n 2, 1)) (List.mem_of_getElem? (i := 18) rfl)
theorem dX4_passed_37 : decode cX4_passed 37 = .ok (.aload_n 0, 1) := dgX4_passed_0 (37, (.aload_n 0, 1)) (List.mem_of_getElem? (i := 19) rfl)
theorem dX4_passed_38 : decode cX4_passed 38 = .ok (.dup, 1) := dgX4_passed_0 (38, (.dup, 1)) (List.mem_of_getElem? (i := 20) rfl)
theorem dX4_passed_39 : decode cX4_passed 39 = .ok (.getfield 42, 3) := dgX4_passed_0 (39, (.getfield 42, 3)) (List.mem_of_getElem? (i := 21) rfl)
theorem dX4_passed_42 : decode cX4_passed 42 = .ok (.iload_n 2, 1) := dgX4_passed_0 (42, (.iload_n 2, 1)) (List.mem_of_getElem? (i := 22) rfl)
theorem dX4_passed_43 : decode cX4_passed 43 = .ok (.ifCond .eq 7, 3) := dgX4_passed_0 (43, (.ifCond .eq 7, 3)) (List.mem_of_getElem? (i := 23) rfl)
theorem dX4_passed_46 : decode cX4_passed 46 = .ok (.iconst 1, 1) := dgX4_passed_0 (46, (.iconst 1, 1)) (List.mem_of_getElem? (i := 24) rfl)
theorem dX4_passed_47 : decode cX4_passed 47 = .ok (.goto 4, 3) := dgX4_passed_0 (47, (.goto 4, 3)) (List.mem_of_getElem? (i := 25) rfl)
theorem dX4_passed_50 : decode cX4_passed 50 = .ok (.iconst 0, 1) := dgX4_passed_0 (50, (.iconst 0, 1)) (List.mem_of_getElem? (i := 26) rfl)
theorem dX4_passed_51 : decode cX4_passed 51 = .ok (.iadd, 1) := dgX4_passed_0 (51, (.iadd, 1)) (List.mem_of_getElem? (i := 27) rfl)
theorem dX4_passed_52 : decode cX4_passed 52 = .ok (.putfield 42, 3) := dgX4_passed_0 (52, (.putfield 42, 3)) (List.mem_of_getElem? (i := 28) rfl)
theorem dX4_passed_55 : decode cX4_passed 55 = .ok (.iload_n 2, 1) := dgX4_passed_0 (55, (.iload_n 2, 1)) (List.mem_of_getElem? (i := 29) rfl)
theorem dX4_passed_56 : decode cX4_passed 56 = .ok (.ireturn, 1) := dgX4_passed_0 (56, (.ireturn, 1)) (List.mem_of_getElem? (i := 30) rfl)
set_option maxHeartbeats 4000000 in
set_option maxRecDepth 100000 in
theorem r_passed (l : Launch) (G : g5_G) (a_r a_tk a_kd a_rh a_rs a_rc a_nm a_pl : Nat) (sz : Nat) (e_ln : Int32) (e_pa : Int32) (e_at : Int32) (e_fp : Int32) (p_k : Int32) (f_kd : Nat → Int32) (h_e_ln : 0 ≤ e_ln.toInt ∧ e_ln.toInt ≤ 400) (h_e_pa : 0 ≤ e_pa.toInt ∧ e_pa.toInt ≤ 50) (h_e_at : 0 ≤ e_at.toInt ∧ e_at.toInt ≤ 401) : Met l yX4_passed (wsG yX4_passed cX4_passed 3 (some .boolean)) ({ frames := 0, cells := 0, slots := 0, locals := 0 }) (va_Pc [.ref a_r, .int p_k] (g5_P G [(a_r, (oc4 a_tk a_rh a_rs a_rc e_ln e_pa e_at e_fp)), (a_tk, (oc8 a_kd a_nm a_pl)), (a_kd, (arI G 401 f_kd))] sz)) (va_Qi (fun (r : Int32) (u : va_W) => (∃ (o_r : Int32) (o_at : Int32), (0 ≤ o_r.toInt ∧ o_r.toInt ≤ 1) ∧ (0 ≤ o_at.toInt ∧ o_at.toInt ≤ 401) ∧ (r = o_r) ∧ (u = [(a_r, (oc4 a_tk a_rh a_rs a_rc e_ln e_pa o_at e_fp)), (a_tk, (oc8 a_kd a_nm a_pl)), (a_kd, (arI G 401 f_kd))]))) (g5_B G (va_A [(a_r, (oc4 a_tk a_rh a_rs a_rc e_ln e_pa e_at e_fp)), (a_tk, (oc8 a_kd a_nm a_pl)), (a_kd, (arI G 401 f_kd))] sz)) (va_A [(a_r, (oc4 a_tk a_rh a_rs a_rc e_ln e_pa e_at e_fp)), (a_tk, (oc8 a_kd a_nm a_pl)), (a_kd, (arI G 401 f_kd))] sz)) 0 0 (va_A [(a_r, (oc4 a_tk a_rh a_rs a_rc e_ln e_pa e_at e_fp)), (a_tk, (oc8 a_kd a_nm a_pl)), (a_kd, (arI G 401 f_kd))] sz) := by
  refine Met.ofW (cc := cX4_passed) (maxL := 3) (ret := (some .boolean)) (by decide) rfl ?_
  intro p e s m args below meth c s₁ B hml hv
  obtain ⟨rfl, hsz, hP, hK, hD0, hN, hT⟩ := hv
  have hx := B.exec
  have hb := B.bytes
  have hr := B.returns
  have hts : ∀ w ∈ tblG, w.before _ s = true := fun w h => atoms_spec (ws := (wsG yX4_passed cX4_passed 3 (some .boolean))) B.pre w (List.mem_cons_of_mem _ h)
  have hown : s.vm.findClass RX4 = some m.cls := findClass_of_methodNamed B.named
  have hlocks := B.notSynchronized
  subst hsz
  have hD := hD0.self (sz := s.heap.size)
  generalize hAe : va_A [(a_r, (oc4 a_tk a_rh a_rs a_rc e_ln e_pa e_at e_fp)), (a_tk, (oc8 a_kd a_nm a_pl)), (a_kd, (arI G 401 f_kd))] s.heap.size = A at hD hT ⊢
  have hA : ∀ q : Nat, s.heap.size ≤ q → A q := fun q h => by rw [← hAe]; exact Or.inr h
  have hS : va_S A s.heap s.heap [] := va_S.rf
  have hP : va_P G.1 vwCl [(a_r, (oc4 a_tk a_rh a_rs a_rc e_ln e_pa e_at e_fp)), (a_tk, (oc8 a_kd a_nm a_pl)), (a_kd, (arI G 401 f_kd))] s.heap := hP
  have hl := lv_entry ([.ref a_r, .int p_k]) (n := 3) (Nat.le_of_ble_eq_true rfl)
  rw [lg_entry_eq]
  generalize (lg_sl ([.ref a_r, .int p_k]) ++ List.replicate (3 - (lg_sl ([.ref a_r, .int p_k])).length) Slot.unset).toArray = ls at hl ⊢
  have hl : lv_has ls 3 [(0, .ref a_r), (1, .int p_k)] := hl
  refine lv_aload_n hx hb dX4_passed_0 rfl (lv_at hl 0 rfl) ?_
  refine va_get (D := G.1) (ci := 4) (v := .int e_at) (C := RX4) (T := TX4) (N := 8) hx hb hts inG_X4 hown hK hP 0 rfl rfl 6 (by decide) (hts _ fl_X4_42) (fun _ h9 => h9) rfl dX4_passed_1 ?_
  refine lv_aload_n hx hb dX4_passed_4 rfl (lv_at hl 0 rfl) ?_
  refine va_get (D := G.1) (ci := 4) (v := .ref a_tk) (C := RX4) (T := TX4) (N := 8) hx hb hts inG_X4 hown hK hP 0 rfl rfl 0 (by decide) (hts _ fl_X4_12) (fun _ h9 => h9) rfl dX4_passed_5 ?_
  refine va_get (D := G.1) (ci := 8) (v := .ref a_kd) (C := RX8) (T := TX8) (N := 3) hx hb hts inG_X8 hown hK hP 1 rfl rfl 0 (by decide) (hts _ fl_X4_96) (fun _ h9 => h9) rfl dX4_passed_8 ?_
  refine va_alen hx hb hK hP 2 0 rfl rfl (v := 401) (by show Int32.ofNat 401 = 401; decide) dX4_passed_11 ?_
  refine lv_icmp_ge (tgt := 35) hx hb dX4_passed_12 (by decide) (fun c_1 => ?_) (fun c_1 => ?_)
  ·
    have i_1 : e_at.toInt ≥ 401 := by have z := g5_ge (a := e_at.toInt) (b := 401) (by rfl) (by decide) c_1; omega
    refine lv_iconst (v := 0) hx hb dX4_passed_35 (by decide) ?_
    refine lv_istore_n (lv' := [(2, .int 0), (0, .ref a_r), (1, .int p_k)]) hx hb dX4_passed_36 rfl hl (by decide) rfl (fun ls hl => ?_)
    refine lv_aload_n hx hb dX4_passed_37 rfl (lv_at hl 1 rfl) ?_
    refine lv_dup hx hb dX4_passed_38 rfl ?_
    refine va_get (D := G.1) (ci := 4) (v := .int e_at) (C := RX4) (T := TX4) (N := 8) hx hb hts inG_X4 hown hK hP 0 rfl rfl 6 (by decide) (hts _ fl_X4_42) (fun _ h9 => h9) rfl dX4_passed_39 ?_
    refine lv_iload_n hx hb dX4_passed_42 rfl (lv_at hl 0 rfl) ?_
    refine lv_if_eq (tgt := 50) hx hb dX4_passed_43 (by decide) (fun c_2 => ?_) (fun c_2 => ?_)
    ·
      refine lv_iconst (v := 0) hx hb dX4_passed_50 (by decide) ?_
      refine lv_iadd hx hb dX4_passed_51 ?_
      refine g5_ti (v := e_at) (by simp) ?_
      refine va_put (D := G.1) (ci := 4) (v := .int e_at) (ty := .int) (C := RX4) (T := TX4) (N := 8) hx hb hts inG_X4 tyX4 tyX4_ok nmX4 hown hK hP hD hS 0 rfl rfl 6 (by decide) (hts _ fl_X4_42) (fun _ h9 => h9) rfl (by decide +kernel) rfl rfl (Nat.le_of_ble_eq_true rfl) dX4_passed_52 (fun H locs hP hD hS => ?_)
      refine g5_rs [(a_r, (oc4 a_tk a_rh a_rs a_rc e_ln e_pa e_at e_fp)), (a_tk, (oc8 a_kd a_nm a_pl)), (a_kd, (arI G 401 f_kd))] hP hD (fun hP hD => ?_)
      refine lv_iload_n hx hb dX4_passed_55 rfl (lv_at hl 0 rfl) ?_
      exact W.zret (v := 0) hx hb hr rfl (fun t ht hW => ⟨⟨0, [(a_r, (oc4 a_tk a_rh a_rs a_rc e_ln e_pa e_at e_fp)), (a_tk, (oc8 a_kd a_nm a_pl)), (a_kd, (arI G 401 f_kd))], rfl, ⟨0, e_at, ⟨by have zc_o_r : (0 : Int32).toInt = 0 := (by decide); omega, by have zc_o_r : (0 : Int32).toInt = 0 := (by decide); omega⟩, h_e_at, rfl, rfl⟩, by rw [ht]; exact hP.sub [0, 1, 2] rfl, hD.sub [0, 1, 2] (by decide) rfl⟩, hS.F ht⟩) hS.2.2 dX4_passed_56
    ·
      exact absurd c_2 (by decide)
  ·
    have i_1 : e_at.toInt < 401 := by have z := g5_geN (a := e_at.toInt) (b := 401) (by rfl) (by decide) c_1; omega
    refine lv_aload_n hx hb dX4_passed_15 rfl (lv_at hl 0 rfl) ?_
    refine va_get (D := G.1) (ci := 4) (v := .ref a_tk) (C := RX4) (T := TX4) (N := 8) hx hb hts inG_X4 hown hK hP 0 rfl rfl 0 (by decide) (hts _ fl_X4_12) (fun _ h9 => h9) rfl dX4_passed_16 ?_
    refine va_get (D := G.1) (ci := 8) (v := .ref a_kd) (C := RX8) (T := TX8) (N := 3) hx hb hts inG_X8 hown hK hP 1 rfl rfl 0 (by decide) (hts _ fl_X4_96) (fun _ h9 => h9) rfl dX4_passed_19 ?_
    refine lv_aload_n hx hb dX4_passed_22 rfl (lv_at hl 0 rfl) ?_
    refine va_get (D := G.1) (ci := 4) (v := .int e_at) (C := RX4) (T := TX4) (N := 8) hx hb hts inG_X4 hown hK hP 0 rfl rfl 6 (by decide) (hts _ fl_X4_42) (fun _ h9 => h9) rfl dX4_passed_23 ?_
    refine va_iald hx hb hK hP 2 0 rfl rfl (i := e_at) (vp_in_iff.mpr ⟨by omega, by omega⟩) dX4_passed_26 ?_
    refine lv_iload_n hx hb dX4_passed_27 rfl (lv_at hl 1 rfl) ?_
    refine lv_icmp_ne (tgt := 35) hx hb dX4_passed_28 (by decide) (fun c_3 => ?_) (fun c_3 => ?_)
    ·
      have n_3 : gNe ((f_kd e_at.toNatClampNeg).toInt) (p_k.toInt) := by have z := g5_ne (a := (f_kd e_at.toNatClampNeg).toInt) (b := p_k.toInt) (by rfl) (by rfl) c_3; unfold gNe; omega
      refine lv_iconst (v := 0) hx hb dX4_passed_35 (by decide) ?_
      refine lv_istore_n (lv' := [(2, .int 0), (0, .ref a_r), (1, .int p_k)]) hx hb dX4_passed_36 rfl hl (by decide) rfl (fun ls hl => ?_)
      refine lv_aload_n hx hb dX4_passed_37 rfl (lv_at hl 1 rfl) ?_
      refine lv_dup hx hb dX4_passed_38 rfl ?_
      refine va_get (D := G.1) (ci := 4) (v := .int e_at) (C := RX4) (T := TX4) (N := 8) hx hb hts inG_X4 hown hK hP 0 rfl rfl 6 (by decide) (hts _ fl_X4_42) (fun _ h9 => h9) rfl dX4_passed_39 ?_
      refine lv_iload_n hx hb dX4_passed_42 rfl (lv_at hl 0 rfl) ?_
      refine lv_if_eq (tgt := 50) hx hb dX4_passed_43 (by decide) (fun c_4 => ?_) (fun c_4 => ?_)
      ·
        refine lv_iconst (v := 0) hx hb dX4_passed_50 (by decide) ?_
        refine lv_iadd hx hb dX4_passed_51 ?_
        refine g5_ti (v := e_at) (by simp) ?_
        refine va_put (D := G.1) (ci := 4) (v := .int e_at) (ty := .int) (C := RX4) (T := TX4) (N := 8) hx hb hts inG_X4 tyX4 tyX4_ok nmX4 hown hK hP hD hS 0 rfl rfl 6 (by decide) (hts _ fl_X4_42) (fun _ h9 => h9) rfl (by decide +kernel) rfl rfl (Nat.le_of_ble_eq_true rfl) dX4_passed_52 (fun H locs hP hD hS => ?_)
        refine g5_rs [(a_r, (oc4 a_tk a_rh a_rs a_rc e_ln e_pa e_at e_fp)), (a_tk, (oc8 a_kd a_nm a_pl)), (a_kd, (arI G 401 f_kd))] hP hD (fun hP hD => ?_)
        refine lv_iload_n hx hb dX4_passed_55 rfl (lv_at hl 0 rfl) ?_
        exact W.zret (v := 0) hx hb hr rfl (fun t ht hW => ⟨⟨0, [(a_r, (oc4 a_tk a_rh a_rs a_rc e_ln e_pa e_at e_fp)), (a_tk, (oc8 a_kd a_nm a_pl)), (a_kd, (arI G 401 f_kd))], rfl, ⟨0, e_at, ⟨by have zc_o_r : (0 : Int32).toInt = 0 := (by decide); omega, by have zc_o_r : (0 : Int32).toInt = 0 := (by decide); omega⟩, h_e_at, rfl, rfl⟩, by rw [ht]; exact hP.sub [0, 1, 2] rfl, hD.sub [0, 1, 2] (by decide) rfl⟩, hS.F ht⟩) hS.2.2 dX4_passed_56
      ·
        exact absurd c_4 (by decide)
    ·
      have i_3 : (f_kd e_at.toNatClampNeg).toInt = p_k.toInt := by have z := g5_neN (a := (f_kd e_at.toNatClampNeg).toInt) (b := p_k.toInt) (by rfl) (by rfl) c_3; omega
      refine lv_iconst (v := 1) hx hb dX4_passed_31 (by decide) ?_
      refine lv_goto (tgt := 36) hx hb dX4_passed_32 (by decide) ?_
      refine lv_istore_n (lv' := [(2, .int 1), (0, .ref a_r), (1, .int p_k)]) hx hb dX4_passed_36 rfl hl (by decide) rfl (fun ls hl => ?_)
      refine lv_aload_n hx hb dX4_passed_37 rfl (lv_at hl 1 rfl) ?_
      refine lv_dup hx hb dX4_passed_38 rfl ?_
      refine va_get (D := G.1) (ci := 4) (v := .int e_at) (C := RX4) (T := TX4) (N := 8) hx hb hts inG_X4 hown hK hP 0 rfl rfl 6 (by decide) (hts _ fl_X4_42) (fun _ h9 => h9) rfl dX4_passed_39 ?_
      refine lv_iload_n hx hb dX4_passed_42 rfl (lv_at hl 0 rfl) ?_
      refine lv_if_eq (tgt := 50) hx hb dX4_passed_43 (by decide) (fun c_5 => ?_) (fun c_5 => ?_)
      ·
        exact absurd c_5 (by decide)
      ·
        refine lv_iconst (v := 1) hx hb dX4_passed_46 (by decide) ?_
        refine lv_goto (tgt := 51) hx hb dX4_passed_47 (by decide) ?_
        refine lv_iadd hx hb dX4_passed_51 ?_
        have t_6 : (e_at + 1).toInt = e_at.toInt + 1 := g5_iadd (a := e_at.toInt) (b := 1) (by rfl) (by decide) (by omega) (by omega)
        refine va_put (D := G.1) (ci := 4) (v := .int (e_at + 1)) (ty := .int) (C := RX4) (T := TX4) (N := 8) hx hb hts inG_X4 tyX4 tyX4_ok nmX4 hown hK hP hD hS 0 rfl rfl 6 (by decide) (hts _ fl_X4_42) (fun _ h9 => h9) rfl (by decide +kernel) rfl rfl (Nat.le_of_ble_eq_true rfl) dX4_passed_52 (fun H locs hP hD hS => ?_)
        refine g5_rs [(a_r, (oc4 a_tk a_rh a_rs a_rc e_ln e_pa (e_at + 1) e_fp)), (a_tk, (oc8 a_kd a_nm a_pl)), (a_kd, (arI G 401 f_kd))] hP hD (fun hP hD => ?_)
        refine lv_iload_n hx hb dX4_passed_55 rfl (lv_at hl 0 rfl) ?_
        exact W.zret (v := 1) hx hb hr rfl (fun t ht hW => ⟨⟨1, [(a_r, (oc4 a_tk a_rh a_rs a_rc e_ln e_pa (e_at + 1) e_fp)), (a_tk, (oc8 a_kd a_nm a_pl)), (a_kd, (arI G 401 f_kd))], rfl, ⟨1, (e_at + 1), ⟨by have zc_o_r : (1 : Int32).toInt = 1 := (by decide); omega, by have zc_o_r : (1 : Int32).toInt = 1 := (by decide); omega⟩, ⟨by omega, by omega⟩, rfl, rfl⟩, by rw [ht]; exact hP.sub [0, 1, 2] rfl, hD.sub [0, 1, 2] (by decide) rfl⟩, hS.F ht⟩) hS.2.2 dX4_passed_56
theorem dgX4_jumpHere_0 : ∀ r ∈ ([(0, (.iload_n 1, 1)), (1, (.ifCond .lt 25, 3)), (4, (.iload_n 1, 1)), (5, (.aload_n 0, 1)), (6, (.getfield 25, 3)), (9, (.arraylength, 1)), (10, (.if_icmp .ge 16, 3)), (13, (.aload_n 0, 1)), (14, (.getfield 25, 3)), (17, (.iload_n 1, 1)), (18, (.dup2, 1)), (19, (.iaload, 1)), (20, (.aload_n 0, 1)), (21, (.getfield 36, 3)), (24, (.ior, 1)), (25, (.iastore, 1)), (26, (.return_, 1))] : List (Nat × (Instr × Nat))), decode cX4_jumpHere r.1 = .ok r.2 := by decide +kernel
theorem dX4_jumpHere_0 : decode cX4_jumpHere 0 = .ok (.iload_n 1, 1) := dgX4_jumpHere_0 (0, (.iload_n 1, 1)) (List.mem_of_getElem? (i := 0) rfl)
theorem dX4_jumpHere_1 : decode cX4_jumpHere 1 = .ok (.ifCond .lt 25, 3) := dgX4_jumpHere_0 (1, (.ifCond .lt 25, 3)) (List.mem_of_getElem? (i := 1) rfl)
theorem dX4_jumpHere_4 : decode cX4_jumpHere 4 = .ok (.iload_n 1, 1) := dgX4_jumpHere_0 (4, (.iload_n 1, 1)) (List.mem_of_getElem? (i := 2) rfl)
theorem dX4_jumpHere_5 : decode cX4_jumpHere 5 = .ok (.aload_n 0, 1) := dgX4_jumpHere_0 (5, (.aload_n 0, 1)) (List.mem_of_getElem? (i := 3) rfl)
theorem dX4_jumpHere_6 : decode cX4_jumpHere 6 = .ok (.getfield 25, 3) := dgX4_jumpHere_0 (6, (.getfield 25, 3)) (List.mem_of_getElem? (i := 4) rfl)
theorem dX4_jumpHere_9 : decode cX4_jumpHere 9 = .ok (.arraylength, 1) := dgX4_jumpHere_0 (9, (.arraylength, 1)) (List.mem_of_getElem? (i := 5) rfl)
theorem dX4_jumpHere_10 : decode cX4_jumpHere 10 = .ok (.if_icmp .ge 16, 3) := dgX4_jumpHere_0 (10, (.if_icmp .ge 16, 3)) (List.mem_of_getElem? (i := 6) rfl)
theorem dX4_jumpHere_13 : decode cX4_jumpHere 13 = .ok (.aload_n 0, 1) := dgX4_jumpHere_0 (13, (.aload_n 0, 1)) (List.mem_of_getElem? (i := 7) rfl)
theorem dX4_jumpHere_14 : decode cX4_jumpHere 14 = .ok (.getfield 25, 3) := dgX4_jumpHere_0 (14, (.getfield 25, 3)) (List.mem_of_getElem? (i := 8) rfl)
theorem dX4_jumpHere_17 : decode cX4_jumpHere 17 = .ok (.iload_n 1, 1) := dgX4_jumpHere_0 (17, (.iload_n 1, 1)) (List.mem_of_getElem? (i := 9) rfl)
theorem dX4_jumpHere_18 : decode cX4_jumpHere 18 = .ok (.dup2, 1) := dgX4_jumpHere_0 (18, (.dup2, 1)) (List.mem_of_getElem? (i := 10) rfl)
theorem dX4_jumpHere_19 : decode cX4_jumpHere 19 = .ok (.iaload, 1) := dgX4_jumpHere_0 (19, (.iaload, 1)) (List.mem_of_getElem? (i := 11) rfl)
theorem dX4_jumpHere_20 : decode cX4_jumpHere 20 = .ok (.aload_n 0, 1) := dgX4_jumpHere_0 (20, (.aload_n 0, 1)) (List.mem_of_getElem? (i := 12) rfl)
theorem dX4_jumpHere_21 : decode cX4_jumpHere 21 = .ok (.getfield 36, 3) := dgX4_jumpHere_0 (21, (.getfield 36, 3)) (List.mem_of_getElem? (i := 13) rfl)
theorem dX4_jumpHere_24 : decode cX4_jumpHere 24 = .ok (.ior, 1) := dgX4_jumpHere_0 (24, (.ior, 1)) (List.mem_of_getElem? (i := 14) rfl)
theorem dX4_jumpHere_25 : decode cX4_jumpHere 25 = .ok (.iastore, 1) := dgX4_jumpHere_0 (25, (.iastore, 1)) (List.mem_of_getElem? (i := 15) rfl)
theorem dX4_jumpHere_26 : decode cX4_jumpHere 26 = .ok (.return_, 1) := dgX4_jumpHere_0 (26, (.return_, 1)) (List.mem_of_getElem? (i := 16) rfl)
theorem fl_X4_25 : Cond.fieldLink RX4 25 "LateGlass$LawReader" "code" "[I" ∈ tblG := tg 421 (by decide +kernel) (by decide +kernel)
theorem fl_X4_36 : Cond.fieldLink RX4 36 "LateGlass$LawReader" "length" "I" ∈ tblG := tg 422 (by decide +kernel) (by decide +kernel)
set_option maxHeartbeats 4000000 in
set_option maxRecDepth 100000 in
theorem r_jump (l : Launch) (G : g5_G) (a_r a_rc a_tk a_rh a_rs : Nat) (sz : Nat) (e_ln : Int32) (e_pa : Int32) (e_at : Int32) (e_fp : Int32) (p_j : Int32) (f_rc : Nat → Int32) (h_e_ln : 0 ≤ e_ln.toInt ∧ e_ln.toInt ≤ 400) (h_e_pa : 0 ≤ e_pa.toInt ∧ e_pa.toInt ≤ 50) (h_e_at : 0 ≤ e_at.toInt ∧ e_at.toInt ≤ 401) (e_cd : CDI f_rc e_ln.toInt) (e_jk : JOK f_rc e_ln.toInt p_j) : Met l yX4_jumpHere (wsG yX4_jumpHere cX4_jumpHere 2 none) ({ frames := 0, cells := 0, slots := 0, locals := 0 }) (va_Pc [.ref a_r, .int p_j] (g5_P G [(a_r, (oc4 a_tk a_rh a_rs a_rc e_ln e_pa e_at e_fp)), (a_rc, (arI G 400 f_rc))] sz)) (va_Qv (fun (u : va_W) => (∃ (o_rc : Nat → Int32), (CDI o_rc e_ln.toInt) ∧ (OPK f_rc o_rc e_ln.toInt) ∧ (u = [(a_r, (oc4 a_tk a_rh a_rs a_rc e_ln e_pa e_at e_fp)), (a_rc, (arI G 400 o_rc))]))) (g5_B G (va_A [(a_r, (oc4 a_tk a_rh a_rs a_rc e_ln e_pa e_at e_fp)), (a_rc, (arI G 400 f_rc))] sz)) (va_A [(a_r, (oc4 a_tk a_rh a_rs a_rc e_ln e_pa e_at e_fp)), (a_rc, (arI G 400 f_rc))] sz)) 0 0 (va_A [(a_r, (oc4 a_tk a_rh a_rs a_rc e_ln e_pa e_at e_fp)), (a_rc, (arI G 400 f_rc))] sz) := by
  refine Met.ofW (cc := cX4_jumpHere) (maxL := 2) (ret := none) (by decide) rfl ?_
  intro p e s m args below meth c s₁ B hml hv
  obtain ⟨rfl, hsz, hP, hK, hD0, hN, hT⟩ := hv
  have hx := B.exec
  have hb := B.bytes
  have hr := B.returns
  have hts : ∀ w ∈ tblG, w.before _ s = true := fun w h => atoms_spec (ws := (wsG yX4_jumpHere cX4_jumpHere 2 none)) B.pre w (List.mem_cons_of_mem _ h)
  have hown : s.vm.findClass RX4 = some m.cls := findClass_of_methodNamed B.named
  have hlocks := B.notSynchronized
  subst hsz
  have hD := hD0.self (sz := s.heap.size)
  generalize hAe : va_A [(a_r, (oc4 a_tk a_rh a_rs a_rc e_ln e_pa e_at e_fp)), (a_rc, (arI G 400 f_rc))] s.heap.size = A at hD hT ⊢
  have hA : ∀ q : Nat, s.heap.size ≤ q → A q := fun q h => by rw [← hAe]; exact Or.inr h
  have hS : va_S A s.heap s.heap [] := va_S.rf
  have hP : va_P G.1 vwCl [(a_r, (oc4 a_tk a_rh a_rs a_rc e_ln e_pa e_at e_fp)), (a_rc, (arI G 400 f_rc))] s.heap := hP
  have hl := lv_entry ([.ref a_r, .int p_j]) (n := 2) (Nat.le_of_ble_eq_true rfl)
  rw [lg_entry_eq]
  generalize (lg_sl ([.ref a_r, .int p_j]) ++ List.replicate (2 - (lg_sl ([.ref a_r, .int p_j])).length) Slot.unset).toArray = ls at hl ⊢
  have hl : lv_has ls 2 [(0, .ref a_r), (1, .int p_j)] := hl
  refine lv_iload_n hx hb dX4_jumpHere_0 rfl (lv_at hl 1 rfl) ?_
  refine lv_if_lt (tgt := 26) hx hb dX4_jumpHere_1 (by decide) (fun c_1 => ?_) (fun c_1 => ?_)
  ·
    have i_1 : p_j.toInt < 0 := by have z := g5_lt (a := p_j.toInt) (b := 0) (by rfl) (by decide) c_1; omega
    exact W.vret hx hb hr (fun t ht hW => ⟨⟨[(a_r, (oc4 a_tk a_rh a_rs a_rc e_ln e_pa e_at e_fp)), (a_rc, (arI G 400 f_rc))], rfl, ⟨f_rc, e_cd, opk_refl, rfl⟩, by rw [ht]; exact hP.sub [0, 1] rfl, hD.sub [0, 1] (by decide) rfl⟩, hS.F ht⟩) hS.2.2 dX4_jumpHere_26
  ·
    have i_1 : p_j.toInt ≥ 0 := by have z := g5_ltN (a := p_j.toInt) (b := 0) (by rfl) (by decide) c_1; omega
    refine lv_iload_n hx hb dX4_jumpHere_4 rfl (lv_at hl 1 rfl) ?_
    refine lv_aload_n hx hb dX4_jumpHere_5 rfl (lv_at hl 0 rfl) ?_
    refine va_get (D := G.1) (ci := 4) (v := .ref a_rc) (C := RX4) (T := TX4) (N := 8) hx hb hts inG_X4 hown hK hP 0 rfl rfl 3 (by decide) (hts _ fl_X4_25) (fun _ h9 => h9) rfl dX4_jumpHere_6 ?_
    refine va_alen hx hb hK hP 1 0 rfl rfl (v := 400) (by show Int32.ofNat 400 = 400; decide) dX4_jumpHere_9 ?_
    refine lv_icmp_ge (tgt := 26) hx hb dX4_jumpHere_10 (by decide) (fun c_2 => ?_) (fun c_2 => ?_)
    ·
      have i_2 : p_j.toInt ≥ 400 := by have z := g5_ge (a := p_j.toInt) (b := 400) (by rfl) (by decide) c_2; omega
      exact W.vret hx hb hr (fun t ht hW => ⟨⟨[(a_r, (oc4 a_tk a_rh a_rs a_rc e_ln e_pa e_at e_fp)), (a_rc, (arI G 400 f_rc))], rfl, ⟨f_rc, e_cd, opk_refl, rfl⟩, by rw [ht]; exact hP.sub [0, 1] rfl, hD.sub [0, 1] (by decide) rfl⟩, hS.F ht⟩) hS.2.2 dX4_jumpHere_26
    ·
      have i_2 : p_j.toInt < 400 := by have z := g5_geN (a := p_j.toInt) (b := 400) (by rfl) (by decide) c_2; omega
      refine lv_aload_n hx hb dX4_jumpHere_13 rfl (lv_at hl 0 rfl) ?_
      refine va_get (D := G.1) (ci := 4) (v := .ref a_rc) (C := RX4) (T := TX4) (N := 8) hx hb hts inG_X4 hown hK hP 0 rfl rfl 3 (by decide) (hts _ fl_X4_25) (fun _ h9 => h9) rfl dX4_jumpHere_14 ?_
      refine lv_iload_n hx hb dX4_jumpHere_17 rfl (lv_at hl 1 rfl) ?_
      refine lv_dup2_11 hx hb dX4_jumpHere_18 rfl rfl ?_
      refine va_iald hx hb hK hP 1 0 rfl rfl (i := p_j) (vp_in_iff.mpr ⟨by omega, by omega⟩) dX4_jumpHere_19 ?_
      refine lv_aload_n hx hb dX4_jumpHere_20 rfl (lv_at hl 0 rfl) ?_
      refine va_get (D := G.1) (ci := 4) (v := .int e_ln) (C := RX4) (T := TX4) (N := 8) hx hb hts inG_X4 hown hK hP 0 rfl rfl 4 (by decide) (hts _ fl_X4_36) (fun _ h9 => h9) rfl dX4_jumpHere_21 ?_
      refine lv_ior hx hb dX4_jumpHere_24 ?_
      refine va_iast hx hb hK hP hD hS 1 0 rfl rfl (i := p_j) (x := ((f_rc p_j.toNatClampNeg) ||| e_ln)) (vp_in_iff.mpr ⟨by omega, by omega⟩) dX4_jumpHere_25 (fun H locs hP hD hS => ?_)
      refine g5_rs [(a_r, (oc4 a_tk a_rh a_rs a_rc e_ln e_pa e_at e_fp)), (a_rc, (arI G 400 (upd f_rc p_j.toNatClampNeg ((f_rc p_j.toNatClampNeg) ||| e_ln))))] hP hD (fun hP hD => ?_)
      exact W.vret hx hb hr (fun t ht hW => ⟨⟨[(a_r, (oc4 a_tk a_rh a_rs a_rc e_ln e_pa e_at e_fp)), (a_rc, (arI G 400 (upd f_rc p_j.toNatClampNeg ((f_rc p_j.toNatClampNeg) ||| e_ln))))], rfl, ⟨(upd f_rc p_j.toNatClampNeg ((f_rc p_j.toNatClampNeg) ||| e_ln)), cdi_jump e_cd e_jk (by omega) (by omega) (by omega), opk_jump (by omega) (by omega), rfl⟩, by rw [ht]; exact hP.sub [0, 1] rfl, hD.sub [0, 1] (by decide) rfl⟩, hS.F ht⟩) hS.2.2 dX4_jumpHere_26
theorem dgX4_emit_0 : ∀ r ∈ ([(0, (.aload_n 0, 1)), (1, (.getfield 36, 3)), (4, (.aload_n 0, 1)), (5, (.getfield 25, 3)), (8, (.arraylength, 1)), (9, (.if_icmp .lt 5, 3)), (12, (.iconst (-1), 1)), (13, (.ireturn, 1)), (14, (.aload_n 0, 1)), (15, (.getfield 25, 3)), (18, (.aload_n 0, 1)), (19, (.getfield 36, 3)), (22, (.iload_n 1, 1)), (23, (.bipush 12, 2)), (25, (.ishl, 1)), (26, (.iload_n 2, 1)), (27, (.ior, 1)), (28, (.iastore, 1)), (29, (.aload_n 0, 1)), (30, (.dup, 1)), (31, (.getfield 36, 3)), (34, (.iconst 1, 1)), (35, (.iadd, 1)), (36, (.putfield 36, 3)), (39, (.aload_n 0, 1)), (40, (.getfield 36, 3)), (43, (.iconst 1, 1)), (44, (.isub, 1)), (45, (.ireturn, 1))] : List (Nat × (Instr × Nat))), decode cX4_emit r.1 = .ok r.2 := by decide +kernel
theorem dX4_emit_0 : decode cX4_emit 0 = .ok (.aload_n 0, 1) := dgX4_emit_0 (0, (.aload_n 0, 1)) (List.mem_of_getElem? (i := 0) rfl)
theorem dX4_emit_1 : decode cX4_emit 1 = .ok (.getfield 36, 3) := dgX4_emit_0 (1, (.getfield 36, 3)) (List.mem_of_getElem? (i := 1) rfl)
theorem dX4_emit_4 : decode cX4_emit 4 = .ok (.aload_n 0, 1) := dgX4_emit_0 (4, (.aload_n 0, 1)) (List.mem_of_getElem? (i := 2) rfl)
theorem dX4_emit_5 : decode cX4_emit 5 = .ok (.getfield 25, 3) := dgX4_emit_0 (5, (.getfield 25, 3)) (List.mem_of_getElem? (i := 3) rfl)
theorem dX4_emit_8 : decode cX4_emit 8 = .ok (.arraylength, 1) := dgX4_emit_0 (8, (.arraylength, 1)) (List.mem_of_getElem? (i := 4) rfl)
theorem dX4_emit_9 : decode cX4_emit 9 = .ok (.if_icmp .lt 5, 3) := dgX4_emit_0 (9, (.if_icmp .lt 5, 3)) (List.mem_of_getElem? (i := 5) rfl)
theorem dX4_emit_12 : decode cX4_emit 12 = .ok (.iconst (-1), 1) := dgX4_emit_0 (12, (.iconst (-1), 1)) (List.mem_of_getElem? (i := 6) rfl)
theorem dX4_emit_13 : decode cX4_emit 13 = .ok (.ireturn, 1) := dgX4_emit_0 (13, (.ireturn, 1)) (List.mem_of_getElem? (i := 7) rfl)
theorem dX4_emit_14 : decode cX4_emit 14 = .ok (.aload_n 0, 1) := dgX4_emit_0 (14, (.aload_n 0, 1)) (List.mem_of_getElem? (i := 8) rfl)
theorem dX4_emit_15 : decode cX4_emit 15 = .ok (.getfield 25, 3) := dgX4_emit_0 (15, (.getfield 25, 3)) (List.mem_of_getElem? (i := 9) rfl)
theorem dX4_emit_18 : decode cX4_emit 18 = .ok (.aload_n 0, 1) := dgX4_emit_0 (18, (.aload_n 0, 1)) (List.mem_of_getElem? (i := 10) rfl)
theorem dX4_emit_19 : decode cX4_emit 19 = .ok (.getfield 36, 3) := dgX4_emit_0 (19, (.getfield 36, 3)) (List.mem_of_getElem? (i := 11) rfl)
theorem dX4_emit_22 : decode cX4_emit 22 = .ok (.iload_n 1, 1) := dgX4_emit_0 (22, (.iload_n 1, 1)) (List.mem_of_getElem? (i := 12) rfl)
theorem dX4_emit_23 : decode cX4_emit 23 = .ok (.bipush 12, 2) := dgX4_emit_0 (23, (.bipush 12, 2)) (List.mem_of_getElem? (i := 13) rfl)
theorem dX4_emit_25 : decode cX4_emit 25 = .ok (.ishl, 1) := dgX4_emit_0 (25, (.ishl, 1)) (List.mem_of_getElem? (i := 14) rfl)
theorem dX4_emit_26 : decode cX4_emit 26 = .ok (.iload_n 2, 1) := dgX4_emit_0 (26, (.iload_n 2, 1)) (List.mem_of_getElem? (i := 15) rfl)
theorem dX4_emit_27 : decode cX4_emit 27 = .ok (.ior, 1) := dgX4_emit_0 (27, (.ior, 1)) (List.mem_of_getElem? (i := 16) rfl)
theorem dX4_emit_28 : decode cX4_emit 28 = .ok (.iastore, 1) := dgX4_emit_0 (28, (.iastore, 1)) (List.mem_of_getElem? (i := 17) rfl)
theorem dX4_emit_29 : decode cX4_emit 29 = .ok (.aload_n 0, 1) := dgX4_emit_0 (29, (.aload_n 0, 1)) (List.mem_of_getElem? (i := 18) rfl)
theorem dX4_emit_30 : decode cX4_emit 30 = .ok (.dup, 1) := dgX4_emit_0 (30, (.dup, 1)) (List.mem_of_getElem? (i := 19) rfl)
theorem dX4_emit_31 : decode cX4_emit 31 = .ok (.getfield 36, 3) := dgX4_emit_0 (31, (.getfield 36, 3)) (List.mem_of_getElem? (i := 20) rfl)
theorem dX4_emit_34 : decode cX4_emit 34 = .ok (.iconst 1, 1) := dgX4_emit_0 (34, (.iconst 1, 1)) (List.mem_of_getElem? (i := 21) rfl)
theorem dX4_emit_35 : decode cX4_emit 35 = .ok (.iadd, 1) := dgX4_emit_0 (35, (.iadd, 1)) (List.mem_of_getElem? (i := 22) rfl)
theorem dX4_emit_36 : decode cX4_emit 36 = .ok (.putfield 36, 3) := dgX4_emit_0 (36, (.putfield 36, 3)) (List.mem_of_getElem? (i := 23) rfl)
theorem dX4_emit_39 : decode cX4_emit 39 = .ok (.aload_n 0, 1) := dgX4_emit_0 (39, (.aload_n 0, 1)) (List.mem_of_getElem? (i := 24) rfl)
theorem dX4_emit_40 : decode cX4_emit 40 = .ok (.getfield 36, 3) := dgX4_emit_0 (40, (.getfield 36, 3)) (List.mem_of_getElem? (i := 25) rfl)
theorem dX4_emit_43 : decode cX4_emit 43 = .ok (.iconst 1, 1) := dgX4_emit_0 (43, (.iconst 1, 1)) (List.mem_of_getElem? (i := 26) rfl)
theorem dX4_emit_44 : decode cX4_emit 44 = .ok (.isub, 1) := dgX4_emit_0 (44, (.isub, 1)) (List.mem_of_getElem? (i := 27) rfl)
theorem dX4_emit_45 : decode cX4_emit 45 = .ok (.ireturn, 1) := dgX4_emit_0 (45, (.ireturn, 1)) (List.mem_of_getElem? (i := 28) rfl)
set_option maxHeartbeats 4000000 in
set_option maxRecDepth 100000 in
theorem r_emit (l : Launch) (G : g5_G) (a_r a_rc a_tk a_rh a_rs : Nat) (sz : Nat) (e_ln : Int32) (e_pa : Int32) (e_at : Int32) (e_fp : Int32) (p_o : Int32) (p_a : Int32) (f_rc : Nat → Int32) (h_e_ln : 0 ≤ e_ln.toInt ∧ e_ln.toInt ≤ 400) (h_e_pa : 0 ≤ e_pa.toInt ∧ e_pa.toInt ≤ 50) (h_e_at : 0 ≤ e_at.toInt ∧ e_at.toInt ≤ 401) (e_cd : CDI f_rc e_ln.toInt) (e_v : wOK ((p_o <<< (12 &&& 31)) ||| p_a)) : Met l yX4_emit (wsG yX4_emit cX4_emit 3 (some .int)) ({ frames := 0, cells := 0, slots := 0, locals := 0 }) (va_Pc [.ref a_r, .int p_o, .int p_a] (g5_P G [(a_r, (oc4 a_tk a_rh a_rs a_rc e_ln e_pa e_at e_fp)), (a_rc, (arI G 400 f_rc))] sz)) (va_Qi (fun (r : Int32) (u : va_W) => (∃ (o_r : Int32) (o_ln : Int32) (o_rc : Nat → Int32), (-1 ≤ o_r.toInt ∧ o_r.toInt ≤ 399) ∧ (e_ln.toInt ≤ o_ln.toInt ∧ o_ln.toInt ≤ 400) ∧ (CDI o_rc o_ln.toInt) ∧ (OPK f_rc o_rc e_ln.toInt) ∧ (0 ≤ o_r.toInt → o_r.toInt < o_ln.toInt ∧ o_rc o_r.toNatClampNeg = ((p_o <<< (12 &&& 31)) ||| p_a)) ∧ (r = o_r) ∧ (u = [(a_r, (oc4 a_tk a_rh a_rs a_rc o_ln e_pa e_at e_fp)), (a_rc, (arI G 400 o_rc))]))) (g5_B G (va_A [(a_r, (oc4 a_tk a_rh a_rs a_rc e_ln e_pa e_at e_fp)), (a_rc, (arI G 400 f_rc))] sz)) (va_A [(a_r, (oc4 a_tk a_rh a_rs a_rc e_ln e_pa e_at e_fp)), (a_rc, (arI G 400 f_rc))] sz)) 0 0 (va_A [(a_r, (oc4 a_tk a_rh a_rs a_rc e_ln e_pa e_at e_fp)), (a_rc, (arI G 400 f_rc))] sz) := by
  refine Met.ofW (cc := cX4_emit) (maxL := 3) (ret := (some .int)) (by decide) rfl ?_
  intro p e s m args below meth c s₁ B hml hv
  obtain ⟨rfl, hsz, hP, hK, hD0, hN, hT⟩ := hv
  have hx := B.exec
  have hb := B.bytes
  have hr := B.returns
  have hts : ∀ w ∈ tblG, w.before _ s = true := fun w h => atoms_spec (ws := (wsG yX4_emit cX4_emit 3 (some .int))) B.pre w (List.mem_cons_of_mem _ h)
  have hown : s.vm.findClass RX4 = some m.cls := findClass_of_methodNamed B.named
  have hlocks := B.notSynchronized
  subst hsz
  have hD := hD0.self (sz := s.heap.size)
  generalize hAe : va_A [(a_r, (oc4 a_tk a_rh a_rs a_rc e_ln e_pa e_at e_fp)), (a_rc, (arI G 400 f_rc))] s.heap.size = A at hD hT ⊢
  have hA : ∀ q : Nat, s.heap.size ≤ q → A q := fun q h => by rw [← hAe]; exact Or.inr h
  have hS : va_S A s.heap s.heap [] := va_S.rf
  have hP : va_P G.1 vwCl [(a_r, (oc4 a_tk a_rh a_rs a_rc e_ln e_pa e_at e_fp)), (a_rc, (arI G 400 f_rc))] s.heap := hP
  have hl := lv_entry ([.ref a_r, .int p_o, .int p_a]) (n := 3) (Nat.le_of_ble_eq_true rfl)
  rw [lg_entry_eq]
  generalize (lg_sl ([.ref a_r, .int p_o, .int p_a]) ++ List.replicate (3 - (lg_sl ([.ref a_r, .int p_o, .int p_a])).length) Slot.unset).toArray = ls at hl ⊢
  have hl : lv_has ls 3 [(0, .ref a_r), (1, .int p_o), (2, .int p_a)] := hl
  refine lv_aload_n hx hb dX4_emit_0 rfl (lv_at hl 0 rfl) ?_
  refine va_get (D := G.1) (ci := 4) (v := .int e_ln) (C := RX4) (T := TX4) (N := 8) hx hb hts inG_X4 hown hK hP 0 rfl rfl 4 (by decide) (hts _ fl_X4_36) (fun _ h9 => h9) rfl dX4_emit_1 ?_
  refine lv_aload_n hx hb dX4_emit_4 rfl (lv_at hl 0 rfl) ?_
  refine va_get (D := G.1) (ci := 4) (v := .ref a_rc) (C := RX4) (T := TX4) (N := 8) hx hb hts inG_X4 hown hK hP 0 rfl rfl 3 (by decide) (hts _ fl_X4_25) (fun _ h9 => h9) rfl dX4_emit_5 ?_
  refine va_alen hx hb hK hP 1 0 rfl rfl (v := 400) (by show Int32.ofNat 400 = 400; decide) dX4_emit_8 ?_
  refine lv_icmp_lt (tgt := 14) hx hb dX4_emit_9 (by decide) (fun c_1 => ?_) (fun c_1 => ?_)
  ·
    have i_1 : e_ln.toInt < 400 := by have z := g5_lt (a := e_ln.toInt) (b := 400) (by rfl) (by decide) c_1; omega
    refine lv_aload_n hx hb dX4_emit_14 rfl (lv_at hl 0 rfl) ?_
    refine va_get (D := G.1) (ci := 4) (v := .ref a_rc) (C := RX4) (T := TX4) (N := 8) hx hb hts inG_X4 hown hK hP 0 rfl rfl 3 (by decide) (hts _ fl_X4_25) (fun _ h9 => h9) rfl dX4_emit_15 ?_
    refine lv_aload_n hx hb dX4_emit_18 rfl (lv_at hl 0 rfl) ?_
    refine va_get (D := G.1) (ci := 4) (v := .int e_ln) (C := RX4) (T := TX4) (N := 8) hx hb hts inG_X4 hown hK hP 0 rfl rfl 4 (by decide) (hts _ fl_X4_36) (fun _ h9 => h9) rfl dX4_emit_19 ?_
    refine lv_iload_n hx hb dX4_emit_22 rfl (lv_at hl 1 rfl) ?_
    refine lv_bipush (v := 12) hx hb dX4_emit_23 (by decide) ?_
    refine lv_ishl hx hb dX4_emit_25 ?_
    refine lv_iload_n hx hb dX4_emit_26 rfl (lv_at hl 2 rfl) ?_
    refine lv_ior hx hb dX4_emit_27 ?_
    refine va_iast hx hb hK hP hD hS 1 0 rfl rfl (i := e_ln) (x := ((p_o <<< (12 &&& 31)) ||| p_a)) (vp_in_iff.mpr ⟨by omega, by omega⟩) dX4_emit_28 (fun H locs hP hD hS => ?_)
    refine g5_rs [(a_r, (oc4 a_tk a_rh a_rs a_rc e_ln e_pa e_at e_fp)), (a_rc, (arI G 400 (upd f_rc e_ln.toNatClampNeg ((p_o <<< (12 &&& 31)) ||| p_a))))] hP hD (fun hP hD => ?_)
    refine lv_aload_n hx hb dX4_emit_29 rfl (lv_at hl 0 rfl) ?_
    refine lv_dup hx hb dX4_emit_30 rfl ?_
    refine va_get (D := G.1) (ci := 4) (v := .int e_ln) (C := RX4) (T := TX4) (N := 8) hx hb hts inG_X4 hown hK hP 0 rfl rfl 4 (by decide) (hts _ fl_X4_36) (fun _ h9 => h9) rfl dX4_emit_31 ?_
    refine lv_iconst (v := 1) hx hb dX4_emit_34 (by decide) ?_
    refine lv_iadd hx hb dX4_emit_35 ?_
    have t_2 : (e_ln + 1).toInt = e_ln.toInt + 1 := g5_iadd (a := e_ln.toInt) (b := 1) (by rfl) (by decide) (by omega) (by omega)
    refine va_put (D := G.1) (ci := 4) (v := .int (e_ln + 1)) (ty := .int) (C := RX4) (T := TX4) (N := 8) hx hb hts inG_X4 tyX4 tyX4_ok nmX4 hown hK hP hD hS 0 rfl rfl 4 (by decide) (hts _ fl_X4_36) (fun _ h9 => h9) rfl (by decide +kernel) rfl rfl (Nat.le_of_ble_eq_true rfl) dX4_emit_36 (fun H locs hP hD hS => ?_)
    refine g5_rs [(a_r, (oc4 a_tk a_rh a_rs a_rc (e_ln + 1) e_pa e_at e_fp)), (a_rc, (arI G 400 (upd f_rc e_ln.toNatClampNeg ((p_o <<< (12 &&& 31)) ||| p_a))))] hP hD (fun hP hD => ?_)
    refine lv_aload_n hx hb dX4_emit_39 rfl (lv_at hl 0 rfl) ?_
    refine va_get (D := G.1) (ci := 4) (v := .int (e_ln + 1)) (C := RX4) (T := TX4) (N := 8) hx hb hts inG_X4 hown hK hP 0 rfl rfl 4 (by decide) (hts _ fl_X4_36) (fun _ h9 => h9) rfl dX4_emit_40 ?_
    refine lv_iconst (v := 1) hx hb dX4_emit_43 (by decide) ?_
    refine lv_isub hx hb dX4_emit_44 ?_
    have t_3 : ((e_ln + 1) - 1).toInt = (e_ln + 1).toInt - 1 := g5_isub (a := (e_ln + 1).toInt) (b := 1) (by rfl) (by decide) (by omega) (by omega)
    exact W.iret (v := ((e_ln + 1) - 1)) hx hb hr (fun t ht hW => ⟨⟨((e_ln + 1) - 1), [(a_r, (oc4 a_tk a_rh a_rs a_rc (e_ln + 1) e_pa e_at e_fp)), (a_rc, (arI G 400 (upd f_rc e_ln.toNatClampNeg ((p_o <<< (12 &&& 31)) ||| p_a))))], rfl, ⟨((e_ln + 1) - 1), (e_ln + 1), (upd f_rc e_ln.toNatClampNeg ((p_o <<< (12 &&& 31)) ||| p_a)), ⟨by omega, by omega⟩, ⟨by omega, by omega⟩, cdi_emit e_cd (by omega) (by omega) e_v, opk_emit (by omega), fun _ => ⟨by omega, by unfold upd; rw [if_pos (by rw [g5_clamp, g5_clamp]; omega)]⟩, rfl, rfl⟩, by rw [ht]; exact hP.sub [0, 1] rfl, hD.sub [0, 1] (by decide) rfl⟩, hS.F ht⟩) hS.2.2 dX4_emit_45
  ·
    have i_1 : e_ln.toInt ≥ 400 := by have z := g5_ltN (a := e_ln.toInt) (b := 400) (by rfl) (by decide) c_1; omega
    refine lv_iconst (v := (-1)) hx hb dX4_emit_12 (by decide) ?_
    exact W.iret (v := (-1)) hx hb hr (fun t ht hW => ⟨⟨(-1), [(a_r, (oc4 a_tk a_rh a_rs a_rc e_ln e_pa e_at e_fp)), (a_rc, (arI G 400 f_rc))], rfl, ⟨(-1), e_ln, f_rc, ⟨by have zc_o_r : ((-1) : Int32).toInt = (-1) := (by decide); omega, by have zc_o_r : ((-1) : Int32).toInt = (-1) := (by decide); omega⟩, ⟨by omega, by omega⟩, e_cd, opk_refl, fun h => absurd h (by decide), rfl, rfl⟩, by rw [ht]; exact hP.sub [0, 1] rfl, hD.sub [0, 1] (by decide) rfl⟩, hS.F ht⟩) hS.2.2 dX4_emit_13
theorem dgX4_readPart_0 : ∀ r ∈ ([(0, (.aload_n 0, 1)), (1, (.bipush 91, 2)), (3, (.invokevirtual 49, 3)), (6, (.ifCond .eq 43, 3)), (9, (.iload_n 1, 1)), (10, (.bipush 8, 2)), (12, (.if_icmp .ge 35, 3)), (15, (.aload_n 0, 1)), (16, (.bipush 91, 2)), (18, (.invokevirtual 63, 3)), (21, (.ifCond .eq 26, 3)), (24, (.aload_n 0, 1)), (25, (.iload_n 1, 1)), (26, (.iconst 1, 1)), (27, (.iadd, 1)), (28, (.invokevirtual 73, 3)), (31, (.ifCond .eq 16, 3)), (34, (.aload_n 0, 1)), (35, (.bipush 93, 2)), (37, (.invokevirtual 63, 3)), (40, (.ifCond .eq 7, 3)), (43, (.iconst 1, 1)), (44, (.goto 4, 3)), (47, (.iconst 0, 1)), (48, (.ireturn, 1)), (49, (.aload_n 0, 1)), (50, (.getfield 12, 3)), (53, (.aload_n 0, 1)), (54, (.getfield 42, 3)), (57, (.invokevirtual 69, 3)), (60, (.sipush 256, 3)), (63, (.isub, 1)), (64, (.bipush 8, 2)), (66, (.isub, 1)), (67, (.istore_n 2, 1)), (68, (.iload_n 2, 1)), (69, (.ifCond .lt 13, 3)), (72, (.iload_n 2, 1)), (73, (.bipush 8, 2)), (75, (.if_icmp .ge 7, 3))] : List (Nat × (Instr × Nat))), decode cX4_readPart r.1 = .ok r.2 := by decide +kernel
theorem dX4_readPart_0 : decode cX4_readPart 0 = .ok (.aload_n 0, 1) := dgX4_readPart_0 (0, (.aload_n 0, 1)) (List.mem_of_getElem? (i := 0) rfl)
theorem dX4_readPart_1 : decode cX4_readPart 1 = .ok (.bipush 91, 2) := dgX4_readPart_0 (1, (.bipush 91, 2)) (List.mem_of_getElem? (i := 1) rfl)
theorem dX4_readPart_3 : decode cX4_readPart 3 = .ok (.invokevirtual 49, 3) := dgX4_readPart_0 (3, (.invokevirtual 49, 3)) (List.mem_of_getElem? (i := 2) rfl)
theorem dX4_readPart_6 : decode cX4_readPart 6 = .ok (.ifCond .eq 43, 3) := dgX4_readPart_0 (6, (.ifCond .eq 43, 3)) (List.mem_of_getElem? (i := 3) rfl)
theorem dX4_readPart_9 : decode cX4_readPart 9 = .ok (.iload_n 1, 1) := dgX4_readPart_0 (9, (.iload_n 1, 1)) (List.mem_of_getElem? (i := 4) rfl)
theorem dX4_readPart_10 : decode cX4_readPart 10 = .ok (.bipush 8, 2) := dgX4_readPart_0 (10, (.bipush 8, 2)) (List.mem_of_getElem? (i := 5) rfl)
theorem dX4_readPart_12 : decode cX4_readPart 12 = .ok (.if_icmp .ge 35, 3) := dgX4_readPart_0 (12, (.if_icmp .ge 35, 3)) (List.mem_of_getElem? (i := 6) rfl)
theorem dX4_readPart_15 : decode cX4_readPart 15 = .ok (.aload_n 0, 1) := dgX4_readPart_0 (15, (.aload_n 0, 1)) (List.mem_of_getElem? (i := 7) rfl)
theorem dX4_readPart_16 : decode cX4_readPart 16 = .ok (.bipush 91, 2) := dgX4_readPart_0 (16, (.bipush 91, 2)) (List.mem_of_getElem? (i := 8) rfl)
theorem dX4_readPart_18 : decode cX4_readPart 18 = .ok (.invokevirtual 63, 3) := dgX4_readPart_0 (18, (.invokevirtual 63, 3)) (List.mem_of_getElem? (i := 9) rfl)
theorem dX4_readPart_21 : decode cX4_readPart 21 = .ok (.ifCond .eq 26, 3) := dgX4_readPart_0 (21, (.ifCond .eq 26, 3)) (List.mem_of_getElem? (i := 10) rfl)
theorem dX4_readPart_24 : decode cX4_readPart 24 = .ok (.aload_n 0, 1) := dgX4_readPart_0 (24, (.aload_n 0, 1)) (List.mem_of_getElem? (i := 11) rfl)
theorem dX4_readPart_25 : decode cX4_readPart 25 = .ok (.iload_n 1, 1) := dgX4_readPart_0 (25, (.iload_n 1, 1)) (List.mem_of_getElem? (i := 12) rfl)
theorem dX4_readPart_26 : decode cX4_readPart 26 = .ok (.iconst 1, 1) := dgX4_readPart_0 (26, (.iconst 1, 1)) (List.mem_of_getElem? (i := 13) rfl)
theorem dX4_readPart_27 : decode cX4_readPart 27 = .ok (.iadd, 1) := dgX4_readPart_0 (27, (.iadd, 1)) (List.mem_of_getElem? (i := 14) rfl)
theorem dX4_readPart_28 : decode cX4_readPart 28 = .ok (.invokevirtual 73, 3) := dgX4_readPart_0 (28, (.invokevirtual 73, 3)) (List.mem_of_getElem? (i := 15) rfl)
theorem dX4_readPart_31 : decode cX4_readPart 31 = .ok (.ifCond .eq 16, 3) := dgX4_readPart_0 (31, (.ifCond .eq 16, 3)) (List.mem_of_getElem? (i := 16) rfl)
theorem dX4_readPart_34 : decode cX4_readPart 34 = .ok (.aload_n 0, 1) := dgX4_readPart_0 (34, (.aload_n 0, 1)) (List.mem_of_getElem? (i := 17) rfl)
theorem dX4_readPart_35 : decode cX4_readPart 35 = .ok (.bipush 93, 2) := dgX4_readPart_0 (35, (.bipush 93, 2)) (List.mem_of_getElem? (i := 18) rfl)
theorem dX4_readPart_37 : decode cX4_readPart 37 = .ok (.invokevirtual 63, 3) := dgX4_readPart_0 (37, (.invokevirtual 63, 3)) (List.mem_of_getElem? (i := 19) rfl)
theorem dX4_readPart_40 : decode cX4_readPart 40 = .ok (.ifCond .eq 7, 3) := dgX4_readPart_0 (40, (.ifCond .eq 7, 3)) (List.mem_of_getElem? (i := 20) rfl)
theorem dX4_readPart_43 : decode cX4_readPart 43 = .ok (.iconst 1, 1) := dgX4_readPart_0 (43, (.iconst 1, 1)) (List.mem_of_getElem? (i := 21) rfl)
theorem dX4_readPart_44 : decode cX4_readPart 44 = .ok (.goto 4, 3) := dgX4_readPart_0 (44, (.goto 4, 3)) (List.mem_of_getElem? (i := 22) rfl)
theorem dX4_readPart_47 : decode cX4_readPart 47 = .ok (.iconst 0, 1) := dgX4_readPart_0 (47, (.iconst 0, 1)) (List.mem_of_getElem? (i := 23) rfl)
theorem dX4_readPart_48 : decode cX4_readPart 48 = .ok (.ireturn, 1) := dgX4_readPart_0 (48, (.ireturn, 1)) (List.mem_of_getElem? (i := 24) rfl)
theorem dX4_readPart_49 : decode cX4_readPart 49 = .ok (.aload_n 0, 1) := dgX4_readPart_0 (49, (.aload_n 0, 1)) (List.mem_of_getElem? (i := 25) rfl)
theorem dX4_readPart_50 : decode cX4_readPart 50 = .ok (.getfield 12, 3) := dgX4_readPart_0 (50, (.getfield 12, 3)) (List.mem_of_getElem? (i := 26) rfl)
theorem dX4_readPart_53 : decode cX4_readPart 53 = .ok (.aload_n 0, 1) := dgX4_readPart_0 (53, (.aload_n 0, 1)) (List.mem_of_getElem? (i := 27) rfl)
theorem dX4_readPart_54 : decode cX4_readPart 54 = .ok (.getfield 42, 3) := dgX4_readPart_0 (54, (.getfield 42, 3)) (List.mem_of_getElem? (i := 28) rfl)
theorem dX4_readPart_57 : decode cX4_readPart 57 = .ok (.invokevirtual 69, 3) := dgX4_readPart_0 (57, (.invokevirtual 69, 3)) (List.mem_of_getElem? (i := 29) rfl)
theorem dX4_readPart_60 : decode cX4_readPart 60 = .ok (.sipush 256, 3) := dgX4_readPart_0 (60, (.sipush 256, 3)) (List.mem_of_getElem? (i := 30) rfl)
theorem dX4_readPart_63 : decode cX4_readPart 63 = .ok (.isub, 1) := dgX4_readPart_0 (63, (.isub, 1)) (List.mem_of_getElem? (i := 31) rfl)
theorem dX4_readPart_64 : decode cX4_readPart 64 = .ok (.bipush 8, 2) := dgX4_readPart_0 (64, (.bipush 8, 2)) (List.mem_of_getElem? (i := 32) rfl)
theorem dX4_readPart_66 : decode cX4_readPart 66 = .ok (.isub, 1) := dgX4_readPart_0 (66, (.isub, 1)) (List.mem_of_getElem? (i := 33) rfl)
theorem dX4_readPart_67 : decode cX4_readPart 67 = .ok (.istore_n 2, 1) := dgX4_readPart_0 (67, (.istore_n 2, 1)) (List.mem_of_getElem? (i := 34) rfl)
theorem dX4_readPart_68 : decode cX4_readPart 68 = .ok (.iload_n 2, 1) := dgX4_readPart_0 (68, (.iload_n 2, 1)) (List.mem_of_getElem? (i := 35) rfl)
theorem dX4_readPart_69 : decode cX4_readPart 69 = .ok (.ifCond .lt 13, 3) := dgX4_readPart_0 (69, (.ifCond .lt 13, 3)) (List.mem_of_getElem? (i := 36) rfl)
theorem dX4_readPart_72 : decode cX4_readPart 72 = .ok (.iload_n 2, 1) := dgX4_readPart_0 (72, (.iload_n 2, 1)) (List.mem_of_getElem? (i := 37) rfl)
theorem dX4_readPart_73 : decode cX4_readPart 73 = .ok (.bipush 8, 2) := dgX4_readPart_0 (73, (.bipush 8, 2)) (List.mem_of_getElem? (i := 38) rfl)
theorem dX4_readPart_75 : decode cX4_readPart 75 = .ok (.if_icmp .ge 7, 3) := dgX4_readPart_0 (75, (.if_icmp .ge 7, 3)) (List.mem_of_getElem? (i := 39) rfl)
theorem dgX4_readPart_1 : ∀ r ∈ ([(78, (.iconst 1, 1)), (79, (.goto 4, 3)), (82, (.iconst 0, 1)), (83, (.istore_n 3, 1)), (84, (.iload_n 3, 1)), (85, (.ifCond .ne 13, 3)), (88, (.aload_n 0, 1)), (89, (.sipush 300, 3)), (92, (.invokevirtual 49, 3)), (95, (.ifCond .eq 12, 3)), (98, (.aload_n 0, 1)), (99, (.getfield 39, 3)), (102, (.bipush 50, 2)), (104, (.if_icmp .lt 5, 3)), (107, (.iconst 0, 1)), (108, (.ireturn, 1)), (109, (.aload_n 0, 1)), (110, (.iload_n 3, 1)), (111, (.ifCond .eq 7, 3)), (114, (.iconst 1, 1)), (115, (.goto 4, 3)), (118, (.iconst 0, 1)), (119, (.iload_n 3, 1)), (120, (.ifCond .eq 7, 3)), (123, (.iload_n 2, 1)), (124, (.goto 15, 3)), (127, (.aload_n 0, 1)), (128, (.getfield 12, 3)), (131, (.getfield 93, 3)), (134, (.aload_n 0, 1)), (135, (.getfield 42, 3)), (138, (.iaload, 1)), (139, (.invokevirtual 79, 3)), (142, (.pop, 1)), (143, (.aload_n 0, 1)), (144, (.dup, 1)), (145, (.getfield 39, 3)), (148, (.iconst 1, 1)), (149, (.iadd, 1)), (150, (.putfield 39, 3))] : List (Nat × (Instr × Nat))), decode cX4_readPart r.1 = .ok r.2 := by decide +kernel
theorem dX4_readPart_78 : decode cX4_readPart 78 = .ok (.iconst 1, 1) := dgX4_readPart_1 (78, (.iconst 1, 1)) (List.mem_of_getElem? (i := 0) rfl)
theorem dX4_readPart_79 : decode cX4_readPart 79 = .ok (.goto 4, 3) := dgX4_readPart_1 (79, (.goto 4, 3)) (List.mem_of_getElem? (i := 1) rfl)
theorem dX4_readPart_82 : decode cX4_readPart 82 = .ok (.iconst 0, 1) := dgX4_readPart_1 (82, (.iconst 0, 1)) (List.mem_of_getElem? (i := 2) rfl)
theorem dX4_readPart_83 : decode cX4_readPart 83 = .ok (.istore_n 3, 1) := dgX4_readPart_1 (83, (.istore_n 3, 1)) (List.mem_of_getElem? (i := 3) rfl)
theorem dX4_readPart_84 : decode cX4_readPart 84 = .ok (.iload_n 3, 1) := dgX4_readPart_1 (84, (.iload_n 3, 1)) (List.mem_of_getElem? (i := 4) rfl)
theorem dX4_readPart_85 : decode cX4_readPart 85 = .ok (.ifCond .ne 13, 3) := dgX4_readPart_1 (85, (.ifCond .ne 13, 3)) (List.mem_of_getElem? (i := 5) rfl)
theorem dX4_readPart_88 : decode cX4_readPart 88 = .ok (.aload_n 0, 1) := dgX4_readPart_1 (88, (.aload_n 0, 1)) (List.mem_of_getElem? (i := 6) rfl)
theorem dX4_readPart_89 : decode cX4_readPart 89 = .ok (.sipush 300, 3) := dgX4_readPart_1 (89, (.sipush 300, 3)) (List.mem_of_getElem? (i := 7) rfl)
theorem dX4_readPart_92 : decode cX4_readPart 92 = .ok (.invokevirtual 49, 3) := dgX4_readPart_1 (92, (.invokevirtual 49, 3)) (List.mem_of_getElem? (i := 8) rfl)
theorem dX4_readPart_95 : decode cX4_readPart 95 = .ok (.ifCond .eq 12, 3) := dgX4_readPart_1 (95, (.ifCond .eq 12, 3)) (List.mem_of_getElem? (i := 9) rfl)
theorem dX4_readPart_98 : decode cX4_readPart 98 = .ok (.aload_n 0, 1) := dgX4_readPart_1 (98, (.aload_n 0, 1)) (List.mem_of_getElem? (i := 10) rfl)
theorem dX4_readPart_99 : decode cX4_readPart 99 = .ok (.getfield 39, 3) := dgX4_readPart_1 (99, (.getfield 39, 3)) (List.mem_of_getElem? (i := 11) rfl)
theorem dX4_readPart_102 : decode cX4_readPart 102 = .ok (.bipush 50, 2) := dgX4_readPart_1 (102, (.bipush 50, 2)) (List.mem_of_getElem? (i := 12) rfl)
theorem dX4_readPart_104 : decode cX4_readPart 104 = .ok (.if_icmp .lt 5, 3) := dgX4_readPart_1 (104, (.if_icmp .lt 5, 3)) (List.mem_of_getElem? (i := 13) rfl)
theorem dX4_readPart_107 : decode cX4_readPart 107 = .ok (.iconst 0, 1) := dgX4_readPart_1 (107, (.iconst 0, 1)) (List.mem_of_getElem? (i := 14) rfl)
theorem dX4_readPart_108 : decode cX4_readPart 108 = .ok (.ireturn, 1) := dgX4_readPart_1 (108, (.ireturn, 1)) (List.mem_of_getElem? (i := 15) rfl)
theorem dX4_readPart_109 : decode cX4_readPart 109 = .ok (.aload_n 0, 1) := dgX4_readPart_1 (109, (.aload_n 0, 1)) (List.mem_of_getElem? (i := 16) rfl)
theorem dX4_readPart_110 : decode cX4_readPart 110 = .ok (.iload_n 3, 1) := dgX4_readPart_1 (110, (.iload_n 3, 1)) (List.mem_of_getElem? (i := 17) rfl)
theorem dX4_readPart_111 : decode cX4_readPart 111 = .ok (.ifCond .eq 7, 3) := dgX4_readPart_1 (111, (.ifCond .eq 7, 3)) (List.mem_of_getElem? (i := 18) rfl)
theorem dX4_readPart_114 : decode cX4_readPart 114 = .ok (.iconst 1, 1) := dgX4_readPart_1 (114, (.iconst 1, 1)) (List.mem_of_getElem? (i := 19) rfl)
theorem dX4_readPart_115 : decode cX4_readPart 115 = .ok (.goto 4, 3) := dgX4_readPart_1 (115, (.goto 4, 3)) (List.mem_of_getElem? (i := 20) rfl)
theorem dX4_readPart_118 : decode cX4_readPart 118 = .ok (.iconst 0, 1) := dgX4_readPart_1 (118, (.iconst 0, 1)) (List.mem_of_getElem? (i := 21) rfl)
theorem dX4_readPart_119 : decode cX4_readPart 119 = .ok (.iload_n 3, 1) := dgX4_readPart_1 (119, (.iload_n 3, 1)) (List.mem_of_getElem? (i := 22) rfl)
theorem dX4_readPart_120 : decode cX4_readPart 120 = .ok (.ifCond .eq 7, 3) := dgX4_readPart_1 (120, (.ifCond .eq 7, 3)) (List.mem_of_getElem? (i := 23) rfl)
theorem dX4_readPart_123 : decode cX4_readPart 123 = .ok (.iload_n 2, 1) := dgX4_readPart_1 (123, (.iload_n 2, 1)) (List.mem_of_getElem? (i := 24) rfl)
theorem dX4_readPart_124 : decode cX4_readPart 124 = .ok (.goto 15, 3) := dgX4_readPart_1 (124, (.goto 15, 3)) (List.mem_of_getElem? (i := 25) rfl)
theorem dX4_readPart_127 : decode cX4_readPart 127 = .ok (.aload_n 0, 1) := dgX4_readPart_1 (127, (.aload_n 0, 1)) (List.mem_of_getElem? (i := 26) rfl)
theorem dX4_readPart_128 : decode cX4_readPart 128 = .ok (.getfield 12, 3) := dgX4_readPart_1 (128, (.getfield 12, 3)) (List.mem_of_getElem? (i := 27) rfl)
theorem dX4_readPart_131 : decode cX4_readPart 131 = .ok (.getfield 93, 3) := dgX4_readPart_1 (131, (.getfield 93, 3)) (List.mem_of_getElem? (i := 28) rfl)
theorem dX4_readPart_134 : decode cX4_readPart 134 = .ok (.aload_n 0, 1) := dgX4_readPart_1 (134, (.aload_n 0, 1)) (List.mem_of_getElem? (i := 29) rfl)
theorem dX4_readPart_135 : decode cX4_readPart 135 = .ok (.getfield 42, 3) := dgX4_readPart_1 (135, (.getfield 42, 3)) (List.mem_of_getElem? (i := 30) rfl)
theorem dX4_readPart_138 : decode cX4_readPart 138 = .ok (.iaload, 1) := dgX4_readPart_1 (138, (.iaload, 1)) (List.mem_of_getElem? (i := 31) rfl)
theorem dX4_readPart_139 : decode cX4_readPart 139 = .ok (.invokevirtual 79, 3) := dgX4_readPart_1 (139, (.invokevirtual 79, 3)) (List.mem_of_getElem? (i := 32) rfl)
theorem dX4_readPart_142 : decode cX4_readPart 142 = .ok (.pop, 1) := dgX4_readPart_1 (142, (.pop, 1)) (List.mem_of_getElem? (i := 33) rfl)
theorem dX4_readPart_143 : decode cX4_readPart 143 = .ok (.aload_n 0, 1) := dgX4_readPart_1 (143, (.aload_n 0, 1)) (List.mem_of_getElem? (i := 34) rfl)
theorem dX4_readPart_144 : decode cX4_readPart 144 = .ok (.dup, 1) := dgX4_readPart_1 (144, (.dup, 1)) (List.mem_of_getElem? (i := 35) rfl)
theorem dX4_readPart_145 : decode cX4_readPart 145 = .ok (.getfield 39, 3) := dgX4_readPart_1 (145, (.getfield 39, 3)) (List.mem_of_getElem? (i := 36) rfl)
theorem dX4_readPart_148 : decode cX4_readPart 148 = .ok (.iconst 1, 1) := dgX4_readPart_1 (148, (.iconst 1, 1)) (List.mem_of_getElem? (i := 37) rfl)
theorem dX4_readPart_149 : decode cX4_readPart 149 = .ok (.iadd, 1) := dgX4_readPart_1 (149, (.iadd, 1)) (List.mem_of_getElem? (i := 38) rfl)
theorem dX4_readPart_150 : decode cX4_readPart 150 = .ok (.putfield 39, 3) := dgX4_readPart_1 (150, (.putfield 39, 3)) (List.mem_of_getElem? (i := 39) rfl)
theorem dgX4_readPart_2 : ∀ r ∈ ([(153, (.aload_n 0, 1)), (154, (.dup, 1)), (155, (.getfield 42, 3)), (158, (.iconst 1, 1)), (159, (.iadd, 1)), (160, (.putfield 42, 3)), (163, (.iconst 1, 1)), (164, (.ireturn, 1))] : List (Nat × (Instr × Nat))), decode cX4_readPart r.1 = .ok r.2 := by decide +kernel
theorem dX4_readPart_153 : decode cX4_readPart 153 = .ok (.aload_n 0, 1) := dgX4_readPart_2 (153, (.aload_n 0, 1)) (List.mem_of_getElem? (i := 0) rfl)
theorem dX4_readPart_154 : decode cX4_readPart 154 = .ok (.dup, 1) := dgX4_readPart_2 (154, (.dup, 1)) (List.mem_of_getElem? (i := 1) rfl)
theorem dX4_readPart_155 : decode cX4_readPart 155 = .ok (.getfield 42, 3) := dgX4_readPart_2 (155, (.getfield 42, 3)) (List.mem_of_getElem? (i := 2) rfl)
theorem dX4_readPart_158 : decode cX4_readPart 158 = .ok (.iconst 1, 1) := dgX4_readPart_2 (158, (.iconst 1, 1)) (List.mem_of_getElem? (i := 3) rfl)
theorem dX4_readPart_159 : decode cX4_readPart 159 = .ok (.iadd, 1) := dgX4_readPart_2 (159, (.iadd, 1)) (List.mem_of_getElem? (i := 4) rfl)
theorem dX4_readPart_160 : decode cX4_readPart 160 = .ok (.putfield 42, 3) := dgX4_readPart_2 (160, (.putfield 42, 3)) (List.mem_of_getElem? (i := 5) rfl)
theorem dX4_readPart_163 : decode cX4_readPart 163 = .ok (.iconst 1, 1) := dgX4_readPart_2 (163, (.iconst 1, 1)) (List.mem_of_getElem? (i := 6) rfl)
theorem dX4_readPart_164 : decode cX4_readPart 164 = .ok (.ireturn, 1) := dgX4_readPart_2 (164, (.ireturn, 1)) (List.mem_of_getElem? (i := 7) rfl)
theorem ml_X4_49 : Cond.methodLink RX4 49 yX4_isNext ∈ tblG := tg 732 (by decide +kernel) (by decide +kernel)
theorem im_X4_isNext : Cond.instanceMethod yX4_isNext ∈ tblG := tg 734 (by decide +kernel) (by decide +kernel)
theorem se_X4_isNext : Cond.selects RX4 yX4_isNext yX4_isNext ∈ tblG := tg 7 (by decide +kernel) (by decide +kernel)
theorem ini_X4 : Cond.initialized RX4 ∈ tblG := tg 97 (by decide +kernel) (by decide +kernel)
theorem cd_X4_isNext : Cond.code yX4_isNext cX4_isNext 2 (some .boolean) ∈ tblG := tg 735 (by decide +kernel) (by decide +kernel)
theorem gW_X4_isNext : GoodIn tblG (wsG yX4_isNext cX4_isNext 2 (some .boolean)) := tgi cd_X4_isNext
theorem gV_X4_49 : GoodIn tblG (wsV RX4 49 RX4 yX4_isNext (wsG yX4_isNext cX4_isNext 2 (some .boolean))) := tgV ml_X4_49 im_X4_isNext se_X4_isNext ini_X4 gW_X4_isNext
theorem hv_X4_isNext : yX4_isNext.cls = RX4 ∧ yX4_isNext.cls ≠ "java/lang/invoke/MethodHandle" ∧ yX4_isNext.cls ≠ "java/lang/invoke/VarHandle" ∧ (parseMethodDescriptor yX4_isNext.desc).map (fun d => d.parameters.length) = some 1 := by decide +kernel
theorem ml_X4_63 : Cond.methodLink RX4 63 yX4_passed ∈ tblG := tg 736 (by decide +kernel) (by decide +kernel)
theorem im_X4_passed : Cond.instanceMethod yX4_passed ∈ tblG := tg 738 (by decide +kernel) (by decide +kernel)
theorem se_X4_passed : Cond.selects RX4 yX4_passed yX4_passed ∈ tblG := tg 8 (by decide +kernel) (by decide +kernel)
theorem cd_X4_passed : Cond.code yX4_passed cX4_passed 3 (some .boolean) ∈ tblG := tg 739 (by decide +kernel) (by decide +kernel)
theorem gW_X4_passed : GoodIn tblG (wsG yX4_passed cX4_passed 3 (some .boolean)) := tgi cd_X4_passed
theorem gV_X4_63 : GoodIn tblG (wsV RX4 63 RX4 yX4_passed (wsG yX4_passed cX4_passed 3 (some .boolean))) := tgV ml_X4_63 im_X4_passed se_X4_passed ini_X4 gW_X4_passed
theorem hv_X4_passed : yX4_passed.cls = RX4 ∧ yX4_passed.cls ≠ "java/lang/invoke/MethodHandle" ∧ yX4_passed.cls ≠ "java/lang/invoke/VarHandle" ∧ (parseMethodDescriptor yX4_passed.desc).map (fun d => d.parameters.length) = some 1 := by decide +kernel
theorem ml_X4_73 : Cond.methodLink RX4 73 yX4_readSum ∈ tblG := tg 724 (by decide +kernel) (by decide +kernel)
theorem im_X4_readSum : Cond.instanceMethod yX4_readSum ∈ tblG := tg 726 (by decide +kernel) (by decide +kernel)
theorem se_X4_readSum : Cond.selects RX4 yX4_readSum yX4_readSum ∈ tblG := tg 5 (by decide +kernel) (by decide +kernel)
theorem cd_X4_readSum : Cond.code yX4_readSum cX4_readSum 6 (some .boolean) ∈ tblG := tg 727 (by decide +kernel) (by decide +kernel)
theorem gW_X4_readSum : GoodIn tblG (wsG yX4_readSum cX4_readSum 6 (some .boolean)) := tgi cd_X4_readSum
theorem gV_X4_73 : GoodIn tblG (wsV RX4 73 RX4 yX4_readSum (wsG yX4_readSum cX4_readSum 6 (some .boolean))) := tgV ml_X4_73 im_X4_readSum se_X4_readSum ini_X4 gW_X4_readSum
theorem hv_X4_readSum : yX4_readSum.cls = RX4 ∧ yX4_readSum.cls ≠ "java/lang/invoke/MethodHandle" ∧ yX4_readSum.cls ≠ "java/lang/invoke/VarHandle" ∧ (parseMethodDescriptor yX4_readSum.desc).map (fun d => d.parameters.length) = some 1 := by decide +kernel
theorem ml_X4_69 : Cond.methodLink RX4 69 yX8_kindAt ∈ tblG := tg 720 (by decide +kernel) (by decide +kernel)
theorem im_X8_kindAt : Cond.instanceMethod yX8_kindAt ∈ tblG := tg 721 (by decide +kernel) (by decide +kernel)
theorem se_X8_kindAt : Cond.selects RX8 yX8_kindAt yX8_kindAt ∈ tblG := tg 722 (by decide +kernel) (by decide +kernel)
theorem cd_X8_kindAt : Cond.code yX8_kindAt cX8_kindAt 2 (some .int) ∈ tblG := tg 723 (by decide +kernel) (by decide +kernel)
theorem gW_X8_kindAt : GoodIn tblG (wsG yX8_kindAt cX8_kindAt 2 (some .int)) := tgi cd_X8_kindAt
theorem gV_X4_69 : GoodIn tblG (wsV RX4 69 RX8 yX8_kindAt (wsG yX8_kindAt cX8_kindAt 2 (some .int))) := tgV ml_X4_69 im_X8_kindAt se_X8_kindAt ini_X8 gW_X8_kindAt
theorem hv_X8_kindAt : yX8_kindAt.cls = RX8 ∧ yX8_kindAt.cls ≠ "java/lang/invoke/MethodHandle" ∧ yX8_kindAt.cls ≠ "java/lang/invoke/VarHandle" ∧ (parseMethodDescriptor yX8_kindAt.desc).map (fun d => d.parameters.length) = some 1 := by decide +kernel
theorem fl_X4_39 : Cond.fieldLink RX4 39 "LateGlass$LawReader" "parts" "I" ∈ tblG := tg 423 (by decide +kernel) (by decide +kernel)
theorem fl_X4_93 : Cond.fieldLink RX4 93 "LateGlass$Tokens" "numbers" "[I" ∈ tblG := tg 408 (by decide +kernel) (by decide +kernel)
theorem ml_X4_79 : Cond.methodLink RX4 79 yX4_emit ∈ tblG := tg 740 (by decide +kernel) (by decide +kernel)
theorem im_X4_emit : Cond.instanceMethod yX4_emit ∈ tblG := tg 742 (by decide +kernel) (by decide +kernel)
theorem se_X4_emit : Cond.selects RX4 yX4_emit yX4_emit ∈ tblG := tg 9 (by decide +kernel) (by decide +kernel)
theorem cd_X4_emit : Cond.code yX4_emit cX4_emit 3 (some .int) ∈ tblG := tg 743 (by decide +kernel) (by decide +kernel)
theorem gW_X4_emit : GoodIn tblG (wsG yX4_emit cX4_emit 3 (some .int)) := tgi cd_X4_emit
theorem gV_X4_79 : GoodIn tblG (wsV RX4 79 RX4 yX4_emit (wsG yX4_emit cX4_emit 3 (some .int))) := tgV ml_X4_79 im_X4_emit se_X4_emit ini_X4 gW_X4_emit
theorem hv_X4_emit : yX4_emit.cls = RX4 ∧ yX4_emit.cls ≠ "java/lang/invoke/MethodHandle" ∧ yX4_emit.cls ≠ "java/lang/invoke/VarHandle" ∧ (parseMethodDescriptor yX4_emit.desc).map (fun d => d.parameters.length) = some 2 := by decide +kernel
