theorem dgX1_lawInForce_0 : ∀ r ∈ ([(0, (.aload_n 0, 1)), (1, (.getfield 22, 3)), (4, (.ifCond .lt 26, 3)), (7, (.aload_n 0, 1)), (8, (.getfield 22, 3)), (11, (.aload_n 0, 1)), (12, (.getfield 25, 3)), (15, (.if_icmp .ge 15, 3)), (18, (.aload_n 0, 1)), (19, (.getfield 30, 3)), (22, (.aload_n 0, 1)), (23, (.getfield 22, 3)), (26, (.aaload, 1)), (27, (.goto 4, 3)), (30, (.aconst_null, 1)), (31, (.areturn, 1))] : List (Nat × (Instr × Nat))), decode cX1_lawInForce r.1 = .ok r.2 := by decide +kernel
theorem dX1_lawInForce_0 : decode cX1_lawInForce 0 = .ok (.aload_n 0, 1) := dgX1_lawInForce_0 (0, (.aload_n 0, 1)) (List.mem_of_getElem? (i := 0) rfl)
theorem dX1_lawInForce_1 : decode cX1_lawInForce 1 = .ok (.getfield 22, 3) := dgX1_lawInForce_0 (1, (.getfield 22, 3)) (List.mem_of_getElem? (i := 1) rfl)
theorem dX1_lawInForce_4 : decode cX1_lawInForce 4 = .ok (.ifCond .lt 26, 3) := dgX1_lawInForce_0 (4, (.ifCond .lt 26, 3)) (List.mem_of_getElem? (i := 2) rfl)
theorem dX1_lawInForce_7 : decode cX1_lawInForce 7 = .ok (.aload_n 0, 1) := dgX1_lawInForce_0 (7, (.aload_n 0, 1)) (List.mem_of_getElem? (i := 3) rfl)
theorem dX1_lawInForce_8 : decode cX1_lawInForce 8 = .ok (.getfield 22, 3) := dgX1_lawInForce_0 (8, (.getfield 22, 3)) (List.mem_of_getElem? (i := 4) rfl)
theorem dX1_lawInForce_11 : decode cX1_lawInForce 11 = .ok (.aload_n 0, 1) := dgX1_lawInForce_0 (11, (.aload_n 0, 1)) (List.mem_of_getElem? (i := 5) rfl)
theorem dX1_lawInForce_12 : decode cX1_lawInForce 12 = .ok (.getfield 25, 3) := dgX1_lawInForce_0 (12, (.getfield 25, 3)) (List.mem_of_getElem? (i := 6) rfl)
theorem dX1_lawInForce_15 : decode cX1_lawInForce 15 = .ok (.if_icmp .ge 15, 3) := dgX1_lawInForce_0 (15, (.if_icmp .ge 15, 3)) (List.mem_of_getElem? (i := 7) rfl)
theorem dX1_lawInForce_18 : decode cX1_lawInForce 18 = .ok (.aload_n 0, 1) := dgX1_lawInForce_0 (18, (.aload_n 0, 1)) (List.mem_of_getElem? (i := 8) rfl)
theorem dX1_lawInForce_19 : decode cX1_lawInForce 19 = .ok (.getfield 30, 3) := dgX1_lawInForce_0 (19, (.getfield 30, 3)) (List.mem_of_getElem? (i := 9) rfl)
theorem dX1_lawInForce_22 : decode cX1_lawInForce 22 = .ok (.aload_n 0, 1) := dgX1_lawInForce_0 (22, (.aload_n 0, 1)) (List.mem_of_getElem? (i := 10) rfl)
theorem dX1_lawInForce_23 : decode cX1_lawInForce 23 = .ok (.getfield 22, 3) := dgX1_lawInForce_0 (23, (.getfield 22, 3)) (List.mem_of_getElem? (i := 11) rfl)
theorem dX1_lawInForce_26 : decode cX1_lawInForce 26 = .ok (.aaload, 1) := dgX1_lawInForce_0 (26, (.aaload, 1)) (List.mem_of_getElem? (i := 12) rfl)
theorem dX1_lawInForce_27 : decode cX1_lawInForce 27 = .ok (.goto 4, 3) := dgX1_lawInForce_0 (27, (.goto 4, 3)) (List.mem_of_getElem? (i := 13) rfl)
theorem dX1_lawInForce_30 : decode cX1_lawInForce 30 = .ok (.aconst_null, 1) := dgX1_lawInForce_0 (30, (.aconst_null, 1)) (List.mem_of_getElem? (i := 14) rfl)
theorem dX1_lawInForce_31 : decode cX1_lawInForce 31 = .ok (.areturn, 1) := dgX1_lawInForce_0 (31, (.areturn, 1)) (List.mem_of_getElem? (i := 15) rfl)
theorem fl_X1_22 : Cond.fieldLink RX1 22 "LateGlass$House" "forced" "I" ∈ tblG := tg 164 (by decide +kernel) (by decide +kernel)
theorem fl_X1_25 : Cond.fieldLink RX1 25 "LateGlass$House" "lawCount" "I" ∈ tblG := tg 166 (by decide +kernel) (by decide +kernel)
set_option maxHeartbeats 4000000 in
set_option maxRecDepth 100000 in
theorem h_lawN (l : Launch) (G : g5_G) (a_h a_l a_g a_b a_s a_p a_w a_bb : Nat) (sz : Nat) (e_le : Int32) (e_st : Int32) (e_fo : Int32) (e_lc : Int32) (e_wa : Int64) (e_gb : Int64) (f_l : Nat → Option Nat) (e_f : e_fo.toInt < 0 ∨ e_lc.toInt ≤ e_fo.toInt) : Met l yX1_lawInForce (wsG yX1_lawInForce cX1_lawInForce 1 (some (.object "LateGlass$Law"))) ({ frames := 0, cells := 0, slots := 0, locals := 0 }) (va_Pc [.ref a_h] (g5_P G [(a_h, (oc1 e_wa e_le e_st e_fo e_lc a_l a_g a_b a_s a_p a_w e_gb a_bb)), (a_l, (arW G 6 f_l))] sz)) (va_Qq (fun (r : Option Nat) (u : va_W) => ((r = none) ∧ (u = [(a_h, (oc1 e_wa e_le e_st e_fo e_lc a_l a_g a_b a_s a_p a_w e_gb a_bb)), (a_l, (arW G 6 f_l))]))) (g5_B G (va_A [(a_h, (oc1 e_wa e_le e_st e_fo e_lc a_l a_g a_b a_s a_p a_w e_gb a_bb)), (a_l, (arW G 6 f_l))] sz)) (va_A [(a_h, (oc1 e_wa e_le e_st e_fo e_lc a_l a_g a_b a_s a_p a_w e_gb a_bb)), (a_l, (arW G 6 f_l))] sz)) 0 0 (va_A [(a_h, (oc1 e_wa e_le e_st e_fo e_lc a_l a_g a_b a_s a_p a_w e_gb a_bb)), (a_l, (arW G 6 f_l))] sz) := by
  refine Met.ofW (cc := cX1_lawInForce) (maxL := 1) (ret := (some (.object "LateGlass$Law"))) (by decide) rfl ?_
  intro p e s m args below meth c s₁ B hml hv
  obtain ⟨rfl, hsz, hP, hK, hD0, hN, hT⟩ := hv
  have hx := B.exec
  have hb := B.bytes
  have hr := B.returns
  have hts : ∀ w ∈ tblG, w.before _ s = true := fun w h => atoms_spec (ws := (wsG yX1_lawInForce cX1_lawInForce 1 (some (.object "LateGlass$Law")))) B.pre w (List.mem_cons_of_mem _ h)
  have hown : s.vm.findClass RX1 = some m.cls := findClass_of_methodNamed B.named
  have hlocks := B.notSynchronized
  subst hsz
  have hD := hD0.self (sz := s.heap.size)
  generalize hAe : va_A [(a_h, (oc1 e_wa e_le e_st e_fo e_lc a_l a_g a_b a_s a_p a_w e_gb a_bb)), (a_l, (arW G 6 f_l))] s.heap.size = A at hD hT ⊢
  have hA : ∀ q : Nat, s.heap.size ≤ q → A q := fun q h => by rw [← hAe]; exact Or.inr h
  have hS : va_S A s.heap s.heap [] := va_S.rf
  have hP : va_P G.1 vwCl [(a_h, (oc1 e_wa e_le e_st e_fo e_lc a_l a_g a_b a_s a_p a_w e_gb a_bb)), (a_l, (arW G 6 f_l))] s.heap := hP
  have hl := lv_entry ([.ref a_h]) (n := 1) (Nat.le_of_ble_eq_true rfl)
  rw [lg_entry_eq]
  generalize (lg_sl ([.ref a_h]) ++ List.replicate (1 - (lg_sl ([.ref a_h])).length) Slot.unset).toArray = ls at hl ⊢
  have hl : lv_has ls 1 [(0, .ref a_h)] := hl
  refine lv_aload_n hx hb dX1_lawInForce_0 rfl (lv_at hl 0 rfl) ?_
  refine va_get (D := G.1) (ci := 1) (v := .int e_fo) (C := RX1) (T := TX1) (N := 13) hx hb hts inG_X1 hown hK hP 0 rfl rfl 3 (by decide) (hts _ fl_X1_22) (fun _ h9 => h9) rfl dX1_lawInForce_1 ?_
  refine lv_if_lt (tgt := 30) hx hb dX1_lawInForce_4 (by decide) (fun c_1 => ?_) (fun c_1 => ?_)
  ·
    have i_1 : e_fo.toInt < 0 := by have z := g5_lt (a := e_fo.toInt) (b := 0) (by rfl) (by decide) c_1; omega
    refine lv_null hx hb dX1_lawInForce_30 ?_
    exact W.aret (v := .null) hx hb hr (Or.inl ⟨_, rfl⟩) (Or.inl rfl) (fun t ht hW => ⟨⟨none, [(a_h, (oc1 e_wa e_le e_st e_fo e_lc a_l a_g a_b a_s a_p a_w e_gb a_bb)), (a_l, (arW G 6 f_l))], rfl, ⟨rfl, rfl⟩, by rw [ht]; exact hP.sub [0, 1] rfl, hD.sub [0, 1] (by decide) rfl⟩, hS.F ht⟩) hS.2.2 dX1_lawInForce_31
  ·
    have i_1 : e_fo.toInt ≥ 0 := by have z := g5_ltN (a := e_fo.toInt) (b := 0) (by rfl) (by decide) c_1; omega
    refine lv_aload_n hx hb dX1_lawInForce_7 rfl (lv_at hl 0 rfl) ?_
    refine va_get (D := G.1) (ci := 1) (v := .int e_fo) (C := RX1) (T := TX1) (N := 13) hx hb hts inG_X1 hown hK hP 0 rfl rfl 3 (by decide) (hts _ fl_X1_22) (fun _ h9 => h9) rfl dX1_lawInForce_8 ?_
    refine lv_aload_n hx hb dX1_lawInForce_11 rfl (lv_at hl 0 rfl) ?_
    refine va_get (D := G.1) (ci := 1) (v := .int e_lc) (C := RX1) (T := TX1) (N := 13) hx hb hts inG_X1 hown hK hP 0 rfl rfl 4 (by decide) (hts _ fl_X1_25) (fun _ h9 => h9) rfl dX1_lawInForce_12 ?_
    refine lv_icmp_ge (tgt := 30) hx hb dX1_lawInForce_15 (by decide) (fun c_2 => ?_) (fun c_2 => ?_)
    ·
      have i_2 : e_fo.toInt ≥ e_lc.toInt := by have z := g5_ge (a := e_fo.toInt) (b := e_lc.toInt) (by rfl) (by rfl) c_2; omega
      refine lv_null hx hb dX1_lawInForce_30 ?_
      exact W.aret (v := .null) hx hb hr (Or.inl ⟨_, rfl⟩) (Or.inl rfl) (fun t ht hW => ⟨⟨none, [(a_h, (oc1 e_wa e_le e_st e_fo e_lc a_l a_g a_b a_s a_p a_w e_gb a_bb)), (a_l, (arW G 6 f_l))], rfl, ⟨rfl, rfl⟩, by rw [ht]; exact hP.sub [0, 1] rfl, hD.sub [0, 1] (by decide) rfl⟩, hS.F ht⟩) hS.2.2 dX1_lawInForce_31
    ·
      have i_2 : e_fo.toInt < e_lc.toInt := by have z := g5_geN (a := e_fo.toInt) (b := e_lc.toInt) (by rfl) (by rfl) c_2; omega
      exact absurd (show False by omega) (fun h => h)
theorem fl_X1_30 : Cond.fieldLink RX1 30 "LateGlass$House" "laws" "[LLateGlass$Law;" ∈ tblG := tg 168 (by decide +kernel) (by decide +kernel)
set_option maxHeartbeats 4000000 in
set_option maxRecDepth 100000 in
theorem h_lawL (l : Launch) (G : g5_G) (a_h a_l a_g a_b a_s a_p a_w a_bb a_lo : Nat) (sz : Nat) (e_le : Int32) (e_st : Int32) (e_fo : Int32) (e_lc : Int32) (e_wa : Int64) (e_gb : Int64) (f_l : Nat → Option Nat) (e_f : 0 ≤ e_fo.toInt ∧ e_fo.toInt < e_lc.toInt ∧ e_lc.toInt ≤ 6) (e_a : f_l e_fo.toNatClampNeg = some a_lo) : Met l yX1_lawInForce (wsG yX1_lawInForce cX1_lawInForce 1 (some (.object "LateGlass$Law"))) ({ frames := 0, cells := 0, slots := 0, locals := 0 }) (va_Pc [.ref a_h] (g5_P G [(a_h, (oc1 e_wa e_le e_st e_fo e_lc a_l a_g a_b a_s a_p a_w e_gb a_bb)), (a_l, (arW G 6 f_l))] sz)) (va_Qq (fun (r : Option Nat) (u : va_W) => ((r = some a_lo) ∧ (u = [(a_h, (oc1 e_wa e_le e_st e_fo e_lc a_l a_g a_b a_s a_p a_w e_gb a_bb)), (a_l, (arW G 6 f_l))]))) (g5_B G (va_A [(a_h, (oc1 e_wa e_le e_st e_fo e_lc a_l a_g a_b a_s a_p a_w e_gb a_bb)), (a_l, (arW G 6 f_l))] sz)) (va_A [(a_h, (oc1 e_wa e_le e_st e_fo e_lc a_l a_g a_b a_s a_p a_w e_gb a_bb)), (a_l, (arW G 6 f_l))] sz)) 0 0 (va_A [(a_h, (oc1 e_wa e_le e_st e_fo e_lc a_l a_g a_b a_s a_p a_w e_gb a_bb)), (a_l, (arW G 6 f_l))] sz) := by
  refine Met.ofW (cc := cX1_lawInForce) (maxL := 1) (ret := (some (.object "LateGlass$Law"))) (by decide) rfl ?_
  intro p e s m args below meth c s₁ B hml hv
  obtain ⟨rfl, hsz, hP, hK, hD0, hN, hT⟩ := hv
  have hx := B.exec
  have hb := B.bytes
  have hr := B.returns
  have hts : ∀ w ∈ tblG, w.before _ s = true := fun w h => atoms_spec (ws := (wsG yX1_lawInForce cX1_lawInForce 1 (some (.object "LateGlass$Law")))) B.pre w (List.mem_cons_of_mem _ h)
  have hown : s.vm.findClass RX1 = some m.cls := findClass_of_methodNamed B.named
  have hlocks := B.notSynchronized
  subst hsz
  have hD := hD0.self (sz := s.heap.size)
  generalize hAe : va_A [(a_h, (oc1 e_wa e_le e_st e_fo e_lc a_l a_g a_b a_s a_p a_w e_gb a_bb)), (a_l, (arW G 6 f_l))] s.heap.size = A at hD hT ⊢
  have hA : ∀ q : Nat, s.heap.size ≤ q → A q := fun q h => by rw [← hAe]; exact Or.inr h
  have hS : va_S A s.heap s.heap [] := va_S.rf
  have hP : va_P G.1 vwCl [(a_h, (oc1 e_wa e_le e_st e_fo e_lc a_l a_g a_b a_s a_p a_w e_gb a_bb)), (a_l, (arW G 6 f_l))] s.heap := hP
  have hl := lv_entry ([.ref a_h]) (n := 1) (Nat.le_of_ble_eq_true rfl)
  rw [lg_entry_eq]
  generalize (lg_sl ([.ref a_h]) ++ List.replicate (1 - (lg_sl ([.ref a_h])).length) Slot.unset).toArray = ls at hl ⊢
  have hl : lv_has ls 1 [(0, .ref a_h)] := hl
  refine lv_aload_n hx hb dX1_lawInForce_0 rfl (lv_at hl 0 rfl) ?_
  refine va_get (D := G.1) (ci := 1) (v := .int e_fo) (C := RX1) (T := TX1) (N := 13) hx hb hts inG_X1 hown hK hP 0 rfl rfl 3 (by decide) (hts _ fl_X1_22) (fun _ h9 => h9) rfl dX1_lawInForce_1 ?_
  refine lv_if_lt (tgt := 30) hx hb dX1_lawInForce_4 (by decide) (fun c_1 => ?_) (fun c_1 => ?_)
  ·
    have i_1 : e_fo.toInt < 0 := by have z := g5_lt (a := e_fo.toInt) (b := 0) (by rfl) (by decide) c_1; omega
    exact absurd (show False by omega) (fun h => h)
  ·
    have i_1 : e_fo.toInt ≥ 0 := by have z := g5_ltN (a := e_fo.toInt) (b := 0) (by rfl) (by decide) c_1; omega
    refine lv_aload_n hx hb dX1_lawInForce_7 rfl (lv_at hl 0 rfl) ?_
    refine va_get (D := G.1) (ci := 1) (v := .int e_fo) (C := RX1) (T := TX1) (N := 13) hx hb hts inG_X1 hown hK hP 0 rfl rfl 3 (by decide) (hts _ fl_X1_22) (fun _ h9 => h9) rfl dX1_lawInForce_8 ?_
    refine lv_aload_n hx hb dX1_lawInForce_11 rfl (lv_at hl 0 rfl) ?_
    refine va_get (D := G.1) (ci := 1) (v := .int e_lc) (C := RX1) (T := TX1) (N := 13) hx hb hts inG_X1 hown hK hP 0 rfl rfl 4 (by decide) (hts _ fl_X1_25) (fun _ h9 => h9) rfl dX1_lawInForce_12 ?_
    refine lv_icmp_ge (tgt := 30) hx hb dX1_lawInForce_15 (by decide) (fun c_2 => ?_) (fun c_2 => ?_)
    ·
      have i_2 : e_fo.toInt ≥ e_lc.toInt := by have z := g5_ge (a := e_fo.toInt) (b := e_lc.toInt) (by rfl) (by rfl) c_2; omega
      exact absurd (show False by omega) (fun h => h)
    ·
      have i_2 : e_fo.toInt < e_lc.toInt := by have z := g5_geN (a := e_fo.toInt) (b := e_lc.toInt) (by rfl) (by rfl) c_2; omega
      refine lv_aload_n hx hb dX1_lawInForce_18 rfl (lv_at hl 0 rfl) ?_
      refine va_get (D := G.1) (ci := 1) (v := .ref a_l) (C := RX1) (T := TX1) (N := 13) hx hb hts inG_X1 hown hK hP 0 rfl rfl 5 (by decide) (hts _ fl_X1_30) (fun _ h9 => h9) rfl dX1_lawInForce_19 ?_
      refine lv_aload_n hx hb dX1_lawInForce_22 rfl (lv_at hl 0 rfl) ?_
      refine va_get (D := G.1) (ci := 1) (v := .int e_fo) (C := RX1) (T := TX1) (N := 13) hx hb hts inG_X1 hown hK hP 0 rfl rfl 3 (by decide) (hts _ fl_X1_22) (fun _ h9 => h9) rfl dX1_lawInForce_23 ?_
      refine va_aldq hx hb hK hP 1 4 rfl rfl (i := e_fo) (vp_in_iff.mpr ⟨by omega, by omega⟩) dX1_lawInForce_26 ?_
      refine g5_tv (v := .ref a_lo) (by rw [e_a]; rfl) ?_
      refine lv_goto (tgt := 31) hx hb dX1_lawInForce_27 (by decide) ?_
      exact W.aret (v := .ref a_lo) hx hb hr (Or.inl ⟨_, rfl⟩) (Or.inr ⟨_, rfl⟩) (fun t ht hW => ⟨⟨some a_lo, [(a_h, (oc1 e_wa e_le e_st e_fo e_lc a_l a_g a_b a_s a_p a_w e_gb a_bb)), (a_l, (arW G 6 f_l))], rfl, ⟨rfl, rfl⟩, by rw [ht]; exact hP.sub [0, 1] rfl, hD.sub [0, 1] (by decide) rfl⟩, hS.F ht⟩) hS.2.2 dX1_lawInForce_31
theorem dgX5_hungBoard_0 : ∀ r ∈ ([(0, (.lconst 0, 1)), (1, (.lstore_n 2, 1)), (2, (.iconst 0, 1)), (3, (.istore 4, 2)), (5, (.iload_n 1, 1)), (6, (.iload 4, 2)), (8, (.ishr, 1)), (9, (.ifCond .eq 55, 3)), (12, (.iload 4, 2)), (14, (.aload_n 0, 1)), (15, (.getfield 22, 3)), (18, (.getfield 98, 3)), (21, (.getfield 102, 3)), (24, (.if_icmp .ge 40, 3)), (27, (.lload_n 2, 1)), (28, (.iload_n 1, 1)), (29, (.iload 4, 2)), (31, (.ishr, 1)), (32, (.iconst 1, 1)), (33, (.iand, 1)), (34, (.ifCond .ne 7, 3)), (37, (.lconst 0, 1)), (38, (.goto 18, 3)), (41, (.lconst 1, 1)), (42, (.aload_n 0, 1)), (43, (.getfield 22, 3)), (46, (.getfield 98, 3)), (49, (.iload 4, 2)), (51, (.iconst 0, 1)), (52, (.invokevirtual 107, 3)), (55, (.lshl, 1)), (56, (.lor, 1)), (57, (.lstore_n 2, 1)), (58, (.iinc 4 1, 3)), (61, (.goto (-56), 3)), (64, (.lload_n 2, 1)), (65, (.lreturn, 1))] : List (Nat × (Instr × Nat))), decode cX5_hungBoard r.1 = .ok r.2 := by decide +kernel
theorem dX5_hungBoard_0 : decode cX5_hungBoard 0 = .ok (.lconst 0, 1) := dgX5_hungBoard_0 (0, (.lconst 0, 1)) (List.mem_of_getElem? (i := 0) rfl)
theorem dX5_hungBoard_1 : decode cX5_hungBoard 1 = .ok (.lstore_n 2, 1) := dgX5_hungBoard_0 (1, (.lstore_n 2, 1)) (List.mem_of_getElem? (i := 1) rfl)
theorem dX5_hungBoard_2 : decode cX5_hungBoard 2 = .ok (.iconst 0, 1) := dgX5_hungBoard_0 (2, (.iconst 0, 1)) (List.mem_of_getElem? (i := 2) rfl)
theorem dX5_hungBoard_3 : decode cX5_hungBoard 3 = .ok (.istore 4, 2) := dgX5_hungBoard_0 (3, (.istore 4, 2)) (List.mem_of_getElem? (i := 3) rfl)
theorem dX5_hungBoard_5 : decode cX5_hungBoard 5 = .ok (.iload_n 1, 1) := dgX5_hungBoard_0 (5, (.iload_n 1, 1)) (List.mem_of_getElem? (i := 4) rfl)
theorem dX5_hungBoard_6 : decode cX5_hungBoard 6 = .ok (.iload 4, 2) := dgX5_hungBoard_0 (6, (.iload 4, 2)) (List.mem_of_getElem? (i := 5) rfl)
theorem dX5_hungBoard_8 : decode cX5_hungBoard 8 = .ok (.ishr, 1) := dgX5_hungBoard_0 (8, (.ishr, 1)) (List.mem_of_getElem? (i := 6) rfl)
theorem dX5_hungBoard_9 : decode cX5_hungBoard 9 = .ok (.ifCond .eq 55, 3) := dgX5_hungBoard_0 (9, (.ifCond .eq 55, 3)) (List.mem_of_getElem? (i := 7) rfl)
theorem dX5_hungBoard_12 : decode cX5_hungBoard 12 = .ok (.iload 4, 2) := dgX5_hungBoard_0 (12, (.iload 4, 2)) (List.mem_of_getElem? (i := 8) rfl)
theorem dX5_hungBoard_14 : decode cX5_hungBoard 14 = .ok (.aload_n 0, 1) := dgX5_hungBoard_0 (14, (.aload_n 0, 1)) (List.mem_of_getElem? (i := 9) rfl)
theorem dX5_hungBoard_15 : decode cX5_hungBoard 15 = .ok (.getfield 22, 3) := dgX5_hungBoard_0 (15, (.getfield 22, 3)) (List.mem_of_getElem? (i := 10) rfl)
theorem dX5_hungBoard_18 : decode cX5_hungBoard 18 = .ok (.getfield 98, 3) := dgX5_hungBoard_0 (18, (.getfield 98, 3)) (List.mem_of_getElem? (i := 11) rfl)
theorem dX5_hungBoard_21 : decode cX5_hungBoard 21 = .ok (.getfield 102, 3) := dgX5_hungBoard_0 (21, (.getfield 102, 3)) (List.mem_of_getElem? (i := 12) rfl)
theorem dX5_hungBoard_24 : decode cX5_hungBoard 24 = .ok (.if_icmp .ge 40, 3) := dgX5_hungBoard_0 (24, (.if_icmp .ge 40, 3)) (List.mem_of_getElem? (i := 13) rfl)
theorem dX5_hungBoard_27 : decode cX5_hungBoard 27 = .ok (.lload_n 2, 1) := dgX5_hungBoard_0 (27, (.lload_n 2, 1)) (List.mem_of_getElem? (i := 14) rfl)
theorem dX5_hungBoard_28 : decode cX5_hungBoard 28 = .ok (.iload_n 1, 1) := dgX5_hungBoard_0 (28, (.iload_n 1, 1)) (List.mem_of_getElem? (i := 15) rfl)
theorem dX5_hungBoard_29 : decode cX5_hungBoard 29 = .ok (.iload 4, 2) := dgX5_hungBoard_0 (29, (.iload 4, 2)) (List.mem_of_getElem? (i := 16) rfl)
theorem dX5_hungBoard_31 : decode cX5_hungBoard 31 = .ok (.ishr, 1) := dgX5_hungBoard_0 (31, (.ishr, 1)) (List.mem_of_getElem? (i := 17) rfl)
theorem dX5_hungBoard_32 : decode cX5_hungBoard 32 = .ok (.iconst 1, 1) := dgX5_hungBoard_0 (32, (.iconst 1, 1)) (List.mem_of_getElem? (i := 18) rfl)
theorem dX5_hungBoard_33 : decode cX5_hungBoard 33 = .ok (.iand, 1) := dgX5_hungBoard_0 (33, (.iand, 1)) (List.mem_of_getElem? (i := 19) rfl)
theorem dX5_hungBoard_34 : decode cX5_hungBoard 34 = .ok (.ifCond .ne 7, 3) := dgX5_hungBoard_0 (34, (.ifCond .ne 7, 3)) (List.mem_of_getElem? (i := 20) rfl)
theorem dX5_hungBoard_37 : decode cX5_hungBoard 37 = .ok (.lconst 0, 1) := dgX5_hungBoard_0 (37, (.lconst 0, 1)) (List.mem_of_getElem? (i := 21) rfl)
theorem dX5_hungBoard_38 : decode cX5_hungBoard 38 = .ok (.goto 18, 3) := dgX5_hungBoard_0 (38, (.goto 18, 3)) (List.mem_of_getElem? (i := 22) rfl)
theorem dX5_hungBoard_41 : decode cX5_hungBoard 41 = .ok (.lconst 1, 1) := dgX5_hungBoard_0 (41, (.lconst 1, 1)) (List.mem_of_getElem? (i := 23) rfl)
theorem dX5_hungBoard_42 : decode cX5_hungBoard 42 = .ok (.aload_n 0, 1) := dgX5_hungBoard_0 (42, (.aload_n 0, 1)) (List.mem_of_getElem? (i := 24) rfl)
theorem dX5_hungBoard_43 : decode cX5_hungBoard 43 = .ok (.getfield 22, 3) := dgX5_hungBoard_0 (43, (.getfield 22, 3)) (List.mem_of_getElem? (i := 25) rfl)
theorem dX5_hungBoard_46 : decode cX5_hungBoard 46 = .ok (.getfield 98, 3) := dgX5_hungBoard_0 (46, (.getfield 98, 3)) (List.mem_of_getElem? (i := 26) rfl)
theorem dX5_hungBoard_49 : decode cX5_hungBoard 49 = .ok (.iload 4, 2) := dgX5_hungBoard_0 (49, (.iload 4, 2)) (List.mem_of_getElem? (i := 27) rfl)
theorem dX5_hungBoard_51 : decode cX5_hungBoard 51 = .ok (.iconst 0, 1) := dgX5_hungBoard_0 (51, (.iconst 0, 1)) (List.mem_of_getElem? (i := 28) rfl)
theorem dX5_hungBoard_52 : decode cX5_hungBoard 52 = .ok (.invokevirtual 107, 3) := dgX5_hungBoard_0 (52, (.invokevirtual 107, 3)) (List.mem_of_getElem? (i := 29) rfl)
theorem dX5_hungBoard_55 : decode cX5_hungBoard 55 = .ok (.lshl, 1) := dgX5_hungBoard_0 (55, (.lshl, 1)) (List.mem_of_getElem? (i := 30) rfl)
theorem dX5_hungBoard_56 : decode cX5_hungBoard 56 = .ok (.lor, 1) := dgX5_hungBoard_0 (56, (.lor, 1)) (List.mem_of_getElem? (i := 31) rfl)
theorem dX5_hungBoard_57 : decode cX5_hungBoard 57 = .ok (.lstore_n 2, 1) := dgX5_hungBoard_0 (57, (.lstore_n 2, 1)) (List.mem_of_getElem? (i := 32) rfl)
theorem dX5_hungBoard_58 : decode cX5_hungBoard 58 = .ok (.iinc 4 1, 3) := dgX5_hungBoard_0 (58, (.iinc 4 1, 3)) (List.mem_of_getElem? (i := 33) rfl)
theorem dX5_hungBoard_61 : decode cX5_hungBoard 61 = .ok (.goto (-56), 3) := dgX5_hungBoard_0 (61, (.goto (-56), 3)) (List.mem_of_getElem? (i := 34) rfl)
theorem dX5_hungBoard_64 : decode cX5_hungBoard 64 = .ok (.lload_n 2, 1) := dgX5_hungBoard_0 (64, (.lload_n 2, 1)) (List.mem_of_getElem? (i := 35) rfl)
theorem dX5_hungBoard_65 : decode cX5_hungBoard 65 = .ok (.lreturn, 1) := dgX5_hungBoard_0 (65, (.lreturn, 1)) (List.mem_of_getElem? (i := 36) rfl)
theorem inG_X5 : ∀ w ∈ wsX50, w ∈ tblG := tgs [267, 269, 271, 273, 275, 277, 279, 281, 283, 285, 287, 289, 291] (by decide +kernel) (by decide +kernel)
theorem fl_X5_22 : Cond.fieldLink RX5 22 "LateGlass$Look" "house" "LLateGlass$House;" ∈ tblG := tg 243 (by decide +kernel) (by decide +kernel)
theorem fl_X5_98 : Cond.fieldLink RX5 98 "LateGlass$House" "spots" "LLateGlass$Table;" ∈ tblG := tg 183 (by decide +kernel) (by decide +kernel)
theorem fl_X5_102 : Cond.fieldLink RX5 102 "LateGlass$Table" "rows" "I" ∈ tblG := tg 141 (by decide +kernel) (by decide +kernel)
theorem ml_X5_107 : Cond.methodLink RX5 107 yX6_get ∈ tblG := tg 821 (by decide +kernel) (by decide +kernel)
theorem gV_X5_107 : GoodIn tblG (wsV RX5 107 RX6 yX6_get (wsG yX6_get cX6_get 3 (some .int))) := tgV ml_X5_107 im_X6_get se_X6_get ini_X6 gW_X6_get
set_option maxHeartbeats 4000000 in
set_option maxRecDepth 100000 in
theorem k_hung (l : Launch) (G : g5_G) (a_k a_h a_p a_pn a_j a_pt a_l a_g a_b a_s a_w a_bb : Nat) (sz : Nat) (e_le : Int32) (e_st : Int32) (e_fo : Int32) (e_lc : Int32) (e_p : Int32) (e_ln : Int32) (e_se : Int32) (e_lh : Int32) (e_br : Int32) (e_we : Int32) (e_me : Int32) (e_ce : Int32) (e_wy : Int32) (e_ho : Int32) (e_ov : Int32) (p_h : Int32) (e_wa : Int64) (e_gb : Int64) (f_p : Nat → Int32) (h_e_p : 0 ≤ e_p.toInt ∧ e_p.toInt ≤ 8) (h_e_ov : 0 ≤ e_ov.toInt ∧ e_ov.toInt ≤ 1) (e_pc : ∀ r : Int, 0 ≤ r → r < e_p.toInt → 0 ≤ (tget f_p e_p.toInt 5 r (0 : Int32).toInt).toInt ∧ (tget f_p e_p.toInt 5 r (0 : Int32).toInt).toInt ≤ 63) : Met l yX5_hungBoard (wsG yX5_hungBoard cX5_hungBoard 5 (some .long)) ({ frames := 1, cells := 0, slots := 0, locals := 22 }) (va_Pc [.ref a_k, .int p_h] (g5_P G [(a_k, (oc5 a_h a_j a_pt e_ln e_se e_lh e_br e_we e_me e_ce e_wy e_ho e_ov)), (a_h, (oc1 e_wa e_le e_st e_fo e_lc a_l a_g a_b a_s a_p a_w e_gb a_bb)), (a_p, (oc6 8 5 a_pn e_p)), (a_pn, (arI G 40 f_p))] sz)) (va_Ql (fun (r : Int64) (u : va_W) => (∃ (o_r : Int64), (inT o_r f_p e_p.toInt) ∧ (r = o_r) ∧ (u = [(a_k, (oc5 a_h a_j a_pt e_ln e_se e_lh e_br e_we e_me e_ce e_wy e_ho e_ov)), (a_h, (oc1 e_wa e_le e_st e_fo e_lc a_l a_g a_b a_s a_p a_w e_gb a_bb)), (a_p, (oc6 8 5 a_pn e_p)), (a_pn, (arI G 40 f_p))]))) (g5_B G (va_A [(a_k, (oc5 a_h a_j a_pt e_ln e_se e_lh e_br e_we e_me e_ce e_wy e_ho e_ov)), (a_h, (oc1 e_wa e_le e_st e_fo e_lc a_l a_g a_b a_s a_p a_w e_gb a_bb)), (a_p, (oc6 8 5 a_pn e_p)), (a_pn, (arI G 40 f_p))] sz)) (va_A [(a_k, (oc5 a_h a_j a_pt e_ln e_se e_lh e_br e_we e_me e_ce e_wy e_ho e_ov)), (a_h, (oc1 e_wa e_le e_st e_fo e_lc a_l a_g a_b a_s a_p a_w e_gb a_bb)), (a_p, (oc6 8 5 a_pn e_p)), (a_pn, (arI G 40 f_p))] sz)) 0 0 (va_A [(a_k, (oc5 a_h a_j a_pt e_ln e_se e_lh e_br e_we e_me e_ce e_wy e_ho e_ov)), (a_h, (oc1 e_wa e_le e_st e_fo e_lc a_l a_g a_b a_s a_p a_w e_gb a_bb)), (a_p, (oc6 8 5 a_pn e_p)), (a_pn, (arI G 40 f_p))] sz) := by
  refine Met.ofW (cc := cX5_hungBoard) (maxL := 5) (ret := (some .long)) (by decide) rfl ?_
  intro p e s m args below meth c s₁ B hml hv
  obtain ⟨rfl, hsz, hP, hK, hD0, hN, hT⟩ := hv
  have hx := B.exec
  have hb := B.bytes
  have hr := B.returns
  have hts : ∀ w ∈ tblG, w.before _ s = true := fun w h => atoms_spec (ws := (wsG yX5_hungBoard cX5_hungBoard 5 (some .long))) B.pre w (List.mem_cons_of_mem _ h)
  have hown : s.vm.findClass RX5 = some m.cls := findClass_of_methodNamed B.named
  have hlocks := B.notSynchronized
  subst hsz
  have hD := hD0.self (sz := s.heap.size)
  generalize hAe : va_A [(a_k, (oc5 a_h a_j a_pt e_ln e_se e_lh e_br e_we e_me e_ce e_wy e_ho e_ov)), (a_h, (oc1 e_wa e_le e_st e_fo e_lc a_l a_g a_b a_s a_p a_w e_gb a_bb)), (a_p, (oc6 8 5 a_pn e_p)), (a_pn, (arI G 40 f_p))] s.heap.size = A at hD hT ⊢
  have hA : ∀ q : Nat, s.heap.size ≤ q → A q := fun q h => by rw [← hAe]; exact Or.inr h
  have hS : va_S A s.heap s.heap [] := va_S.rf
  have hP : va_P G.1 vwCl [(a_k, (oc5 a_h a_j a_pt e_ln e_se e_lh e_br e_we e_me e_ce e_wy e_ho e_ov)), (a_h, (oc1 e_wa e_le e_st e_fo e_lc a_l a_g a_b a_s a_p a_w e_gb a_bb)), (a_p, (oc6 8 5 a_pn e_p)), (a_pn, (arI G 40 f_p))] s.heap := hP
  have hl := lv_entry ([.ref a_k, .int p_h]) (n := 5) (Nat.le_of_ble_eq_true rfl)
  rw [lg_entry_eq]
  generalize (lg_sl ([.ref a_k, .int p_h]) ++ List.replicate (5 - (lg_sl ([.ref a_k, .int p_h])).length) Slot.unset).toArray = ls at hl ⊢
  have hl : lv_has ls 5 [(0, .ref a_k), (1, .int p_h)] := hl
  refine lv_lconst (v := 0) hx hb dX5_hungBoard_0 (by decide) ?_
  refine lv_lstore_n (lv' := [(2, .long 0), (0, .ref a_k), (1, .int p_h)]) hx hb dX5_hungBoard_1 rfl hl (by decide) rfl (fun ls hl => ?_)
  refine lv_iconst (v := 0) hx hb dX5_hungBoard_2 (by decide) ?_
  refine lv_istore (lv' := [(4, .int 0), (2, .long 0), (0, .ref a_k), (1, .int p_h)]) hx hb dX5_hungBoard_3 hl (by decide) rfl (fun ls hl => ?_)
  refine g5_loop (α := (Int32) × (Int64)) (fun (q : (Int32) × (Int64)) (ls : Array Slot) (H : Heap) (locs : List Loc) => match q with | (k_s, k_x) => lv_has ls 5 [(2, .long k_x), (4, .int k_s), (0, .ref a_k), (1, .int p_h)] ∧ va_P G.1 vwCl [(a_k, (oc5 a_h a_j a_pt e_ln e_se e_lh e_br e_we e_me e_ce e_wy e_ho e_ov)), (a_h, (oc1 e_wa e_le e_st e_fo e_lc a_l a_g a_b a_s a_p a_w e_gb a_bb)), (a_p, (oc6 8 5 a_pn e_p)), (a_pn, (arI G 40 f_p))] H ∧ va_D A [(a_k, (oc5 a_h a_j a_pt e_ln e_se e_lh e_br e_we e_me e_ce e_wy e_ho e_ov)), (a_h, (oc1 e_wa e_le e_st e_fo e_lc a_l a_g a_b a_s a_p a_w e_gb a_bb)), (a_p, (oc6 8 5 a_pn e_p)), (a_pn, (arI G 40 f_p))] ∧ va_S A s.heap H locs ∧ (0 ≤ k_s.toInt ∧ k_s.toInt ≤ 8) ∧ (k_s.toInt ≤ e_p.toInt) ∧ (inT k_x f_p e_p.toInt)) (fun (q : (Int32) × (Int64)) => match q with | (k_s, k_x) => Int.toNat (8 - k_s.toInt)) (0, 0) ⟨lv_sub hl [1, 0, 2, 3] rfl, hP, hD, hS, ⟨by decide, by decide⟩, by have z0 : (0 : Int32).toInt = 0 := (by decide); omega, inT_zero⟩ ?_
  rintro ⟨k_s, k_x⟩ ls H locs ⟨hl, hP, hD, hS, i_1, i_2, i_3⟩ ih_5_4
  have hl : lv_has ls 5 [(2, .long k_x), (4, .int k_s), (0, .ref a_k), (1, .int p_h)] := hl
  have i_1 : 0 ≤ k_s.toInt ∧ k_s.toInt ≤ 8 := i_1
  have i_2 : k_s.toInt ≤ e_p.toInt := i_2
  have i_3 : inT k_x f_p e_p.toInt := i_3
  refine g5_rs [(a_k, (oc5 a_h a_j a_pt e_ln e_se e_lh e_br e_we e_me e_ce e_wy e_ho e_ov)), (a_h, (oc1 e_wa e_le e_st e_fo e_lc a_l a_g a_b a_s a_p a_w e_gb a_bb)), (a_p, (oc6 8 5 a_pn e_p)), (a_pn, (arI G 40 f_p))] hP hD (fun hP hD => ?_)
  refine lv_iload_n hx hb dX5_hungBoard_5 rfl (lv_at hl 3 rfl) ?_
  refine lv_iload hx hb dX5_hungBoard_6 (lv_at hl 1 rfl) ?_
  refine lv_ishr hx hb dX5_hungBoard_8 ?_
  refine lv_if_eq (tgt := 64) hx hb dX5_hungBoard_9 (by decide) (fun c_5 => ?_) (fun c_5 => ?_)
  ·
    have i_5 : (p_h >>> (k_s &&& 31)).toInt = 0 := by have z := g5_eq (a := (p_h >>> (k_s &&& 31)).toInt) (b := 0) (by rfl) (by decide) c_5; omega
    refine lv_lload_n hx hb dX5_hungBoard_64 rfl (lv_at hl 0 rfl) ?_
    exact W.lret (v := k_x) hx hb hr (fun t ht hW => ⟨⟨k_x, [(a_k, (oc5 a_h a_j a_pt e_ln e_se e_lh e_br e_we e_me e_ce e_wy e_ho e_ov)), (a_h, (oc1 e_wa e_le e_st e_fo e_lc a_l a_g a_b a_s a_p a_w e_gb a_bb)), (a_p, (oc6 8 5 a_pn e_p)), (a_pn, (arI G 40 f_p))], rfl, ⟨k_x, i_3, rfl, rfl⟩, by rw [ht]; exact hP.sub [0, 1, 2, 3] rfl, hD.sub [0, 1, 2, 3] (by decide) rfl⟩, hS.F ht⟩) hS.2.2 dX5_hungBoard_65
  ·
    have n_5 : gNe ((p_h >>> (k_s &&& 31)).toInt) (0) := by have z := g5_eqN (a := (p_h >>> (k_s &&& 31)).toInt) (b := 0) (by rfl) (by decide) c_5; unfold gNe; omega
    refine lv_iload hx hb dX5_hungBoard_12 (lv_at hl 1 rfl) ?_
    refine lv_aload_n hx hb dX5_hungBoard_14 rfl (lv_at hl 2 rfl) ?_
    refine va_get (D := G.1) (ci := 5) (v := .ref a_h) (C := RX5) (T := TX5) (N := 13) hx hb hts inG_X5 hown hK hP 0 rfl rfl 0 (by decide) (hts _ fl_X5_22) (fun _ h9 => h9) rfl dX5_hungBoard_15 ?_
    refine va_get (D := G.1) (ci := 1) (v := .ref a_p) (C := RX1) (T := TX1) (N := 13) hx hb hts inG_X1 hown hK hP 1 rfl rfl 9 (by decide) (hts _ fl_X5_98) (fun _ h9 => h9) rfl dX5_hungBoard_18 ?_
    refine va_get (D := G.1) (ci := 6) (v := .int e_p) (C := RX6) (T := TX6) (N := 4) hx hb hts inG_X6 hown hK hP 2 rfl rfl 3 (by decide) (hts _ fl_X5_102) (fun _ h9 => h9) rfl dX5_hungBoard_21 ?_
    refine lv_icmp_ge (tgt := 64) hx hb dX5_hungBoard_24 (by decide) (fun c_6 => ?_) (fun c_6 => ?_)
    ·
      have i_6 : k_s.toInt ≥ e_p.toInt := by have z := g5_ge (a := k_s.toInt) (b := e_p.toInt) (by rfl) (by rfl) c_6; omega
      refine lv_lload_n hx hb dX5_hungBoard_64 rfl (lv_at hl 0 rfl) ?_
      exact W.lret (v := k_x) hx hb hr (fun t ht hW => ⟨⟨k_x, [(a_k, (oc5 a_h a_j a_pt e_ln e_se e_lh e_br e_we e_me e_ce e_wy e_ho e_ov)), (a_h, (oc1 e_wa e_le e_st e_fo e_lc a_l a_g a_b a_s a_p a_w e_gb a_bb)), (a_p, (oc6 8 5 a_pn e_p)), (a_pn, (arI G 40 f_p))], rfl, ⟨k_x, i_3, rfl, rfl⟩, by rw [ht]; exact hP.sub [0, 1, 2, 3] rfl, hD.sub [0, 1, 2, 3] (by decide) rfl⟩, hS.F ht⟩) hS.2.2 dX5_hungBoard_65
    ·
      have i_6 : k_s.toInt < e_p.toInt := by have z := g5_geN (a := k_s.toInt) (b := e_p.toInt) (by rfl) (by rfl) c_6; omega
      refine lv_lload_n hx hb dX5_hungBoard_27 rfl (lv_at hl 0 rfl) ?_
      refine lv_iload_n hx hb dX5_hungBoard_28 rfl (lv_at hl 3 rfl) ?_
      refine lv_iload hx hb dX5_hungBoard_29 (lv_at hl 1 rfl) ?_
      refine lv_ishr hx hb dX5_hungBoard_31 ?_
      refine lv_iconst (v := 1) hx hb dX5_hungBoard_32 (by decide) ?_
      refine lv_iand hx hb dX5_hungBoard_33 ?_
      refine lv_if_ne (tgt := 41) hx hb dX5_hungBoard_34 (by decide) (fun c_7 => ?_) (fun c_7 => ?_)
      ·
        have n_7 : gNe (((p_h >>> (k_s &&& 31)) &&& 1).toInt) (0) := by have z := g5_ne (a := ((p_h >>> (k_s &&& 31)) &&& 1).toInt) (b := 0) (by rfl) (by decide) c_7; unfold gNe; omega
        refine lv_lconst (v := 1) hx hb dX5_hungBoard_41 (by decide) ?_
        refine lv_aload_n hx hb dX5_hungBoard_42 rfl (lv_at hl 2 rfl) ?_
        refine va_get (D := G.1) (ci := 5) (v := .ref a_h) (C := RX5) (T := TX5) (N := 13) hx hb hts inG_X5 hown hK hP 0 rfl rfl 0 (by decide) (hts _ fl_X5_22) (fun _ h9 => h9) rfl dX5_hungBoard_43 ?_
        refine va_get (D := G.1) (ci := 1) (v := .ref a_p) (C := RX1) (T := TX1) (N := 13) hx hb hts inG_X1 hown hK hP 1 rfl rfl 9 (by decide) (hts _ fl_X5_98) (fun _ h9 => h9) rfl dX5_hungBoard_46 ?_
        refine lv_iload hx hb dX5_hungBoard_49 (lv_at hl 1 rfl) ?_
        refine lv_iconst (v := 0) hx hb dX5_hungBoard_51 (by decide) ?_
        obtain ⟨hPc, hDc, hFc⟩ := g5_sub3 (wc := [(a_p, (oc6 8 5 a_pn e_p)), (a_pn, (arI G 40 f_p))]) hP hD hS hA [2, 3] (by decide) rfl
        refine va_calli (va_runV (As := [.int k_s, .int 0]) (rest := [.long 1, .long k_x]) ⟨hx, hb, hml, hown, hts⟩ (t_get_P l G a_p a_pn H.size e_p k_s 0 f_p h_e_p) (cwV 2 hts gV_X5_107 rfl rfl rfl hv_X6_get ⟨Nat.le_of_ble_eq_true rfl, Nat.le_of_ble_eq_true rfl⟩) (g5_preV hPc hK hDc hN hT hS hFc (ci := 6) (q0 := 0) rfl rfl) rfl rfl hl.1 rfl (lv_room (Nat.le_of_ble_eq_true rfl)) dX5_hungBoard_52 ⟨Nat.le_of_ble_eq_true rfl, Nat.le_of_ble_eq_true rfl⟩) hS (fun q _ h => hFc q h) hFc (fun r u t H1 locs ht hvm hw hB hz1 hk1 hS => ?_)
        obtain ⟨hP1, hD1⟩ := hB
        rw [ht] at hP1
        obtain ⟨z9, i_8, y10, rfl⟩ := hw
        have i_8 : z9 = tget f_p e_p.toInt 5 k_s.toInt (0 : Int32).toInt := i_8
        obtain ⟨hP, hD⟩ := va_join (wr := [(a_k, (oc5 a_h a_j a_pt e_ln e_se e_lh e_br e_we e_me e_ce e_wy e_ho e_ov)), (a_h, (oc1 e_wa e_le e_st e_fo e_lc a_l a_g a_b a_s a_p a_w e_gb a_bb))]) hP hD [2, 3] [0, 1] rfl rfl (by decide) (by decide) hk1 hFc hP1 hD1
        generalize H1 = H at hP hS ⊢
        refine g5_rs [(a_k, (oc5 a_h a_j a_pt e_ln e_se e_lh e_br e_we e_me e_ce e_wy e_ho e_ov)), (a_h, (oc1 e_wa e_le e_st e_fo e_lc a_l a_g a_b a_s a_p a_w e_gb a_bb)), (a_p, (oc6 8 5 a_pn e_p)), (a_pn, (arI G 40 f_p))] hP hD (fun hP hD => ?_)
        refine g5_ti (v := z9) y10 ?_
        refine lv_lshl (v := ((1 : Int64) <<< (z9.toInt64 &&& 63))) hx hb dX5_hungBoard_55 rfl ?_
        refine lv_lor hx hb dX5_hungBoard_56 ?_
        refine lv_lstore_n (lv' := [(2, .long (k_x ||| ((1 : Int64) <<< (z9.toInt64 &&& 63)))), (4, .int k_s), (0, .ref a_k), (1, .int p_h)]) hx hb dX5_hungBoard_57 rfl hl (by decide) rfl (fun ls hl => ?_)
        refine lv_iinc (v := (k_s + 1)) (lv' := [(4, .int (k_s + 1)), (2, .long (k_x ||| ((1 : Int64) <<< (z9.toInt64 &&& 63)))), (0, .ref a_k), (1, .int p_h)]) hx hb dX5_hungBoard_58 hl (k := 1) rfl rfl (by decide) rfl (fun ls hl => ?_)
        have t_11 : (k_s + 1).toInt = k_s.toInt + 1 := g5_iadd (a := k_s.toInt) (b := 1) rfl (by decide) (by omega) (by omega)
        refine lv_goto (tgt := 5) hx hb dX5_hungBoard_61 (by decide) ?_
        exact ih_5_4 ((k_s + 1), (k_x ||| ((1 : Int64) <<< (z9.toInt64 &&& 63)))) ls H locs (show Int.toNat (8 - (k_s + 1).toInt) < Int.toNat (8 - k_s.toInt) from g_up (show k_s.toInt < (k_s + 1).toInt by omega) (show k_s.toInt < 8 by omega)) ⟨lv_sub hl [1, 0, 2, 3] rfl, hP, hD, hS, ⟨by omega, by omega⟩, by omega, inT_or i_3 i_8 (by omega) (by rw [i_8]; exact e_pc _ (by omega) (by omega))⟩
      ·
        have i_7 : ((p_h >>> (k_s &&& 31)) &&& 1).toInt = 0 := by have z := g5_neN (a := ((p_h >>> (k_s &&& 31)) &&& 1).toInt) (b := 0) (by rfl) (by decide) c_7; omega
        refine lv_lconst (v := 0) hx hb dX5_hungBoard_37 (by decide) ?_
        refine lv_goto (tgt := 56) hx hb dX5_hungBoard_38 (by decide) ?_
        refine lv_lor hx hb dX5_hungBoard_56 ?_
        refine g5_tl (v := k_x) (by simp) ?_
        refine lv_lstore_n (lv' := [(2, .long k_x), (4, .int k_s), (0, .ref a_k), (1, .int p_h)]) hx hb dX5_hungBoard_57 rfl hl (by decide) rfl (fun ls hl => ?_)
        refine lv_iinc (v := (k_s + 1)) (lv' := [(4, .int (k_s + 1)), (2, .long k_x), (0, .ref a_k), (1, .int p_h)]) hx hb dX5_hungBoard_58 hl (k := 1) rfl rfl (by decide) rfl (fun ls hl => ?_)
        have t_12 : (k_s + 1).toInt = k_s.toInt + 1 := g5_iadd (a := k_s.toInt) (b := 1) rfl (by decide) (by omega) (by omega)
        refine lv_goto (tgt := 5) hx hb dX5_hungBoard_61 (by decide) ?_
        exact ih_5_4 ((k_s + 1), k_x) ls H locs (show Int.toNat (8 - (k_s + 1).toInt) < Int.toNat (8 - k_s.toInt) from g_up (show k_s.toInt < (k_s + 1).toInt by omega) (show k_s.toInt < 8 by omega)) ⟨lv_sub hl [1, 0, 2, 3] rfl, hP, hD, hS, ⟨by omega, by omega⟩, by omega, i_3⟩
theorem dgX5_ask_0 : ∀ r ∈ ([(0, (.aload_n 0, 1)), (1, (.getfield 12, 3)), (4, (.getfield 110, 3)), (7, (.astore_n 3, 1)), (8, (.aload_n 3, 1)), (9, (.iconst 0, 1)), (10, (.iload_n 1, 1)), (11, (.iastore, 1)), (12, (.aload_n 3, 1)), (13, (.iconst 1, 1)), (14, (.aload_n 0, 1)), (15, (.getfield 26, 3)), (18, (.bipush 7, 2)), (20, (.iand, 1)), (21, (.iastore, 1)), (22, (.aload_n 3, 1)), (23, (.iconst 2, 1)), (24, (.aload_n 0, 1)), (25, (.getfield 26, 3)), (28, (.iconst 3, 1)), (29, (.ishr, 1)), (30, (.iastore, 1)), (31, (.aload_n 3, 1)), (32, (.iconst 3, 1)), (33, (.aload_n 0, 1)), (34, (.getfield 33, 3)), (37, (.iastore, 1)), (38, (.aload_n 3, 1)), (39, (.iconst 4, 1)), (40, (.aload_n 0, 1)), (41, (.getfield 30, 3)), (44, (.iastore, 1)), (45, (.aload_n 3, 1)), (46, (.iconst 5, 1)), (47, (.iload_n 2, 1)), (48, (.iastore, 1)), (49, (.aload_n 3, 1)), (50, (.bipush 6, 2)), (52, (.aload_n 0, 1)), (53, (.getfield 36, 3))] : List (Nat × (Instr × Nat))), decode cX5_ask r.1 = .ok r.2 := by decide +kernel
theorem dX5_ask_0 : decode cX5_ask 0 = .ok (.aload_n 0, 1) := dgX5_ask_0 (0, (.aload_n 0, 1)) (List.mem_of_getElem? (i := 0) rfl)
theorem dX5_ask_1 : decode cX5_ask 1 = .ok (.getfield 12, 3) := dgX5_ask_0 (1, (.getfield 12, 3)) (List.mem_of_getElem? (i := 1) rfl)
theorem dX5_ask_4 : decode cX5_ask 4 = .ok (.getfield 110, 3) := dgX5_ask_0 (4, (.getfield 110, 3)) (List.mem_of_getElem? (i := 2) rfl)
theorem dX5_ask_7 : decode cX5_ask 7 = .ok (.astore_n 3, 1) := dgX5_ask_0 (7, (.astore_n 3, 1)) (List.mem_of_getElem? (i := 3) rfl)
theorem dX5_ask_8 : decode cX5_ask 8 = .ok (.aload_n 3, 1) := dgX5_ask_0 (8, (.aload_n 3, 1)) (List.mem_of_getElem? (i := 4) rfl)
theorem dX5_ask_9 : decode cX5_ask 9 = .ok (.iconst 0, 1) := dgX5_ask_0 (9, (.iconst 0, 1)) (List.mem_of_getElem? (i := 5) rfl)
theorem dX5_ask_10 : decode cX5_ask 10 = .ok (.iload_n 1, 1) := dgX5_ask_0 (10, (.iload_n 1, 1)) (List.mem_of_getElem? (i := 6) rfl)
theorem dX5_ask_11 : decode cX5_ask 11 = .ok (.iastore, 1) := dgX5_ask_0 (11, (.iastore, 1)) (List.mem_of_getElem? (i := 7) rfl)
theorem dX5_ask_12 : decode cX5_ask 12 = .ok (.aload_n 3, 1) := dgX5_ask_0 (12, (.aload_n 3, 1)) (List.mem_of_getElem? (i := 8) rfl)
theorem dX5_ask_13 : decode cX5_ask 13 = .ok (.iconst 1, 1) := dgX5_ask_0 (13, (.iconst 1, 1)) (List.mem_of_getElem? (i := 9) rfl)
theorem dX5_ask_14 : decode cX5_ask 14 = .ok (.aload_n 0, 1) := dgX5_ask_0 (14, (.aload_n 0, 1)) (List.mem_of_getElem? (i := 10) rfl)
theorem dX5_ask_15 : decode cX5_ask 15 = .ok (.getfield 26, 3) := dgX5_ask_0 (15, (.getfield 26, 3)) (List.mem_of_getElem? (i := 11) rfl)
theorem dX5_ask_18 : decode cX5_ask 18 = .ok (.bipush 7, 2) := dgX5_ask_0 (18, (.bipush 7, 2)) (List.mem_of_getElem? (i := 12) rfl)
theorem dX5_ask_20 : decode cX5_ask 20 = .ok (.iand, 1) := dgX5_ask_0 (20, (.iand, 1)) (List.mem_of_getElem? (i := 13) rfl)
theorem dX5_ask_21 : decode cX5_ask 21 = .ok (.iastore, 1) := dgX5_ask_0 (21, (.iastore, 1)) (List.mem_of_getElem? (i := 14) rfl)
theorem dX5_ask_22 : decode cX5_ask 22 = .ok (.aload_n 3, 1) := dgX5_ask_0 (22, (.aload_n 3, 1)) (List.mem_of_getElem? (i := 15) rfl)
theorem dX5_ask_23 : decode cX5_ask 23 = .ok (.iconst 2, 1) := dgX5_ask_0 (23, (.iconst 2, 1)) (List.mem_of_getElem? (i := 16) rfl)
theorem dX5_ask_24 : decode cX5_ask 24 = .ok (.aload_n 0, 1) := dgX5_ask_0 (24, (.aload_n 0, 1)) (List.mem_of_getElem? (i := 17) rfl)
theorem dX5_ask_25 : decode cX5_ask 25 = .ok (.getfield 26, 3) := dgX5_ask_0 (25, (.getfield 26, 3)) (List.mem_of_getElem? (i := 18) rfl)
theorem dX5_ask_28 : decode cX5_ask 28 = .ok (.iconst 3, 1) := dgX5_ask_0 (28, (.iconst 3, 1)) (List.mem_of_getElem? (i := 19) rfl)
theorem dX5_ask_29 : decode cX5_ask 29 = .ok (.ishr, 1) := dgX5_ask_0 (29, (.ishr, 1)) (List.mem_of_getElem? (i := 20) rfl)
theorem dX5_ask_30 : decode cX5_ask 30 = .ok (.iastore, 1) := dgX5_ask_0 (30, (.iastore, 1)) (List.mem_of_getElem? (i := 21) rfl)
theorem dX5_ask_31 : decode cX5_ask 31 = .ok (.aload_n 3, 1) := dgX5_ask_0 (31, (.aload_n 3, 1)) (List.mem_of_getElem? (i := 22) rfl)
theorem dX5_ask_32 : decode cX5_ask 32 = .ok (.iconst 3, 1) := dgX5_ask_0 (32, (.iconst 3, 1)) (List.mem_of_getElem? (i := 23) rfl)
theorem dX5_ask_33 : decode cX5_ask 33 = .ok (.aload_n 0, 1) := dgX5_ask_0 (33, (.aload_n 0, 1)) (List.mem_of_getElem? (i := 24) rfl)
theorem dX5_ask_34 : decode cX5_ask 34 = .ok (.getfield 33, 3) := dgX5_ask_0 (34, (.getfield 33, 3)) (List.mem_of_getElem? (i := 25) rfl)
theorem dX5_ask_37 : decode cX5_ask 37 = .ok (.iastore, 1) := dgX5_ask_0 (37, (.iastore, 1)) (List.mem_of_getElem? (i := 26) rfl)
theorem dX5_ask_38 : decode cX5_ask 38 = .ok (.aload_n 3, 1) := dgX5_ask_0 (38, (.aload_n 3, 1)) (List.mem_of_getElem? (i := 27) rfl)
theorem dX5_ask_39 : decode cX5_ask 39 = .ok (.iconst 4, 1) := dgX5_ask_0 (39, (.iconst 4, 1)) (List.mem_of_getElem? (i := 28) rfl)
theorem dX5_ask_40 : decode cX5_ask 40 = .ok (.aload_n 0, 1) := dgX5_ask_0 (40, (.aload_n 0, 1)) (List.mem_of_getElem? (i := 29) rfl)
theorem dX5_ask_41 : decode cX5_ask 41 = .ok (.getfield 30, 3) := dgX5_ask_0 (41, (.getfield 30, 3)) (List.mem_of_getElem? (i := 30) rfl)
theorem dX5_ask_44 : decode cX5_ask 44 = .ok (.iastore, 1) := dgX5_ask_0 (44, (.iastore, 1)) (List.mem_of_getElem? (i := 31) rfl)
theorem dX5_ask_45 : decode cX5_ask 45 = .ok (.aload_n 3, 1) := dgX5_ask_0 (45, (.aload_n 3, 1)) (List.mem_of_getElem? (i := 32) rfl)
theorem dX5_ask_46 : decode cX5_ask 46 = .ok (.iconst 5, 1) := dgX5_ask_0 (46, (.iconst 5, 1)) (List.mem_of_getElem? (i := 33) rfl)
theorem dX5_ask_47 : decode cX5_ask 47 = .ok (.iload_n 2, 1) := dgX5_ask_0 (47, (.iload_n 2, 1)) (List.mem_of_getElem? (i := 34) rfl)
theorem dX5_ask_48 : decode cX5_ask 48 = .ok (.iastore, 1) := dgX5_ask_0 (48, (.iastore, 1)) (List.mem_of_getElem? (i := 35) rfl)
theorem dX5_ask_49 : decode cX5_ask 49 = .ok (.aload_n 3, 1) := dgX5_ask_0 (49, (.aload_n 3, 1)) (List.mem_of_getElem? (i := 36) rfl)
theorem dX5_ask_50 : decode cX5_ask 50 = .ok (.bipush 6, 2) := dgX5_ask_0 (50, (.bipush 6, 2)) (List.mem_of_getElem? (i := 37) rfl)
theorem dX5_ask_52 : decode cX5_ask 52 = .ok (.aload_n 0, 1) := dgX5_ask_0 (52, (.aload_n 0, 1)) (List.mem_of_getElem? (i := 38) rfl)
theorem dX5_ask_53 : decode cX5_ask 53 = .ok (.getfield 36, 3) := dgX5_ask_0 (53, (.getfield 36, 3)) (List.mem_of_getElem? (i := 39) rfl)
theorem dgX5_ask_1 : ∀ r ∈ ([(56, (.iastore, 1)), (57, (.aload_n 3, 1)), (58, (.bipush 7, 2)), (60, (.aload_n 0, 1)), (61, (.getfield 46, 3)), (64, (.sipush 1000, 3)), (67, (.idiv, 1)), (68, (.iastore, 1)), (69, (.return_, 1))] : List (Nat × (Instr × Nat))), decode cX5_ask r.1 = .ok r.2 := by decide +kernel
theorem dX5_ask_56 : decode cX5_ask 56 = .ok (.iastore, 1) := dgX5_ask_1 (56, (.iastore, 1)) (List.mem_of_getElem? (i := 0) rfl)
theorem dX5_ask_57 : decode cX5_ask 57 = .ok (.aload_n 3, 1) := dgX5_ask_1 (57, (.aload_n 3, 1)) (List.mem_of_getElem? (i := 1) rfl)
theorem dX5_ask_58 : decode cX5_ask 58 = .ok (.bipush 7, 2) := dgX5_ask_1 (58, (.bipush 7, 2)) (List.mem_of_getElem? (i := 2) rfl)
theorem dX5_ask_60 : decode cX5_ask 60 = .ok (.aload_n 0, 1) := dgX5_ask_1 (60, (.aload_n 0, 1)) (List.mem_of_getElem? (i := 3) rfl)
theorem dX5_ask_61 : decode cX5_ask 61 = .ok (.getfield 46, 3) := dgX5_ask_1 (61, (.getfield 46, 3)) (List.mem_of_getElem? (i := 4) rfl)
theorem dX5_ask_64 : decode cX5_ask 64 = .ok (.sipush 1000, 3) := dgX5_ask_1 (64, (.sipush 1000, 3)) (List.mem_of_getElem? (i := 5) rfl)
theorem dX5_ask_67 : decode cX5_ask 67 = .ok (.idiv, 1) := dgX5_ask_1 (67, (.idiv, 1)) (List.mem_of_getElem? (i := 6) rfl)
theorem dX5_ask_68 : decode cX5_ask 68 = .ok (.iastore, 1) := dgX5_ask_1 (68, (.iastore, 1)) (List.mem_of_getElem? (i := 7) rfl)
theorem dX5_ask_69 : decode cX5_ask 69 = .ok (.return_, 1) := dgX5_ask_1 (69, (.return_, 1)) (List.mem_of_getElem? (i := 8) rfl)
theorem fl_X5_12 : Cond.fieldLink RX5 12 "LateGlass$Look" "judge" "LLateGlass$Judge;" ∈ tblG := tg 244 (by decide +kernel) (by decide +kernel)
theorem fl_X5_110 : Cond.fieldLink RX5 110 "LateGlass$Judge" "asked" "[I" ∈ tblG := tg 235 (by decide +kernel) (by decide +kernel)
theorem fl_X5_26 : Cond.fieldLink RX5 26 "LateGlass$Look" "cell" "I" ∈ tblG := tg 263 (by decide +kernel) (by decide +kernel)
theorem fl_X5_33 : Cond.fieldLink RX5 33 "LateGlass$Look" "hour" "I" ∈ tblG := tg 265 (by decide +kernel) (by decide +kernel)
theorem fl_X5_30 : Cond.fieldLink RX5 30 "LateGlass$Look" "way" "I" ∈ tblG := tg 264 (by decide +kernel) (by decide +kernel)
theorem fl_X5_36 : Cond.fieldLink RX5 36 "LateGlass$Look" "length" "I" ∈ tblG := tg 249 (by decide +kernel) (by decide +kernel)
theorem fl_X5_46 : Cond.fieldLink RX5 46 "LateGlass$Look" "bright" "I" ∈ tblG := tg 257 (by decide +kernel) (by decide +kernel)
set_option maxHeartbeats 4000000 in
set_option maxRecDepth 100000 in
theorem k_ask (l : Launch) (G : g5_G) (a_k a_j a_as a_h a_pt a_sk : Nat) (sz : Nat) (e_ln : Int32) (e_se : Int32) (e_lh : Int32) (e_br : Int32) (e_we : Int32) (e_me : Int32) (e_ce : Int32) (e_wy : Int32) (e_ho : Int32) (e_ov : Int32) (p_g : Int32) (p_b : Int32) (f_as : Nat → Int32) (h_e_br : 0 ≤ e_br.toInt ∧ e_br.toInt ≤ 1000000) (h_e_ce : 0 ≤ e_ce.toInt ∧ e_ce.toInt ≤ 63) (h_e_wy : 0 ≤ e_wy.toInt ∧ e_wy.toInt ≤ 3) (h_e_ho : 0 ≤ e_ho.toInt ∧ e_ho.toInt ≤ 23) (h_e_ov : 0 ≤ e_ov.toInt ∧ e_ov.toInt ≤ 1) : Met l yX5_ask (wsG yX5_ask cX5_ask 4 none) ({ frames := 0, cells := 0, slots := 0, locals := 0 }) (va_Pc [.ref a_k, .int p_g, .int p_b] (g5_P G [(a_k, (oc5 a_h a_j a_pt e_ln e_se e_lh e_br e_we e_me e_ce e_wy e_ho e_ov)), (a_j, (oc2 a_as a_sk)), (a_as, (arI G 8 f_as))] sz)) (va_Qv (fun (u : va_W) => (∃ (o_a : Nat → Int32), (u = [(a_k, (oc5 a_h a_j a_pt e_ln e_se e_lh e_br e_we e_me e_ce e_wy e_ho e_ov)), (a_j, (oc2 a_as a_sk)), (a_as, (arI G 8 o_a))]))) (g5_B G (va_A [(a_k, (oc5 a_h a_j a_pt e_ln e_se e_lh e_br e_we e_me e_ce e_wy e_ho e_ov)), (a_j, (oc2 a_as a_sk)), (a_as, (arI G 8 f_as))] sz)) (va_A [(a_k, (oc5 a_h a_j a_pt e_ln e_se e_lh e_br e_we e_me e_ce e_wy e_ho e_ov)), (a_j, (oc2 a_as a_sk)), (a_as, (arI G 8 f_as))] sz)) 0 0 (va_A [(a_k, (oc5 a_h a_j a_pt e_ln e_se e_lh e_br e_we e_me e_ce e_wy e_ho e_ov)), (a_j, (oc2 a_as a_sk)), (a_as, (arI G 8 f_as))] sz) := by
  refine Met.ofW (cc := cX5_ask) (maxL := 4) (ret := none) (by decide) rfl ?_
  intro p e s m args below meth c s₁ B hml hv
  obtain ⟨rfl, hsz, hP, hK, hD0, hN, hT⟩ := hv
  have hx := B.exec
  have hb := B.bytes
  have hr := B.returns
  have hts : ∀ w ∈ tblG, w.before _ s = true := fun w h => atoms_spec (ws := (wsG yX5_ask cX5_ask 4 none)) B.pre w (List.mem_cons_of_mem _ h)
  have hown : s.vm.findClass RX5 = some m.cls := findClass_of_methodNamed B.named
  have hlocks := B.notSynchronized
  subst hsz
  have hD := hD0.self (sz := s.heap.size)
  generalize hAe : va_A [(a_k, (oc5 a_h a_j a_pt e_ln e_se e_lh e_br e_we e_me e_ce e_wy e_ho e_ov)), (a_j, (oc2 a_as a_sk)), (a_as, (arI G 8 f_as))] s.heap.size = A at hD hT ⊢
  have hA : ∀ q : Nat, s.heap.size ≤ q → A q := fun q h => by rw [← hAe]; exact Or.inr h
  have hS : va_S A s.heap s.heap [] := va_S.rf
  have hP : va_P G.1 vwCl [(a_k, (oc5 a_h a_j a_pt e_ln e_se e_lh e_br e_we e_me e_ce e_wy e_ho e_ov)), (a_j, (oc2 a_as a_sk)), (a_as, (arI G 8 f_as))] s.heap := hP
  have hl := lv_entry ([.ref a_k, .int p_g, .int p_b]) (n := 4) (Nat.le_of_ble_eq_true rfl)
  rw [lg_entry_eq]
  generalize (lg_sl ([.ref a_k, .int p_g, .int p_b]) ++ List.replicate (4 - (lg_sl ([.ref a_k, .int p_g, .int p_b])).length) Slot.unset).toArray = ls at hl ⊢
  have hl : lv_has ls 4 [(0, .ref a_k), (1, .int p_g), (2, .int p_b)] := hl
  refine lv_aload_n hx hb dX5_ask_0 rfl (lv_at hl 0 rfl) ?_
  refine va_get (D := G.1) (ci := 5) (v := .ref a_j) (C := RX5) (T := TX5) (N := 13) hx hb hts inG_X5 hown hK hP 0 rfl rfl 1 (by decide) (hts _ fl_X5_12) (fun _ h9 => h9) rfl dX5_ask_1 ?_
  refine va_get (D := G.1) (ci := 2) (v := .ref a_as) (C := RX2) (T := TX2) (N := 2) hx hb hts inG_X2 hown hK hP 1 rfl rfl 0 (by decide) (hts _ fl_X5_110) (fun _ h9 => h9) rfl dX5_ask_4 ?_
  refine lv_astore_n (lv' := [(3, .ref a_as), (0, .ref a_k), (1, .int p_g), (2, .int p_b)]) hx hb dX5_ask_7 rfl hl (by decide) rfl (fun ls hl => ?_)
  refine lv_aload_n hx hb dX5_ask_8 rfl (lv_at hl 0 rfl) ?_
  refine lv_iconst (v := 0) hx hb dX5_ask_9 (by decide) ?_
  refine lv_iload_n hx hb dX5_ask_10 rfl (lv_at hl 2 rfl) ?_
  refine va_iast hx hb hK hP hD hS 2 0 rfl rfl (i := 0) (x := p_g) (by unfold vp_in; decide) dX5_ask_11 (fun H locs hP hD hS => ?_)
  refine g5_rs [(a_k, (oc5 a_h a_j a_pt e_ln e_se e_lh e_br e_we e_me e_ce e_wy e_ho e_ov)), (a_j, (oc2 a_as a_sk)), (a_as, (arI G 8 (upd f_as 0 p_g)))] hP hD (fun hP hD => ?_)
  refine lv_aload_n hx hb dX5_ask_12 rfl (lv_at hl 0 rfl) ?_
  refine lv_iconst (v := 1) hx hb dX5_ask_13 (by decide) ?_
  refine lv_aload_n hx hb dX5_ask_14 rfl (lv_at hl 1 rfl) ?_
  refine va_get (D := G.1) (ci := 5) (v := .int e_ce) (C := RX5) (T := TX5) (N := 13) hx hb hts inG_X5 hown hK hP 0 rfl rfl 9 (by decide) (hts _ fl_X5_26) (fun _ h9 => h9) rfl dX5_ask_15 ?_
  refine lv_bipush (v := 7) hx hb dX5_ask_18 (by decide) ?_
  refine lv_iand hx hb dX5_ask_20 ?_
  have t_1 : (e_ce &&& 7).toInt = e_ce.toInt % 8 := g5_and7 (a := e_ce.toInt) rfl (by omega)
  refine va_iast hx hb hK hP hD hS 2 0 rfl rfl (i := 1) (x := (e_ce &&& 7)) (by unfold vp_in; decide) dX5_ask_21 (fun H locs hP hD hS => ?_)
  refine g5_rs [(a_k, (oc5 a_h a_j a_pt e_ln e_se e_lh e_br e_we e_me e_ce e_wy e_ho e_ov)), (a_j, (oc2 a_as a_sk)), (a_as, (arI G 8 (upd (upd f_as 0 p_g) 1 (e_ce &&& 7))))] hP hD (fun hP hD => ?_)
  refine lv_aload_n hx hb dX5_ask_22 rfl (lv_at hl 0 rfl) ?_
  refine lv_iconst (v := 2) hx hb dX5_ask_23 (by decide) ?_
  refine lv_aload_n hx hb dX5_ask_24 rfl (lv_at hl 1 rfl) ?_
  refine va_get (D := G.1) (ci := 5) (v := .int e_ce) (C := RX5) (T := TX5) (N := 13) hx hb hts inG_X5 hown hK hP 0 rfl rfl 9 (by decide) (hts _ fl_X5_26) (fun _ h9 => h9) rfl dX5_ask_25 ?_
  refine lv_iconst (v := 3) hx hb dX5_ask_28 (by decide) ?_
  refine lv_ishr hx hb dX5_ask_29 ?_
  refine va_iast hx hb hK hP hD hS 2 0 rfl rfl (i := 2) (x := (e_ce >>> (3 &&& 31))) (by unfold vp_in; decide) dX5_ask_30 (fun H locs hP hD hS => ?_)
  refine g5_rs [(a_k, (oc5 a_h a_j a_pt e_ln e_se e_lh e_br e_we e_me e_ce e_wy e_ho e_ov)), (a_j, (oc2 a_as a_sk)), (a_as, (arI G 8 (upd (upd (upd f_as 0 p_g) 1 (e_ce &&& 7)) 2 (e_ce >>> (3 &&& 31)))))] hP hD (fun hP hD => ?_)
  refine lv_aload_n hx hb dX5_ask_31 rfl (lv_at hl 0 rfl) ?_
  refine lv_iconst (v := 3) hx hb dX5_ask_32 (by decide) ?_
  refine lv_aload_n hx hb dX5_ask_33 rfl (lv_at hl 1 rfl) ?_
  refine va_get (D := G.1) (ci := 5) (v := .int e_ho) (C := RX5) (T := TX5) (N := 13) hx hb hts inG_X5 hown hK hP 0 rfl rfl 11 (by decide) (hts _ fl_X5_33) (fun _ h9 => h9) rfl dX5_ask_34 ?_
  refine va_iast hx hb hK hP hD hS 2 0 rfl rfl (i := 3) (x := e_ho) (by unfold vp_in; decide) dX5_ask_37 (fun H locs hP hD hS => ?_)
  refine g5_rs [(a_k, (oc5 a_h a_j a_pt e_ln e_se e_lh e_br e_we e_me e_ce e_wy e_ho e_ov)), (a_j, (oc2 a_as a_sk)), (a_as, (arI G 8 (upd (upd (upd (upd f_as 0 p_g) 1 (e_ce &&& 7)) 2 (e_ce >>> (3 &&& 31))) 3 e_ho)))] hP hD (fun hP hD => ?_)
  refine lv_aload_n hx hb dX5_ask_38 rfl (lv_at hl 0 rfl) ?_
  refine lv_iconst (v := 4) hx hb dX5_ask_39 (by decide) ?_
  refine lv_aload_n hx hb dX5_ask_40 rfl (lv_at hl 1 rfl) ?_
  refine va_get (D := G.1) (ci := 5) (v := .int e_wy) (C := RX5) (T := TX5) (N := 13) hx hb hts inG_X5 hown hK hP 0 rfl rfl 10 (by decide) (hts _ fl_X5_30) (fun _ h9 => h9) rfl dX5_ask_41 ?_
  refine va_iast hx hb hK hP hD hS 2 0 rfl rfl (i := 4) (x := e_wy) (by unfold vp_in; decide) dX5_ask_44 (fun H locs hP hD hS => ?_)
  refine g5_rs [(a_k, (oc5 a_h a_j a_pt e_ln e_se e_lh e_br e_we e_me e_ce e_wy e_ho e_ov)), (a_j, (oc2 a_as a_sk)), (a_as, (arI G 8 (upd (upd (upd (upd (upd f_as 0 p_g) 1 (e_ce &&& 7)) 2 (e_ce >>> (3 &&& 31))) 3 e_ho) 4 e_wy)))] hP hD (fun hP hD => ?_)
  refine lv_aload_n hx hb dX5_ask_45 rfl (lv_at hl 0 rfl) ?_
  refine lv_iconst (v := 5) hx hb dX5_ask_46 (by decide) ?_
  refine lv_iload_n hx hb dX5_ask_47 rfl (lv_at hl 3 rfl) ?_
  refine va_iast hx hb hK hP hD hS 2 0 rfl rfl (i := 5) (x := p_b) (by unfold vp_in; decide) dX5_ask_48 (fun H locs hP hD hS => ?_)
  refine g5_rs [(a_k, (oc5 a_h a_j a_pt e_ln e_se e_lh e_br e_we e_me e_ce e_wy e_ho e_ov)), (a_j, (oc2 a_as a_sk)), (a_as, (arI G 8 (upd (upd (upd (upd (upd (upd f_as 0 p_g) 1 (e_ce &&& 7)) 2 (e_ce >>> (3 &&& 31))) 3 e_ho) 4 e_wy) 5 p_b)))] hP hD (fun hP hD => ?_)
  refine lv_aload_n hx hb dX5_ask_49 rfl (lv_at hl 0 rfl) ?_
  refine lv_bipush (v := 6) hx hb dX5_ask_50 (by decide) ?_
  refine lv_aload_n hx hb dX5_ask_52 rfl (lv_at hl 1 rfl) ?_
  refine va_get (D := G.1) (ci := 5) (v := .int e_ln) (C := RX5) (T := TX5) (N := 13) hx hb hts inG_X5 hown hK hP 0 rfl rfl 3 (by decide) (hts _ fl_X5_36) (fun _ h9 => h9) rfl dX5_ask_53 ?_
  refine va_iast hx hb hK hP hD hS 2 0 rfl rfl (i := 6) (x := e_ln) (by unfold vp_in; decide) dX5_ask_56 (fun H locs hP hD hS => ?_)
  refine g5_rs [(a_k, (oc5 a_h a_j a_pt e_ln e_se e_lh e_br e_we e_me e_ce e_wy e_ho e_ov)), (a_j, (oc2 a_as a_sk)), (a_as, (arI G 8 (upd (upd (upd (upd (upd (upd (upd f_as 0 p_g) 1 (e_ce &&& 7)) 2 (e_ce >>> (3 &&& 31))) 3 e_ho) 4 e_wy) 5 p_b) 6 e_ln)))] hP hD (fun hP hD => ?_)
  refine lv_aload_n hx hb dX5_ask_57 rfl (lv_at hl 0 rfl) ?_
  refine lv_bipush (v := 7) hx hb dX5_ask_58 (by decide) ?_
  refine lv_aload_n hx hb dX5_ask_60 rfl (lv_at hl 1 rfl) ?_
  refine va_get (D := G.1) (ci := 5) (v := .int e_br) (C := RX5) (T := TX5) (N := 13) hx hb hts inG_X5 hown hK hP 0 rfl rfl 6 (by decide) (hts _ fl_X5_46) (fun _ h9 => h9) rfl dX5_ask_61 ?_
  refine lv_sipush (v := 1000) hx hb dX5_ask_64 (by decide) ?_
  refine lv_idiv hx hb dX5_ask_67 (by decide) ?_
  have t_2 : (e_br / 1000).toInt = e_br.toInt / 1000 := g5_idiv (a := e_br.toInt) (b := 1000) rfl (by decide) (by omega) (by decide)
  refine va_iast hx hb hK hP hD hS 2 0 rfl rfl (i := 7) (x := (e_br / 1000)) (by unfold vp_in; decide) dX5_ask_68 (fun H locs hP hD hS => ?_)
  refine g5_rs [(a_k, (oc5 a_h a_j a_pt e_ln e_se e_lh e_br e_we e_me e_ce e_wy e_ho e_ov)), (a_j, (oc2 a_as a_sk)), (a_as, (arI G 8 (upd (upd (upd (upd (upd (upd (upd (upd f_as 0 p_g) 1 (e_ce &&& 7)) 2 (e_ce >>> (3 &&& 31))) 3 e_ho) 4 e_wy) 5 p_b) 6 e_ln) 7 (e_br / 1000))))] hP hD (fun hP hD => ?_)
  exact W.vret hx hb hr (fun t ht hW => ⟨⟨[(a_k, (oc5 a_h a_j a_pt e_ln e_se e_lh e_br e_we e_me e_ce e_wy e_ho e_ov)), (a_j, (oc2 a_as a_sk)), (a_as, (arI G 8 (upd (upd (upd (upd (upd (upd (upd (upd f_as 0 p_g) 1 (e_ce &&& 7)) 2 (e_ce >>> (3 &&& 31))) 3 e_ho) 4 e_wy) 5 p_b) 6 e_ln) 7 (e_br / 1000))))], rfl, ⟨(upd (upd (upd (upd (upd (upd (upd (upd f_as 0 p_g) 1 (e_ce &&& 7)) 2 (e_ce >>> (3 &&& 31))) 3 e_ho) 4 e_wy) 5 p_b) 6 e_ln) 7 (e_br / 1000)), rfl⟩, by rw [ht]; exact hP.sub [0, 1, 2] rfl, hD.sub [0, 1, 2] (by decide) rfl⟩, hS.F ht⟩) hS.2.2 dX5_ask_69
theorem dgX5_meetBodies_0 : ∀ r ∈ ([(0, (.aload_n 0, 1)), (1, (.getfield 22, 3)), (4, (.invokevirtual 113, 3)), (7, (.astore_n 1, 1)), (8, (.iconst 0, 1)), (9, (.istore_n 2, 1)), (10, (.iload_n 2, 1)), (11, (.aload_n 0, 1)), (12, (.getfield 22, 3)), (15, (.getfield 117, 3)), (18, (.getfield 102, 3)), (21, (.if_icmp .ge 60, 3)), (24, (.aload_n 0, 1)), (25, (.getfield 22, 3)), (28, (.getfield 117, 3)), (31, (.iload_n 2, 1)), (32, (.aload_n 0, 1)), (33, (.getfield 33, 3)), (36, (.invokevirtual 107, 3)), (39, (.aload_n 0, 1)), (40, (.getfield 26, 3)), (43, (.if_icmp .ne 32, 3)), (46, (.aload_n 0, 1)), (47, (.iconst (-1), 1)), (48, (.iload_n 2, 1)), (49, (.invokevirtual 120, 3)), (52, (.aload_n 0, 1)), (53, (.getfield 12, 3)), (56, (.aload_n 1, 1)), (57, (.iconst 3, 1)), (58, (.invokevirtual 124, 3)), (61, (.ifCond .ne 14, 3)), (64, (.aload_n 0, 1)), (65, (.iload_n 2, 1)), (66, (.putfield 39, 3)), (69, (.aload_n 0, 1)), (70, (.iconst 1, 1)), (71, (.putfield 56, 3)), (74, (.return_, 1)), (75, (.iinc 2 1, 3))] : List (Nat × (Instr × Nat))), decode cX5_meetBodies r.1 = .ok r.2 := by decide +kernel
theorem dX5_meetBodies_0 : decode cX5_meetBodies 0 = .ok (.aload_n 0, 1) := dgX5_meetBodies_0 (0, (.aload_n 0, 1)) (List.mem_of_getElem? (i := 0) rfl)
theorem dX5_meetBodies_1 : decode cX5_meetBodies 1 = .ok (.getfield 22, 3) := dgX5_meetBodies_0 (1, (.getfield 22, 3)) (List.mem_of_getElem? (i := 1) rfl)
theorem dX5_meetBodies_4 : decode cX5_meetBodies 4 = .ok (.invokevirtual 113, 3) := dgX5_meetBodies_0 (4, (.invokevirtual 113, 3)) (List.mem_of_getElem? (i := 2) rfl)
theorem dX5_meetBodies_7 : decode cX5_meetBodies 7 = .ok (.astore_n 1, 1) := dgX5_meetBodies_0 (7, (.astore_n 1, 1)) (List.mem_of_getElem? (i := 3) rfl)
theorem dX5_meetBodies_8 : decode cX5_meetBodies 8 = .ok (.iconst 0, 1) := dgX5_meetBodies_0 (8, (.iconst 0, 1)) (List.mem_of_getElem? (i := 4) rfl)
theorem dX5_meetBodies_9 : decode cX5_meetBodies 9 = .ok (.istore_n 2, 1) := dgX5_meetBodies_0 (9, (.istore_n 2, 1)) (List.mem_of_getElem? (i := 5) rfl)
theorem dX5_meetBodies_10 : decode cX5_meetBodies 10 = .ok (.iload_n 2, 1) := dgX5_meetBodies_0 (10, (.iload_n 2, 1)) (List.mem_of_getElem? (i := 6) rfl)
theorem dX5_meetBodies_11 : decode cX5_meetBodies 11 = .ok (.aload_n 0, 1) := dgX5_meetBodies_0 (11, (.aload_n 0, 1)) (List.mem_of_getElem? (i := 7) rfl)
theorem dX5_meetBodies_12 : decode cX5_meetBodies 12 = .ok (.getfield 22, 3) := dgX5_meetBodies_0 (12, (.getfield 22, 3)) (List.mem_of_getElem? (i := 8) rfl)
theorem dX5_meetBodies_15 : decode cX5_meetBodies 15 = .ok (.getfield 117, 3) := dgX5_meetBodies_0 (15, (.getfield 117, 3)) (List.mem_of_getElem? (i := 9) rfl)
theorem dX5_meetBodies_18 : decode cX5_meetBodies 18 = .ok (.getfield 102, 3) := dgX5_meetBodies_0 (18, (.getfield 102, 3)) (List.mem_of_getElem? (i := 10) rfl)
theorem dX5_meetBodies_21 : decode cX5_meetBodies 21 = .ok (.if_icmp .ge 60, 3) := dgX5_meetBodies_0 (21, (.if_icmp .ge 60, 3)) (List.mem_of_getElem? (i := 11) rfl)
theorem dX5_meetBodies_24 : decode cX5_meetBodies 24 = .ok (.aload_n 0, 1) := dgX5_meetBodies_0 (24, (.aload_n 0, 1)) (List.mem_of_getElem? (i := 12) rfl)
theorem dX5_meetBodies_25 : decode cX5_meetBodies 25 = .ok (.getfield 22, 3) := dgX5_meetBodies_0 (25, (.getfield 22, 3)) (List.mem_of_getElem? (i := 13) rfl)
theorem dX5_meetBodies_28 : decode cX5_meetBodies 28 = .ok (.getfield 117, 3) := dgX5_meetBodies_0 (28, (.getfield 117, 3)) (List.mem_of_getElem? (i := 14) rfl)
theorem dX5_meetBodies_31 : decode cX5_meetBodies 31 = .ok (.iload_n 2, 1) := dgX5_meetBodies_0 (31, (.iload_n 2, 1)) (List.mem_of_getElem? (i := 15) rfl)
theorem dX5_meetBodies_32 : decode cX5_meetBodies 32 = .ok (.aload_n 0, 1) := dgX5_meetBodies_0 (32, (.aload_n 0, 1)) (List.mem_of_getElem? (i := 16) rfl)
theorem dX5_meetBodies_33 : decode cX5_meetBodies 33 = .ok (.getfield 33, 3) := dgX5_meetBodies_0 (33, (.getfield 33, 3)) (List.mem_of_getElem? (i := 17) rfl)
theorem dX5_meetBodies_36 : decode cX5_meetBodies 36 = .ok (.invokevirtual 107, 3) := dgX5_meetBodies_0 (36, (.invokevirtual 107, 3)) (List.mem_of_getElem? (i := 18) rfl)
theorem dX5_meetBodies_39 : decode cX5_meetBodies 39 = .ok (.aload_n 0, 1) := dgX5_meetBodies_0 (39, (.aload_n 0, 1)) (List.mem_of_getElem? (i := 19) rfl)
theorem dX5_meetBodies_40 : decode cX5_meetBodies 40 = .ok (.getfield 26, 3) := dgX5_meetBodies_0 (40, (.getfield 26, 3)) (List.mem_of_getElem? (i := 20) rfl)
theorem dX5_meetBodies_43 : decode cX5_meetBodies 43 = .ok (.if_icmp .ne 32, 3) := dgX5_meetBodies_0 (43, (.if_icmp .ne 32, 3)) (List.mem_of_getElem? (i := 21) rfl)
theorem dX5_meetBodies_46 : decode cX5_meetBodies 46 = .ok (.aload_n 0, 1) := dgX5_meetBodies_0 (46, (.aload_n 0, 1)) (List.mem_of_getElem? (i := 22) rfl)
theorem dX5_meetBodies_47 : decode cX5_meetBodies 47 = .ok (.iconst (-1), 1) := dgX5_meetBodies_0 (47, (.iconst (-1), 1)) (List.mem_of_getElem? (i := 23) rfl)
theorem dX5_meetBodies_48 : decode cX5_meetBodies 48 = .ok (.iload_n 2, 1) := dgX5_meetBodies_0 (48, (.iload_n 2, 1)) (List.mem_of_getElem? (i := 24) rfl)
theorem dX5_meetBodies_49 : decode cX5_meetBodies 49 = .ok (.invokevirtual 120, 3) := dgX5_meetBodies_0 (49, (.invokevirtual 120, 3)) (List.mem_of_getElem? (i := 25) rfl)
theorem dX5_meetBodies_52 : decode cX5_meetBodies 52 = .ok (.aload_n 0, 1) := dgX5_meetBodies_0 (52, (.aload_n 0, 1)) (List.mem_of_getElem? (i := 26) rfl)
theorem dX5_meetBodies_53 : decode cX5_meetBodies 53 = .ok (.getfield 12, 3) := dgX5_meetBodies_0 (53, (.getfield 12, 3)) (List.mem_of_getElem? (i := 27) rfl)
theorem dX5_meetBodies_56 : decode cX5_meetBodies 56 = .ok (.aload_n 1, 1) := dgX5_meetBodies_0 (56, (.aload_n 1, 1)) (List.mem_of_getElem? (i := 28) rfl)
theorem dX5_meetBodies_57 : decode cX5_meetBodies 57 = .ok (.iconst 3, 1) := dgX5_meetBodies_0 (57, (.iconst 3, 1)) (List.mem_of_getElem? (i := 29) rfl)
theorem dX5_meetBodies_58 : decode cX5_meetBodies 58 = .ok (.invokevirtual 124, 3) := dgX5_meetBodies_0 (58, (.invokevirtual 124, 3)) (List.mem_of_getElem? (i := 30) rfl)
theorem dX5_meetBodies_61 : decode cX5_meetBodies 61 = .ok (.ifCond .ne 14, 3) := dgX5_meetBodies_0 (61, (.ifCond .ne 14, 3)) (List.mem_of_getElem? (i := 31) rfl)
theorem dX5_meetBodies_64 : decode cX5_meetBodies 64 = .ok (.aload_n 0, 1) := dgX5_meetBodies_0 (64, (.aload_n 0, 1)) (List.mem_of_getElem? (i := 32) rfl)
theorem dX5_meetBodies_65 : decode cX5_meetBodies 65 = .ok (.iload_n 2, 1) := dgX5_meetBodies_0 (65, (.iload_n 2, 1)) (List.mem_of_getElem? (i := 33) rfl)
theorem dX5_meetBodies_66 : decode cX5_meetBodies 66 = .ok (.putfield 39, 3) := dgX5_meetBodies_0 (66, (.putfield 39, 3)) (List.mem_of_getElem? (i := 34) rfl)
theorem dX5_meetBodies_69 : decode cX5_meetBodies 69 = .ok (.aload_n 0, 1) := dgX5_meetBodies_0 (69, (.aload_n 0, 1)) (List.mem_of_getElem? (i := 35) rfl)
theorem dX5_meetBodies_70 : decode cX5_meetBodies 70 = .ok (.iconst 1, 1) := dgX5_meetBodies_0 (70, (.iconst 1, 1)) (List.mem_of_getElem? (i := 36) rfl)
theorem dX5_meetBodies_71 : decode cX5_meetBodies 71 = .ok (.putfield 56, 3) := dgX5_meetBodies_0 (71, (.putfield 56, 3)) (List.mem_of_getElem? (i := 37) rfl)
theorem dX5_meetBodies_74 : decode cX5_meetBodies 74 = .ok (.return_, 1) := dgX5_meetBodies_0 (74, (.return_, 1)) (List.mem_of_getElem? (i := 38) rfl)
theorem dX5_meetBodies_75 : decode cX5_meetBodies 75 = .ok (.iinc 2 1, 3) := dgX5_meetBodies_0 (75, (.iinc 2 1, 3)) (List.mem_of_getElem? (i := 39) rfl)
theorem dgX5_meetBodies_1 : ∀ r ∈ ([(78, (.goto (-68), 3)), (81, (.return_, 1))] : List (Nat × (Instr × Nat))), decode cX5_meetBodies r.1 = .ok r.2 := by decide +kernel
theorem dX5_meetBodies_78 : decode cX5_meetBodies 78 = .ok (.goto (-68), 3) := dgX5_meetBodies_1 (78, (.goto (-68), 3)) (List.mem_of_getElem? (i := 0) rfl)
theorem dX5_meetBodies_81 : decode cX5_meetBodies 81 = .ok (.return_, 1) := dgX5_meetBodies_1 (81, (.return_, 1)) (List.mem_of_getElem? (i := 1) rfl)
theorem ml_X5_113 : Cond.methodLink RX5 113 yX1_lawInForce ∈ tblG := tg 830 (by decide +kernel) (by decide +kernel)
theorem im_X1_lawInForce : Cond.instanceMethod yX1_lawInForce ∈ tblG := tg 831 (by decide +kernel) (by decide +kernel)
theorem se_X1_lawInForce : Cond.selects RX1 yX1_lawInForce yX1_lawInForce ∈ tblG := tg 832 (by decide +kernel) (by decide +kernel)
theorem ini_X1 : Cond.initialized RX1 ∈ tblG := tg 89 (by decide +kernel) (by decide +kernel)
theorem cd_X1_lawInForce : Cond.code yX1_lawInForce cX1_lawInForce 1 (some (.object "LateGlass$Law")) ∈ tblG := tg 833 (by decide +kernel) (by decide +kernel)
theorem gW_X1_lawInForce : GoodIn tblG (wsG yX1_lawInForce cX1_lawInForce 1 (some (.object "LateGlass$Law"))) := tgi cd_X1_lawInForce
theorem gV_X5_113 : GoodIn tblG (wsV RX5 113 RX1 yX1_lawInForce (wsG yX1_lawInForce cX1_lawInForce 1 (some (.object "LateGlass$Law")))) := tgV ml_X5_113 im_X1_lawInForce se_X1_lawInForce ini_X1 gW_X1_lawInForce
theorem hv_X1_lawInForce : yX1_lawInForce.cls = RX1 ∧ yX1_lawInForce.cls ≠ "java/lang/invoke/MethodHandle" ∧ yX1_lawInForce.cls ≠ "java/lang/invoke/VarHandle" ∧ (parseMethodDescriptor yX1_lawInForce.desc).map (fun d => d.parameters.length) = some 0 := by decide +kernel
theorem fl_X5_117 : Cond.fieldLink RX5 117 "LateGlass$House" "bodies" "LLateGlass$Table;" ∈ tblG := tg 177 (by decide +kernel) (by decide +kernel)
theorem ml_X5_120 : Cond.methodLink RX5 120 yX5_ask ∈ tblG := tg 834 (by decide +kernel) (by decide +kernel)
theorem im_X5_ask : Cond.instanceMethod yX5_ask ∈ tblG := tg 836 (by decide +kernel) (by decide +kernel)
theorem se_X5_ask : Cond.selects RX5 yX5_ask yX5_ask ∈ tblG := tg 15 (by decide +kernel) (by decide +kernel)
theorem ini_X5 : Cond.initialized RX5 ∈ tblG := tg 91 (by decide +kernel) (by decide +kernel)
theorem cd_X5_ask : Cond.code yX5_ask cX5_ask 4 none ∈ tblG := tg 837 (by decide +kernel) (by decide +kernel)
theorem gW_X5_ask : GoodIn tblG (wsG yX5_ask cX5_ask 4 none) := tgi cd_X5_ask
theorem gV_X5_120 : GoodIn tblG (wsV RX5 120 RX5 yX5_ask (wsG yX5_ask cX5_ask 4 none)) := tgV ml_X5_120 im_X5_ask se_X5_ask ini_X5 gW_X5_ask
theorem hv_X5_ask : yX5_ask.cls = RX5 ∧ yX5_ask.cls ≠ "java/lang/invoke/MethodHandle" ∧ yX5_ask.cls ≠ "java/lang/invoke/VarHandle" ∧ (parseMethodDescriptor yX5_ask.desc).map (fun d => d.parameters.length) = some 2 := by decide +kernel
theorem ml_X5_124 : Cond.methodLink RX5 124 yX2_isHeld ∈ tblG := tg 838 (by decide +kernel) (by decide +kernel)
theorem im_X2_isHeld : Cond.instanceMethod yX2_isHeld ∈ tblG := tg 839 (by decide +kernel) (by decide +kernel)
theorem se_X2_isHeld : Cond.selects RX2 yX2_isHeld yX2_isHeld ∈ tblG := tg 840 (by decide +kernel) (by decide +kernel)
theorem cd_X2_isHeld : Cond.code yX2_isHeld cX2_isHeld 4 (some .boolean) ∈ tblG := tg 841 (by decide +kernel) (by decide +kernel)
theorem gW_X2_isHeld : GoodIn tblG (wsG yX2_isHeld cX2_isHeld 4 (some .boolean)) := tgi cd_X2_isHeld
theorem gV_X5_124 : GoodIn tblG (wsV RX5 124 RX2 yX2_isHeld (wsG yX2_isHeld cX2_isHeld 4 (some .boolean))) := tgV ml_X5_124 im_X2_isHeld se_X2_isHeld ini_X2 gW_X2_isHeld
theorem hv_X2_isHeld : yX2_isHeld.cls = RX2 ∧ yX2_isHeld.cls ≠ "java/lang/invoke/MethodHandle" ∧ yX2_isHeld.cls ≠ "java/lang/invoke/VarHandle" ∧ (parseMethodDescriptor yX2_isHeld.desc).map (fun d => d.parameters.length) = some 2 := by decide +kernel
theorem fl_X5_39 : Cond.fieldLink RX5 39 "LateGlass$Look" "seen" "I" ∈ tblG := tg 253 (by decide +kernel) (by decide +kernel)
theorem fl_X5_56 : Cond.fieldLink RX5 56 "LateGlass$Look" "isOver" "Z" ∈ tblG := tg 266 (by decide +kernel) (by decide +kernel)
set_option maxHeartbeats 4000000 in
set_option maxRecDepth 100000 in
theorem k_meetBodiesN (l : Launch) (G : g5_G) (a_k a_h a_b a_bn a_j a_as a_sk a_l a_pt a_g a_s a_p a_w a_bb : Nat) (sz : Nat) (e_ln : Int32) (e_se : Int32) (e_lh : Int32) (e_br : Int32) (e_we : Int32) (e_me : Int32) (e_ce : Int32) (e_wy : Int32) (e_ho : Int32) (e_ov : Int32) (e_le : Int32) (e_st : Int32) (e_fo : Int32) (e_lc : Int32) (e_b : Int32) (e_wa : Int64) (e_gb : Int64) (f_b : Nat → Int32) (f_as : Nat → Int32) (f_sk : Nat → Int64) (f_l : Nat → Option Nat) (h_e_br : 0 ≤ e_br.toInt ∧ e_br.toInt ≤ 1000000) (h_e_ce : 0 ≤ e_ce.toInt ∧ e_ce.toInt ≤ 63) (h_e_wy : 0 ≤ e_wy.toInt ∧ e_wy.toInt ≤ 3) (h_e_ho : 0 ≤ e_ho.toInt ∧ e_ho.toInt ≤ 23) (h_e_ov : 0 ≤ e_ov.toInt ∧ e_ov.toInt ≤ 1) (h_e_b : 0 ≤ e_b.toInt ∧ e_b.toInt ≤ 5) (e_f : e_fo.toInt < 0 ∨ e_lc.toInt ≤ e_fo.toInt) : Met l yX5_meetBodies (wsG yX5_meetBodies cX5_meetBodies 3 none) ({ frames := 1, cells := 0, slots := 0, locals := 23 }) (va_Pc [.ref a_k] (g5_P G [(a_k, (oc5 a_h a_j a_pt e_ln e_se e_lh e_br e_we e_me e_ce e_wy e_ho e_ov)), (a_h, (oc1 e_wa e_le e_st e_fo e_lc a_l a_g a_b a_s a_p a_w e_gb a_bb)), (a_b, (oc6 5 24 a_bn e_b)), (a_bn, (arI G 120 f_b)), (a_j, (oc2 a_as a_sk)), (a_as, (arI G 8 f_as)), (a_sk, (arJ G 50 f_sk)), (a_l, (arW G 6 f_l))] sz)) (va_Qv (fun (u : va_W) => (∃ (o_s : Int32) (o_v : Int32) (o_a : Nat → Int32) (o_k : Nat → Int64), (0 ≤ o_v.toInt ∧ o_v.toInt ≤ 1) ∧ (u = [(a_k, (oc5 a_h a_j a_pt e_ln o_s e_lh e_br e_we e_me e_ce e_wy e_ho o_v)), (a_h, (oc1 e_wa e_le e_st e_fo e_lc a_l a_g a_b a_s a_p a_w e_gb a_bb)), (a_b, (oc6 5 24 a_bn e_b)), (a_bn, (arI G 120 f_b)), (a_j, (oc2 a_as a_sk)), (a_as, (arI G 8 o_a)), (a_sk, (arJ G 50 o_k)), (a_l, (arW G 6 f_l))]))) (g5_B G (va_A [(a_k, (oc5 a_h a_j a_pt e_ln e_se e_lh e_br e_we e_me e_ce e_wy e_ho e_ov)), (a_h, (oc1 e_wa e_le e_st e_fo e_lc a_l a_g a_b a_s a_p a_w e_gb a_bb)), (a_b, (oc6 5 24 a_bn e_b)), (a_bn, (arI G 120 f_b)), (a_j, (oc2 a_as a_sk)), (a_as, (arI G 8 f_as)), (a_sk, (arJ G 50 f_sk)), (a_l, (arW G 6 f_l))] sz)) (va_A [(a_k, (oc5 a_h a_j a_pt e_ln e_se e_lh e_br e_we e_me e_ce e_wy e_ho e_ov)), (a_h, (oc1 e_wa e_le e_st e_fo e_lc a_l a_g a_b a_s a_p a_w e_gb a_bb)), (a_b, (oc6 5 24 a_bn e_b)), (a_bn, (arI G 120 f_b)), (a_j, (oc2 a_as a_sk)), (a_as, (arI G 8 f_as)), (a_sk, (arJ G 50 f_sk)), (a_l, (arW G 6 f_l))] sz)) 0 0 (va_A [(a_k, (oc5 a_h a_j a_pt e_ln e_se e_lh e_br e_we e_me e_ce e_wy e_ho e_ov)), (a_h, (oc1 e_wa e_le e_st e_fo e_lc a_l a_g a_b a_s a_p a_w e_gb a_bb)), (a_b, (oc6 5 24 a_bn e_b)), (a_bn, (arI G 120 f_b)), (a_j, (oc2 a_as a_sk)), (a_as, (arI G 8 f_as)), (a_sk, (arJ G 50 f_sk)), (a_l, (arW G 6 f_l))] sz) := by
  refine Met.ofW (cc := cX5_meetBodies) (maxL := 3) (ret := none) (by decide) rfl ?_
  intro p e s m args below meth c s₁ B hml hv
  obtain ⟨rfl, hsz, hP, hK, hD0, hN, hT⟩ := hv
  have hx := B.exec
  have hb := B.bytes
  have hr := B.returns
  have hts : ∀ w ∈ tblG, w.before _ s = true := fun w h => atoms_spec (ws := (wsG yX5_meetBodies cX5_meetBodies 3 none)) B.pre w (List.mem_cons_of_mem _ h)
  have hown : s.vm.findClass RX5 = some m.cls := findClass_of_methodNamed B.named
  have hlocks := B.notSynchronized
  subst hsz
  have hD := hD0.self (sz := s.heap.size)
  generalize hAe : va_A [(a_k, (oc5 a_h a_j a_pt e_ln e_se e_lh e_br e_we e_me e_ce e_wy e_ho e_ov)), (a_h, (oc1 e_wa e_le e_st e_fo e_lc a_l a_g a_b a_s a_p a_w e_gb a_bb)), (a_b, (oc6 5 24 a_bn e_b)), (a_bn, (arI G 120 f_b)), (a_j, (oc2 a_as a_sk)), (a_as, (arI G 8 f_as)), (a_sk, (arJ G 50 f_sk)), (a_l, (arW G 6 f_l))] s.heap.size = A at hD hT ⊢
  have hA : ∀ q : Nat, s.heap.size ≤ q → A q := fun q h => by rw [← hAe]; exact Or.inr h
  have hS : va_S A s.heap s.heap [] := va_S.rf
  have hP : va_P G.1 vwCl [(a_k, (oc5 a_h a_j a_pt e_ln e_se e_lh e_br e_we e_me e_ce e_wy e_ho e_ov)), (a_h, (oc1 e_wa e_le e_st e_fo e_lc a_l a_g a_b a_s a_p a_w e_gb a_bb)), (a_b, (oc6 5 24 a_bn e_b)), (a_bn, (arI G 120 f_b)), (a_j, (oc2 a_as a_sk)), (a_as, (arI G 8 f_as)), (a_sk, (arJ G 50 f_sk)), (a_l, (arW G 6 f_l))] s.heap := hP
  have hl := lv_entry ([.ref a_k]) (n := 3) (Nat.le_of_ble_eq_true rfl)
  rw [lg_entry_eq]
  generalize (lg_sl ([.ref a_k]) ++ List.replicate (3 - (lg_sl ([.ref a_k])).length) Slot.unset).toArray = ls at hl ⊢
  have hl : lv_has ls 3 [(0, .ref a_k)] := hl
  refine lv_aload_n hx hb dX5_meetBodies_0 rfl (lv_at hl 0 rfl) ?_
  refine va_get (D := G.1) (ci := 5) (v := .ref a_h) (C := RX5) (T := TX5) (N := 13) hx hb hts inG_X5 hown hK hP 0 rfl rfl 0 (by decide) (hts _ fl_X5_22) (fun _ h9 => h9) rfl dX5_meetBodies_1 ?_
  obtain ⟨hPc, hDc, hFc⟩ := g5_sub3 (wc := [(a_h, (oc1 e_wa e_le e_st e_fo e_lc a_l a_g a_b a_s a_p a_w e_gb a_bb)), (a_l, (arW G 6 f_l))]) hP hD hS hA [1, 7] (by decide) rfl
  refine va_callq (va_runV (As := []) (rest := []) ⟨hx, hb, hml, hown, hts⟩ (h_lawN l G a_h a_l a_g a_b a_s a_p a_w a_bb s.heap.size e_le e_st e_fo e_lc e_wa e_gb f_l (e_f)) (cwV 0 hts gV_X5_113 rfl rfl rfl hv_X1_lawInForce ⟨Nat.le_of_ble_eq_true rfl, Nat.le_of_ble_eq_true rfl⟩) (g5_preV hPc hK hDc hN hT hS hFc (ci := 1) (q0 := 0) rfl rfl) rfl rfl hl.1 rfl (lv_room (Nat.le_of_ble_eq_true rfl)) dX5_meetBodies_4 ⟨Nat.le_of_ble_eq_true rfl, Nat.le_of_ble_eq_true rfl⟩) hS (fun q _ h => hFc q h) hFc (fun r u t H1 locs ht hvm hw hB hz1 hk1 hS => ?_)
  obtain ⟨hP1, hD1⟩ := hB
  rw [ht] at hP1
  obtain ⟨rfl, rfl⟩ := hw
  obtain ⟨hP, hD⟩ := va_join (wr := [(a_k, (oc5 a_h a_j a_pt e_ln e_se e_lh e_br e_we e_me e_ce e_wy e_ho e_ov)), (a_b, (oc6 5 24 a_bn e_b)), (a_bn, (arI G 120 f_b)), (a_j, (oc2 a_as a_sk)), (a_as, (arI G 8 f_as)), (a_sk, (arJ G 50 f_sk))]) hP hD [1, 7] [0, 2, 3, 4, 5, 6] rfl rfl (by decide) (by decide) hk1 hFc hP1 hD1
  generalize H1 = H at hP hS ⊢
  refine g5_rs [(a_k, (oc5 a_h a_j a_pt e_ln e_se e_lh e_br e_we e_me e_ce e_wy e_ho e_ov)), (a_b, (oc6 5 24 a_bn e_b)), (a_bn, (arI G 120 f_b)), (a_j, (oc2 a_as a_sk)), (a_as, (arI G 8 f_as)), (a_sk, (arJ G 50 f_sk)), (a_h, (oc1 e_wa e_le e_st e_fo e_lc a_l a_g a_b a_s a_p a_w e_gb a_bb)), (a_l, (arW G 6 f_l))] hP hD (fun hP hD => ?_)
  refine g5_tv (v := .null) rfl ?_
  refine lv_astore_nN (lv' := [(1, .null), (0, .ref a_k)]) hx hb dX5_meetBodies_7 rfl hl (by decide) rfl (fun ls hl => ?_)
  refine lv_iconst (v := 0) hx hb dX5_meetBodies_8 (by decide) ?_
  refine lv_istore_n (lv' := [(2, .int 0), (1, .null), (0, .ref a_k)]) hx hb dX5_meetBodies_9 rfl hl (by decide) rfl (fun ls hl => ?_)
  refine g5_loop (α := (Int32) × (Nat → Int32) × (Nat → Int64)) (fun (q : (Int32) × (Nat → Int32) × (Nat → Int64)) (ls : Array Slot) (H : Heap) (locs : List Loc) => match q with | (k_b, k_a, k_k) => lv_has ls 3 [(2, .int k_b), (1, .null), (0, .ref a_k)] ∧ va_P G.1 vwCl [(a_k, (oc5 a_h a_j a_pt e_ln e_se e_lh e_br e_we e_me e_ce e_wy e_ho e_ov)), (a_b, (oc6 5 24 a_bn e_b)), (a_bn, (arI G 120 f_b)), (a_j, (oc2 a_as a_sk)), (a_as, (arI G 8 k_a)), (a_sk, (arJ G 50 k_k)), (a_h, (oc1 e_wa e_le e_st e_fo e_lc a_l a_g a_b a_s a_p a_w e_gb a_bb)), (a_l, (arW G 6 f_l))] H ∧ va_D A [(a_k, (oc5 a_h a_j a_pt e_ln e_se e_lh e_br e_we e_me e_ce e_wy e_ho e_ov)), (a_b, (oc6 5 24 a_bn e_b)), (a_bn, (arI G 120 f_b)), (a_j, (oc2 a_as a_sk)), (a_as, (arI G 8 k_a)), (a_sk, (arJ G 50 k_k)), (a_h, (oc1 e_wa e_le e_st e_fo e_lc a_l a_g a_b a_s a_p a_w e_gb a_bb)), (a_l, (arW G 6 f_l))] ∧ va_S A s.heap H locs ∧ (0 ≤ k_b.toInt ∧ k_b.toInt ≤ 5)) (fun (q : (Int32) × (Nat → Int32) × (Nat → Int64)) => match q with | (k_b, k_a, k_k) => Int.toNat (5 - k_b.toInt)) (0, f_as, f_sk) ⟨lv_sub hl [0, 1, 2] rfl, hP, hD, hS, ⟨by decide, by decide⟩⟩ ?_
  rintro ⟨k_b, k_a, k_k⟩ ls H locs ⟨hl, hP, hD, hS, i_1⟩ ih_10_2
  have hl : lv_has ls 3 [(2, .int k_b), (1, .null), (0, .ref a_k)] := hl
  have i_1 : 0 ≤ k_b.toInt ∧ k_b.toInt ≤ 5 := i_1
  refine g5_rs [(a_k, (oc5 a_h a_j a_pt e_ln e_se e_lh e_br e_we e_me e_ce e_wy e_ho e_ov)), (a_b, (oc6 5 24 a_bn e_b)), (a_bn, (arI G 120 f_b)), (a_j, (oc2 a_as a_sk)), (a_as, (arI G 8 k_a)), (a_sk, (arJ G 50 k_k)), (a_h, (oc1 e_wa e_le e_st e_fo e_lc a_l a_g a_b a_s a_p a_w e_gb a_bb)), (a_l, (arW G 6 f_l))] hP hD (fun hP hD => ?_)
  refine lv_iload_n hx hb dX5_meetBodies_10 rfl (lv_at hl 0 rfl) ?_
  refine lv_aload_n hx hb dX5_meetBodies_11 rfl (lv_at hl 2 rfl) ?_
  refine va_get (D := G.1) (ci := 5) (v := .ref a_h) (C := RX5) (T := TX5) (N := 13) hx hb hts inG_X5 hown hK hP 0 rfl rfl 0 (by decide) (hts _ fl_X5_22) (fun _ h9 => h9) rfl dX5_meetBodies_12 ?_
  refine va_get (D := G.1) (ci := 1) (v := .ref a_b) (C := RX1) (T := TX1) (N := 13) hx hb hts inG_X1 hown hK hP 6 rfl rfl 7 (by decide) (hts _ fl_X5_117) (fun _ h9 => h9) rfl dX5_meetBodies_15 ?_
  refine va_get (D := G.1) (ci := 6) (v := .int e_b) (C := RX6) (T := TX6) (N := 4) hx hb hts inG_X6 hown hK hP 1 rfl rfl 3 (by decide) (hts _ fl_X5_102) (fun _ h9 => h9) rfl dX5_meetBodies_18 ?_
  refine lv_icmp_ge (tgt := 81) hx hb dX5_meetBodies_21 (by decide) (fun c_3 => ?_) (fun c_3 => ?_)
  ·
    have i_3 : k_b.toInt ≥ e_b.toInt := by have z := g5_ge (a := k_b.toInt) (b := e_b.toInt) (by rfl) (by rfl) c_3; omega
    exact W.vret hx hb hr (fun t ht hW => ⟨⟨[(a_k, (oc5 a_h a_j a_pt e_ln e_se e_lh e_br e_we e_me e_ce e_wy e_ho e_ov)), (a_h, (oc1 e_wa e_le e_st e_fo e_lc a_l a_g a_b a_s a_p a_w e_gb a_bb)), (a_b, (oc6 5 24 a_bn e_b)), (a_bn, (arI G 120 f_b)), (a_j, (oc2 a_as a_sk)), (a_as, (arI G 8 k_a)), (a_sk, (arJ G 50 k_k)), (a_l, (arW G 6 f_l))], rfl, ⟨e_se, e_ov, k_a, k_k, h_e_ov, rfl⟩, by rw [ht]; exact hP.sub [0, 6, 1, 2, 3, 4, 5, 7] rfl, hD.sub [0, 6, 1, 2, 3, 4, 5, 7] (by decide) rfl⟩, hS.F ht⟩) hS.2.2 dX5_meetBodies_81
  ·
    have i_3 : k_b.toInt < e_b.toInt := by have z := g5_geN (a := k_b.toInt) (b := e_b.toInt) (by rfl) (by rfl) c_3; omega
    refine lv_aload_n hx hb dX5_meetBodies_24 rfl (lv_at hl 2 rfl) ?_
    refine va_get (D := G.1) (ci := 5) (v := .ref a_h) (C := RX5) (T := TX5) (N := 13) hx hb hts inG_X5 hown hK hP 0 rfl rfl 0 (by decide) (hts _ fl_X5_22) (fun _ h9 => h9) rfl dX5_meetBodies_25 ?_
    refine va_get (D := G.1) (ci := 1) (v := .ref a_b) (C := RX1) (T := TX1) (N := 13) hx hb hts inG_X1 hown hK hP 6 rfl rfl 7 (by decide) (hts _ fl_X5_117) (fun _ h9 => h9) rfl dX5_meetBodies_28 ?_
    refine lv_iload_n hx hb dX5_meetBodies_31 rfl (lv_at hl 0 rfl) ?_
    refine lv_aload_n hx hb dX5_meetBodies_32 rfl (lv_at hl 2 rfl) ?_
    refine va_get (D := G.1) (ci := 5) (v := .int e_ho) (C := RX5) (T := TX5) (N := 13) hx hb hts inG_X5 hown hK hP 0 rfl rfl 11 (by decide) (hts _ fl_X5_33) (fun _ h9 => h9) rfl dX5_meetBodies_33 ?_
    obtain ⟨hPc, hDc, hFc⟩ := g5_sub3 (wc := [(a_b, (oc6 5 24 a_bn e_b)), (a_bn, (arI G 120 f_b))]) hP hD hS hA [1, 2] (by decide) rfl
    refine va_calli (va_runV (As := [.int k_b, .int e_ho]) (rest := []) ⟨hx, hb, hml, hown, hts⟩ (t_get_B l G a_b a_bn H.size e_b k_b e_ho f_b h_e_b) (cwV 2 hts gV_X5_107 rfl rfl rfl hv_X6_get ⟨Nat.le_of_ble_eq_true rfl, Nat.le_of_ble_eq_true rfl⟩) (g5_preV hPc hK hDc hN hT hS hFc (ci := 6) (q0 := 0) rfl rfl) rfl rfl hl.1 rfl (lv_room (Nat.le_of_ble_eq_true rfl)) dX5_meetBodies_36 ⟨Nat.le_of_ble_eq_true rfl, Nat.le_of_ble_eq_true rfl⟩) hS (fun q _ h => hFc q h) hFc (fun r u t H1 locs ht hvm hw hB hz1 hk1 hS => ?_)
    obtain ⟨hP1, hD1⟩ := hB
    rw [ht] at hP1
    obtain ⟨z5, i_4, y6, rfl⟩ := hw
    have i_4 : z5 = tget f_b e_b.toInt 24 k_b.toInt e_ho.toInt := i_4
    obtain ⟨hP, hD⟩ := va_join (wr := [(a_k, (oc5 a_h a_j a_pt e_ln e_se e_lh e_br e_we e_me e_ce e_wy e_ho e_ov)), (a_j, (oc2 a_as a_sk)), (a_as, (arI G 8 k_a)), (a_sk, (arJ G 50 k_k)), (a_h, (oc1 e_wa e_le e_st e_fo e_lc a_l a_g a_b a_s a_p a_w e_gb a_bb)), (a_l, (arW G 6 f_l))]) hP hD [1, 2] [0, 3, 4, 5, 6, 7] rfl rfl (by decide) (by decide) hk1 hFc hP1 hD1
    generalize H1 = H at hP hS ⊢
    refine g5_rs [(a_k, (oc5 a_h a_j a_pt e_ln e_se e_lh e_br e_we e_me e_ce e_wy e_ho e_ov)), (a_j, (oc2 a_as a_sk)), (a_as, (arI G 8 k_a)), (a_sk, (arJ G 50 k_k)), (a_h, (oc1 e_wa e_le e_st e_fo e_lc a_l a_g a_b a_s a_p a_w e_gb a_bb)), (a_l, (arW G 6 f_l)), (a_b, (oc6 5 24 a_bn e_b)), (a_bn, (arI G 120 f_b))] hP hD (fun hP hD => ?_)
    refine g5_ti (v := z5) y6 ?_
    refine lv_aload_n hx hb dX5_meetBodies_39 rfl (lv_at hl 2 rfl) ?_
    refine va_get (D := G.1) (ci := 5) (v := .int e_ce) (C := RX5) (T := TX5) (N := 13) hx hb hts inG_X5 hown hK hP 0 rfl rfl 9 (by decide) (hts _ fl_X5_26) (fun _ h9 => h9) rfl dX5_meetBodies_40 ?_
    refine lv_icmp_ne (tgt := 75) hx hb dX5_meetBodies_43 (by decide) (fun c_7 => ?_) (fun c_7 => ?_)
    ·
      have n_7 : gNe (z5.toInt) (e_ce.toInt) := by have z := g5_ne (a := z5.toInt) (b := e_ce.toInt) (by rfl) (by rfl) c_7; unfold gNe; omega
      refine lv_iinc (v := (k_b + 1)) (lv' := [(2, .int (k_b + 1)), (1, .null), (0, .ref a_k)]) hx hb dX5_meetBodies_75 hl (k := 0) rfl rfl (by decide) rfl (fun ls hl => ?_)
      have t_8 : (k_b + 1).toInt = k_b.toInt + 1 := g5_iadd (a := k_b.toInt) (b := 1) rfl (by decide) (by omega) (by omega)
      refine lv_goto (tgt := 10) hx hb dX5_meetBodies_78 (by decide) ?_
      exact ih_10_2 ((k_b + 1), k_a, k_k) ls H locs (show Int.toNat (5 - (k_b + 1).toInt) < Int.toNat (5 - k_b.toInt) from g_up (show k_b.toInt < (k_b + 1).toInt by omega) (show k_b.toInt < 5 by omega)) ⟨lv_sub hl [0, 1, 2] rfl, hP.sub [0, 6, 7, 1, 2, 3, 4, 5] rfl, hD.sub [0, 6, 7, 1, 2, 3, 4, 5] (by decide) rfl, hS, ⟨by omega, by omega⟩⟩
    ·
      have i_7 : z5.toInt = e_ce.toInt := by have z := g5_neN (a := z5.toInt) (b := e_ce.toInt) (by rfl) (by rfl) c_7; omega
      refine lv_aload_n hx hb dX5_meetBodies_46 rfl (lv_at hl 2 rfl) ?_
      refine lv_iconst (v := (-1)) hx hb dX5_meetBodies_47 (by decide) ?_
      refine lv_iload_n hx hb dX5_meetBodies_48 rfl (lv_at hl 0 rfl) ?_
      obtain ⟨hPc, hDc, hFc⟩ := g5_sub3 (wc := [(a_k, (oc5 a_h a_j a_pt e_ln e_se e_lh e_br e_we e_me e_ce e_wy e_ho e_ov)), (a_j, (oc2 a_as a_sk)), (a_as, (arI G 8 k_a))]) hP hD hS hA [0, 1, 2] (by decide) rfl
      refine va_callv (va_runV (As := [.int (-1), .int k_b]) (rest := []) ⟨hx, hb, hml, hown, hts⟩ (k_ask l G a_k a_j a_as a_h a_pt a_sk H.size e_ln e_se e_lh e_br e_we e_me e_ce e_wy e_ho e_ov (-1) k_b k_a h_e_br h_e_ce h_e_wy h_e_ho h_e_ov) (cwV 2 hts gV_X5_120 rfl rfl rfl hv_X5_ask ⟨Nat.le_of_ble_eq_true rfl, Nat.le_of_ble_eq_true rfl⟩) (g5_preV hPc hK hDc hN hT hS hFc (ci := 5) (q0 := 0) rfl rfl) rfl rfl hl.1 rfl (lv_room (Nat.le_of_ble_eq_true rfl)) dX5_meetBodies_49 ⟨Nat.le_of_ble_eq_true rfl, Nat.le_of_ble_eq_true rfl⟩) hS (fun q _ h => hFc q h) hFc (fun u t H1 locs ht hvm hw hB hz1 hk1 hS => ?_)
      obtain ⟨hP1, hD1⟩ := hB
      rw [ht] at hP1
      obtain ⟨z9, rfl⟩ := hw
      obtain ⟨hP, hD⟩ := va_join (wr := [(a_sk, (arJ G 50 k_k)), (a_h, (oc1 e_wa e_le e_st e_fo e_lc a_l a_g a_b a_s a_p a_w e_gb a_bb)), (a_l, (arW G 6 f_l)), (a_b, (oc6 5 24 a_bn e_b)), (a_bn, (arI G 120 f_b))]) hP hD [0, 1, 2] [3, 4, 5, 6, 7] rfl rfl (by decide) (by decide) hk1 hFc hP1 hD1
      generalize H1 = H at hP hS ⊢
      refine g5_rs [(a_sk, (arJ G 50 k_k)), (a_h, (oc1 e_wa e_le e_st e_fo e_lc a_l a_g a_b a_s a_p a_w e_gb a_bb)), (a_l, (arW G 6 f_l)), (a_b, (oc6 5 24 a_bn e_b)), (a_bn, (arI G 120 f_b)), (a_k, (oc5 a_h a_j a_pt e_ln e_se e_lh e_br e_we e_me e_ce e_wy e_ho e_ov)), (a_j, (oc2 a_as a_sk)), (a_as, (arI G 8 z9))] hP hD (fun hP hD => ?_)
      refine lv_aload_n hx hb dX5_meetBodies_52 rfl (lv_at hl 2 rfl) ?_
      refine va_get (D := G.1) (ci := 5) (v := .ref a_j) (C := RX5) (T := TX5) (N := 13) hx hb hts inG_X5 hown hK hP 5 rfl rfl 1 (by decide) (hts _ fl_X5_12) (fun _ h9 => h9) rfl dX5_meetBodies_53 ?_
      refine lv_aload_nN hx hb dX5_meetBodies_56 rfl (lv_at hl 1 rfl) ?_
      refine lv_iconst (v := 3) hx hb dX5_meetBodies_57 (by decide) ?_
      obtain ⟨hPc, hDc, hFc⟩ := g5_sub3 (wc := [(a_j, (oc2 a_as a_sk)), (a_as, (arI G 8 z9)), (a_sk, (arJ G 50 k_k))]) hP hD hS hA [6, 7, 0] (by decide) rfl
      refine va_calli (va_runV (As := [.null, .int 3]) (rest := []) ⟨hx, hb, hml, hown, hts⟩ (j_isHeldN l G a_j a_as a_sk H.size 3 z9 k_k) (cwV 2 hts gV_X5_124 rfl rfl rfl hv_X2_isHeld ⟨Nat.le_of_ble_eq_true rfl, Nat.le_of_ble_eq_true rfl⟩) (g5_preV hPc hK hDc hN hT hS hFc (ci := 2) (q0 := 0) rfl rfl) rfl rfl hl.1 rfl (lv_room (Nat.le_of_ble_eq_true rfl)) dX5_meetBodies_58 ⟨Nat.le_of_ble_eq_true rfl, Nat.le_of_ble_eq_true rfl⟩) hS (fun q _ h => hFc q h) hFc (fun r u t H1 locs ht hvm hw hB hz1 hk1 hS => ?_)
      obtain ⟨hP1, hD1⟩ := hB
      rw [ht] at hP1
      obtain ⟨rfl, rfl⟩ := hw
      obtain ⟨hP, hD⟩ := va_join (wr := [(a_h, (oc1 e_wa e_le e_st e_fo e_lc a_l a_g a_b a_s a_p a_w e_gb a_bb)), (a_l, (arW G 6 f_l)), (a_b, (oc6 5 24 a_bn e_b)), (a_bn, (arI G 120 f_b)), (a_k, (oc5 a_h a_j a_pt e_ln e_se e_lh e_br e_we e_me e_ce e_wy e_ho e_ov))]) hP hD [6, 7, 0] [1, 2, 3, 4, 5] rfl rfl (by decide) (by decide) hk1 hFc hP1 hD1
      generalize H1 = H at hP hS ⊢
      refine g5_rs [(a_h, (oc1 e_wa e_le e_st e_fo e_lc a_l a_g a_b a_s a_p a_w e_gb a_bb)), (a_l, (arW G 6 f_l)), (a_b, (oc6 5 24 a_bn e_b)), (a_bn, (arI G 120 f_b)), (a_k, (oc5 a_h a_j a_pt e_ln e_se e_lh e_br e_we e_me e_ce e_wy e_ho e_ov)), (a_j, (oc2 a_as a_sk)), (a_as, (arI G 8 z9)), (a_sk, (arJ G 50 k_k))] hP hD (fun hP hD => ?_)
      refine lv_if_ne (tgt := 75) hx hb dX5_meetBodies_61 (by decide) (fun c_10 => ?_) (fun c_10 => ?_)
      ·
        exact absurd c_10 (by decide)
      ·
        refine lv_aload_n hx hb dX5_meetBodies_64 rfl (lv_at hl 2 rfl) ?_
        refine lv_iload_n hx hb dX5_meetBodies_65 rfl (lv_at hl 0 rfl) ?_
        refine va_put (D := G.1) (ci := 5) (v := .int k_b) (ty := .int) (C := RX5) (T := TX5) (N := 13) hx hb hts inG_X5 tyX5 tyX5_ok nmX5 hown hK hP hD hS 4 rfl rfl 4 (by decide) (hts _ fl_X5_39) (fun _ h9 => h9) rfl (by decide +kernel) rfl rfl (Nat.le_of_ble_eq_true rfl) dX5_meetBodies_66 (fun H locs hP hD hS => ?_)
        refine g5_rs [(a_h, (oc1 e_wa e_le e_st e_fo e_lc a_l a_g a_b a_s a_p a_w e_gb a_bb)), (a_l, (arW G 6 f_l)), (a_b, (oc6 5 24 a_bn e_b)), (a_bn, (arI G 120 f_b)), (a_k, (oc5 a_h a_j a_pt e_ln k_b e_lh e_br e_we e_me e_ce e_wy e_ho e_ov)), (a_j, (oc2 a_as a_sk)), (a_as, (arI G 8 z9)), (a_sk, (arJ G 50 k_k))] hP hD (fun hP hD => ?_)
        refine lv_aload_n hx hb dX5_meetBodies_69 rfl (lv_at hl 2 rfl) ?_
        refine lv_iconst (v := 1) hx hb dX5_meetBodies_70 (by decide) ?_
        refine va_put (D := G.1) (ci := 5) (v := .int 1) (ty := .boolean) (C := RX5) (T := TX5) (N := 13) hx hb hts inG_X5 tyX5 tyX5_ok nmX5 hown hK hP hD hS 4 rfl rfl 12 (by decide) (hts _ fl_X5_56) (fun _ h9 => h9) rfl (by decide +kernel) rfl rfl (Nat.le_of_ble_eq_true rfl) dX5_meetBodies_71 (fun H locs hP hD hS => ?_)
        refine g5_rs [(a_h, (oc1 e_wa e_le e_st e_fo e_lc a_l a_g a_b a_s a_p a_w e_gb a_bb)), (a_l, (arW G 6 f_l)), (a_b, (oc6 5 24 a_bn e_b)), (a_bn, (arI G 120 f_b)), (a_k, (oc5 a_h a_j a_pt e_ln k_b e_lh e_br e_we e_me e_ce e_wy e_ho 1)), (a_j, (oc2 a_as a_sk)), (a_as, (arI G 8 z9)), (a_sk, (arJ G 50 k_k))] hP hD (fun hP hD => ?_)
        exact W.vret hx hb hr (fun t ht hW => ⟨⟨[(a_k, (oc5 a_h a_j a_pt e_ln k_b e_lh e_br e_we e_me e_ce e_wy e_ho 1)), (a_h, (oc1 e_wa e_le e_st e_fo e_lc a_l a_g a_b a_s a_p a_w e_gb a_bb)), (a_b, (oc6 5 24 a_bn e_b)), (a_bn, (arI G 120 f_b)), (a_j, (oc2 a_as a_sk)), (a_as, (arI G 8 z9)), (a_sk, (arJ G 50 k_k)), (a_l, (arW G 6 f_l))], rfl, ⟨k_b, 1, z9, k_k, ⟨by have zc_o_v : (1 : Int32).toInt = 1 := (by decide); omega, by have zc_o_v : (1 : Int32).toInt = 1 := (by decide); omega⟩, rfl⟩, by rw [ht]; exact hP.sub [4, 0, 2, 3, 5, 6, 7, 1] rfl, hD.sub [4, 0, 2, 3, 5, 6, 7, 1] (by decide) rfl⟩, hS.F ht⟩) hS.2.2 dX5_meetBodies_74
set_option maxHeartbeats 4000000 in
set_option maxRecDepth 100000 in
theorem k_meetBodiesL (l : Launch) (G : g5_G) (a_k a_h a_b a_bn a_j a_as a_sk a_l a_lo a_sr a_cd a_hd a_pt a_g a_s a_p a_w a_bb : Nat) (sz : Nat) (e_ln : Int32) (e_se : Int32) (e_lh : Int32) (e_br : Int32) (e_we : Int32) (e_me : Int32) (e_ce : Int32) (e_wy : Int32) (e_ho : Int32) (e_ov : Int32) (e_le : Int32) (e_st : Int32) (e_fo : Int32) (e_lc : Int32) (e_b : Int32) (e_cl : Int32) (e_wa : Int64) (e_gb : Int64) (f_b : Nat → Int32) (f_as : Nat → Int32) (f_sk : Nat → Int64) (f_l : Nat → Option Nat) (f_sr : Nat → Int32) (f_cd : Nat → Int32) (f_hd : Nat → Int32) (n_sr : Nat) (n_cd : Nat) (n_hd : Nat) (h_e_br : 0 ≤ e_br.toInt ∧ e_br.toInt ≤ 1000000) (h_e_ce : 0 ≤ e_ce.toInt ∧ e_ce.toInt ≤ 63) (h_e_wy : 0 ≤ e_wy.toInt ∧ e_wy.toInt ≤ 3) (h_e_ho : 0 ≤ e_ho.toInt ∧ e_ho.toInt ≤ 23) (h_e_ov : 0 ≤ e_ov.toInt ∧ e_ov.toInt ≤ 1) (h_e_b : 0 ≤ e_b.toInt ∧ e_b.toInt ≤ 5) (h_e_cl : 0 ≤ e_cl.toInt ∧ e_cl.toInt ≤ 12) (e_f : 0 ≤ e_fo.toInt ∧ e_fo.toInt < e_lc.toInt ∧ e_lc.toInt ≤ 6) (e_a : f_l e_fo.toNatClampNeg = some a_lo) (e_hn : n_cd ≤ 400) (e_hs : ∀ j : Nat, j < n_sr → 0 ≤ (f_sr j).toInt ∧ (f_sr j).toInt ≤ (n_cd : Int)) (e_hk : ∀ j : Nat, j < n_cd → (f_cd j >>> (12 &&& 31)).toInt = 1 → (f_cd j &&& 4095).toInt < 8) (e_c : (e_cl.toInt : Int) ≤ (n_hd : Int) ∧ (e_cl.toInt + 1 : Int) ≤ (n_sr : Int)) : Met l yX5_meetBodies (wsG yX5_meetBodies cX5_meetBodies 3 none) ({ frames := 3, cells := 0, slots := 0, locals := 78 }) (va_Pc [.ref a_k] (g5_P G [(a_k, (oc5 a_h a_j a_pt e_ln e_se e_lh e_br e_we e_me e_ce e_wy e_ho e_ov)), (a_h, (oc1 e_wa e_le e_st e_fo e_lc a_l a_g a_b a_s a_p a_w e_gb a_bb)), (a_b, (oc6 5 24 a_bn e_b)), (a_bn, (arI G 120 f_b)), (a_j, (oc2 a_as a_sk)), (a_as, (arI G 8 f_as)), (a_sk, (arJ G 50 f_sk)), (a_l, (arW G 6 f_l)), (a_lo, (oc3 e_cl a_hd a_sr a_cd)), (a_sr, (arI G n_sr f_sr)), (a_cd, (arI G n_cd f_cd)), (a_hd, (arI G n_hd f_hd))] sz)) (va_Qv (fun (u : va_W) => (∃ (o_s : Int32) (o_v : Int32) (o_a : Nat → Int32) (o_k : Nat → Int64), (0 ≤ o_v.toInt ∧ o_v.toInt ≤ 1) ∧ (u = [(a_k, (oc5 a_h a_j a_pt e_ln o_s e_lh e_br e_we e_me e_ce e_wy e_ho o_v)), (a_h, (oc1 e_wa e_le e_st e_fo e_lc a_l a_g a_b a_s a_p a_w e_gb a_bb)), (a_b, (oc6 5 24 a_bn e_b)), (a_bn, (arI G 120 f_b)), (a_j, (oc2 a_as a_sk)), (a_as, (arI G 8 o_a)), (a_sk, (arJ G 50 o_k)), (a_l, (arW G 6 f_l)), (a_lo, (oc3 e_cl a_hd a_sr a_cd)), (a_sr, (arI G n_sr f_sr)), (a_cd, (arI G n_cd f_cd)), (a_hd, (arI G n_hd f_hd))]))) (g5_B G (va_A [(a_k, (oc5 a_h a_j a_pt e_ln e_se e_lh e_br e_we e_me e_ce e_wy e_ho e_ov)), (a_h, (oc1 e_wa e_le e_st e_fo e_lc a_l a_g a_b a_s a_p a_w e_gb a_bb)), (a_b, (oc6 5 24 a_bn e_b)), (a_bn, (arI G 120 f_b)), (a_j, (oc2 a_as a_sk)), (a_as, (arI G 8 f_as)), (a_sk, (arJ G 50 f_sk)), (a_l, (arW G 6 f_l)), (a_lo, (oc3 e_cl a_hd a_sr a_cd)), (a_sr, (arI G n_sr f_sr)), (a_cd, (arI G n_cd f_cd)), (a_hd, (arI G n_hd f_hd))] sz)) (va_A [(a_k, (oc5 a_h a_j a_pt e_ln e_se e_lh e_br e_we e_me e_ce e_wy e_ho e_ov)), (a_h, (oc1 e_wa e_le e_st e_fo e_lc a_l a_g a_b a_s a_p a_w e_gb a_bb)), (a_b, (oc6 5 24 a_bn e_b)), (a_bn, (arI G 120 f_b)), (a_j, (oc2 a_as a_sk)), (a_as, (arI G 8 f_as)), (a_sk, (arJ G 50 f_sk)), (a_l, (arW G 6 f_l)), (a_lo, (oc3 e_cl a_hd a_sr a_cd)), (a_sr, (arI G n_sr f_sr)), (a_cd, (arI G n_cd f_cd)), (a_hd, (arI G n_hd f_hd))] sz)) 0 0 (va_A [(a_k, (oc5 a_h a_j a_pt e_ln e_se e_lh e_br e_we e_me e_ce e_wy e_ho e_ov)), (a_h, (oc1 e_wa e_le e_st e_fo e_lc a_l a_g a_b a_s a_p a_w e_gb a_bb)), (a_b, (oc6 5 24 a_bn e_b)), (a_bn, (arI G 120 f_b)), (a_j, (oc2 a_as a_sk)), (a_as, (arI G 8 f_as)), (a_sk, (arJ G 50 f_sk)), (a_l, (arW G 6 f_l)), (a_lo, (oc3 e_cl a_hd a_sr a_cd)), (a_sr, (arI G n_sr f_sr)), (a_cd, (arI G n_cd f_cd)), (a_hd, (arI G n_hd f_hd))] sz) := by
  refine Met.ofW (cc := cX5_meetBodies) (maxL := 3) (ret := none) (by decide) rfl ?_
  intro p e s m args below meth c s₁ B hml hv
  obtain ⟨rfl, hsz, hP, hK, hD0, hN, hT⟩ := hv
  have hx := B.exec
  have hb := B.bytes
  have hr := B.returns
  have hts : ∀ w ∈ tblG, w.before _ s = true := fun w h => atoms_spec (ws := (wsG yX5_meetBodies cX5_meetBodies 3 none)) B.pre w (List.mem_cons_of_mem _ h)
  have hown : s.vm.findClass RX5 = some m.cls := findClass_of_methodNamed B.named
  have hlocks := B.notSynchronized
  subst hsz
  have hD := hD0.self (sz := s.heap.size)
  generalize hAe : va_A [(a_k, (oc5 a_h a_j a_pt e_ln e_se e_lh e_br e_we e_me e_ce e_wy e_ho e_ov)), (a_h, (oc1 e_wa e_le e_st e_fo e_lc a_l a_g a_b a_s a_p a_w e_gb a_bb)), (a_b, (oc6 5 24 a_bn e_b)), (a_bn, (arI G 120 f_b)), (a_j, (oc2 a_as a_sk)), (a_as, (arI G 8 f_as)), (a_sk, (arJ G 50 f_sk)), (a_l, (arW G 6 f_l)), (a_lo, (oc3 e_cl a_hd a_sr a_cd)), (a_sr, (arI G n_sr f_sr)), (a_cd, (arI G n_cd f_cd)), (a_hd, (arI G n_hd f_hd))] s.heap.size = A at hD hT ⊢
  have hA : ∀ q : Nat, s.heap.size ≤ q → A q := fun q h => by rw [← hAe]; exact Or.inr h
  have hS : va_S A s.heap s.heap [] := va_S.rf
  have hP : va_P G.1 vwCl [(a_k, (oc5 a_h a_j a_pt e_ln e_se e_lh e_br e_we e_me e_ce e_wy e_ho e_ov)), (a_h, (oc1 e_wa e_le e_st e_fo e_lc a_l a_g a_b a_s a_p a_w e_gb a_bb)), (a_b, (oc6 5 24 a_bn e_b)), (a_bn, (arI G 120 f_b)), (a_j, (oc2 a_as a_sk)), (a_as, (arI G 8 f_as)), (a_sk, (arJ G 50 f_sk)), (a_l, (arW G 6 f_l)), (a_lo, (oc3 e_cl a_hd a_sr a_cd)), (a_sr, (arI G n_sr f_sr)), (a_cd, (arI G n_cd f_cd)), (a_hd, (arI G n_hd f_hd))] s.heap := hP
  have hl := lv_entry ([.ref a_k]) (n := 3) (Nat.le_of_ble_eq_true rfl)
  rw [lg_entry_eq]
  generalize (lg_sl ([.ref a_k]) ++ List.replicate (3 - (lg_sl ([.ref a_k])).length) Slot.unset).toArray = ls at hl ⊢
  have hl : lv_has ls 3 [(0, .ref a_k)] := hl
  refine lv_aload_n hx hb dX5_meetBodies_0 rfl (lv_at hl 0 rfl) ?_
  refine va_get (D := G.1) (ci := 5) (v := .ref a_h) (C := RX5) (T := TX5) (N := 13) hx hb hts inG_X5 hown hK hP 0 rfl rfl 0 (by decide) (hts _ fl_X5_22) (fun _ h9 => h9) rfl dX5_meetBodies_1 ?_
  obtain ⟨hPc, hDc, hFc⟩ := g5_sub3 (wc := [(a_h, (oc1 e_wa e_le e_st e_fo e_lc a_l a_g a_b a_s a_p a_w e_gb a_bb)), (a_l, (arW G 6 f_l))]) hP hD hS hA [1, 7] (by decide) rfl
  refine va_callq (va_runV (As := []) (rest := []) ⟨hx, hb, hml, hown, hts⟩ (h_lawL l G a_h a_l a_g a_b a_s a_p a_w a_bb a_lo s.heap.size e_le e_st e_fo e_lc e_wa e_gb f_l (e_f) (e_a)) (cwV 0 hts gV_X5_113 rfl rfl rfl hv_X1_lawInForce ⟨Nat.le_of_ble_eq_true rfl, Nat.le_of_ble_eq_true rfl⟩) (g5_preV hPc hK hDc hN hT hS hFc (ci := 1) (q0 := 0) rfl rfl) rfl rfl hl.1 rfl (lv_room (Nat.le_of_ble_eq_true rfl)) dX5_meetBodies_4 ⟨Nat.le_of_ble_eq_true rfl, Nat.le_of_ble_eq_true rfl⟩) hS (fun q _ h => hFc q h) hFc (fun r u t H1 locs ht hvm hw hB hz1 hk1 hS => ?_)
  obtain ⟨hP1, hD1⟩ := hB
  rw [ht] at hP1
  obtain ⟨rfl, rfl⟩ := hw
  obtain ⟨hP, hD⟩ := va_join (wr := [(a_k, (oc5 a_h a_j a_pt e_ln e_se e_lh e_br e_we e_me e_ce e_wy e_ho e_ov)), (a_b, (oc6 5 24 a_bn e_b)), (a_bn, (arI G 120 f_b)), (a_j, (oc2 a_as a_sk)), (a_as, (arI G 8 f_as)), (a_sk, (arJ G 50 f_sk)), (a_lo, (oc3 e_cl a_hd a_sr a_cd)), (a_sr, (arI G n_sr f_sr)), (a_cd, (arI G n_cd f_cd)), (a_hd, (arI G n_hd f_hd))]) hP hD [1, 7] [0, 2, 3, 4, 5, 6, 8, 9, 10, 11] rfl rfl (by decide) (by decide) hk1 hFc hP1 hD1
  generalize H1 = H at hP hS ⊢
  refine g5_rs [(a_k, (oc5 a_h a_j a_pt e_ln e_se e_lh e_br e_we e_me e_ce e_wy e_ho e_ov)), (a_b, (oc6 5 24 a_bn e_b)), (a_bn, (arI G 120 f_b)), (a_j, (oc2 a_as a_sk)), (a_as, (arI G 8 f_as)), (a_sk, (arJ G 50 f_sk)), (a_lo, (oc3 e_cl a_hd a_sr a_cd)), (a_sr, (arI G n_sr f_sr)), (a_cd, (arI G n_cd f_cd)), (a_hd, (arI G n_hd f_hd)), (a_h, (oc1 e_wa e_le e_st e_fo e_lc a_l a_g a_b a_s a_p a_w e_gb a_bb)), (a_l, (arW G 6 f_l))] hP hD (fun hP hD => ?_)
  refine g5_tv (v := .ref a_lo) rfl ?_
  refine lv_astore_n (lv' := [(1, .ref a_lo), (0, .ref a_k)]) hx hb dX5_meetBodies_7 rfl hl (by decide) rfl (fun ls hl => ?_)
  refine lv_iconst (v := 0) hx hb dX5_meetBodies_8 (by decide) ?_
  refine lv_istore_n (lv' := [(2, .int 0), (1, .ref a_lo), (0, .ref a_k)]) hx hb dX5_meetBodies_9 rfl hl (by decide) rfl (fun ls hl => ?_)
  refine g5_loop (α := (Int32) × (Nat → Int32) × (Nat → Int64)) (fun (q : (Int32) × (Nat → Int32) × (Nat → Int64)) (ls : Array Slot) (H : Heap) (locs : List Loc) => match q with | (k_b, k_a, k_k) => lv_has ls 3 [(2, .int k_b), (1, .ref a_lo), (0, .ref a_k)] ∧ va_P G.1 vwCl [(a_k, (oc5 a_h a_j a_pt e_ln e_se e_lh e_br e_we e_me e_ce e_wy e_ho e_ov)), (a_b, (oc6 5 24 a_bn e_b)), (a_bn, (arI G 120 f_b)), (a_j, (oc2 a_as a_sk)), (a_as, (arI G 8 k_a)), (a_sk, (arJ G 50 k_k)), (a_lo, (oc3 e_cl a_hd a_sr a_cd)), (a_sr, (arI G n_sr f_sr)), (a_cd, (arI G n_cd f_cd)), (a_hd, (arI G n_hd f_hd)), (a_h, (oc1 e_wa e_le e_st e_fo e_lc a_l a_g a_b a_s a_p a_w e_gb a_bb)), (a_l, (arW G 6 f_l))] H ∧ va_D A [(a_k, (oc5 a_h a_j a_pt e_ln e_se e_lh e_br e_we e_me e_ce e_wy e_ho e_ov)), (a_b, (oc6 5 24 a_bn e_b)), (a_bn, (arI G 120 f_b)), (a_j, (oc2 a_as a_sk)), (a_as, (arI G 8 k_a)), (a_sk, (arJ G 50 k_k)), (a_lo, (oc3 e_cl a_hd a_sr a_cd)), (a_sr, (arI G n_sr f_sr)), (a_cd, (arI G n_cd f_cd)), (a_hd, (arI G n_hd f_hd)), (a_h, (oc1 e_wa e_le e_st e_fo e_lc a_l a_g a_b a_s a_p a_w e_gb a_bb)), (a_l, (arW G 6 f_l))] ∧ va_S A s.heap H locs ∧ (0 ≤ k_b.toInt ∧ k_b.toInt ≤ 5)) (fun (q : (Int32) × (Nat → Int32) × (Nat → Int64)) => match q with | (k_b, k_a, k_k) => Int.toNat (5 - k_b.toInt)) (0, f_as, f_sk) ⟨lv_sub hl [0, 1, 2] rfl, hP, hD, hS, ⟨by decide, by decide⟩⟩ ?_
  rintro ⟨k_b, k_a, k_k⟩ ls H locs ⟨hl, hP, hD, hS, i_1⟩ ih_10_2
  have hl : lv_has ls 3 [(2, .int k_b), (1, .ref a_lo), (0, .ref a_k)] := hl
  have i_1 : 0 ≤ k_b.toInt ∧ k_b.toInt ≤ 5 := i_1
  refine g5_rs [(a_k, (oc5 a_h a_j a_pt e_ln e_se e_lh e_br e_we e_me e_ce e_wy e_ho e_ov)), (a_b, (oc6 5 24 a_bn e_b)), (a_bn, (arI G 120 f_b)), (a_j, (oc2 a_as a_sk)), (a_as, (arI G 8 k_a)), (a_sk, (arJ G 50 k_k)), (a_lo, (oc3 e_cl a_hd a_sr a_cd)), (a_sr, (arI G n_sr f_sr)), (a_cd, (arI G n_cd f_cd)), (a_hd, (arI G n_hd f_hd)), (a_h, (oc1 e_wa e_le e_st e_fo e_lc a_l a_g a_b a_s a_p a_w e_gb a_bb)), (a_l, (arW G 6 f_l))] hP hD (fun hP hD => ?_)
  refine lv_iload_n hx hb dX5_meetBodies_10 rfl (lv_at hl 0 rfl) ?_
  refine lv_aload_n hx hb dX5_meetBodies_11 rfl (lv_at hl 2 rfl) ?_
  refine va_get (D := G.1) (ci := 5) (v := .ref a_h) (C := RX5) (T := TX5) (N := 13) hx hb hts inG_X5 hown hK hP 0 rfl rfl 0 (by decide) (hts _ fl_X5_22) (fun _ h9 => h9) rfl dX5_meetBodies_12 ?_
  refine va_get (D := G.1) (ci := 1) (v := .ref a_b) (C := RX1) (T := TX1) (N := 13) hx hb hts inG_X1 hown hK hP 10 rfl rfl 7 (by decide) (hts _ fl_X5_117) (fun _ h9 => h9) rfl dX5_meetBodies_15 ?_
  refine va_get (D := G.1) (ci := 6) (v := .int e_b) (C := RX6) (T := TX6) (N := 4) hx hb hts inG_X6 hown hK hP 1 rfl rfl 3 (by decide) (hts _ fl_X5_102) (fun _ h9 => h9) rfl dX5_meetBodies_18 ?_
  refine lv_icmp_ge (tgt := 81) hx hb dX5_meetBodies_21 (by decide) (fun c_3 => ?_) (fun c_3 => ?_)
  ·
    have i_3 : k_b.toInt ≥ e_b.toInt := by have z := g5_ge (a := k_b.toInt) (b := e_b.toInt) (by rfl) (by rfl) c_3; omega
    exact W.vret hx hb hr (fun t ht hW => ⟨⟨[(a_k, (oc5 a_h a_j a_pt e_ln e_se e_lh e_br e_we e_me e_ce e_wy e_ho e_ov)), (a_h, (oc1 e_wa e_le e_st e_fo e_lc a_l a_g a_b a_s a_p a_w e_gb a_bb)), (a_b, (oc6 5 24 a_bn e_b)), (a_bn, (arI G 120 f_b)), (a_j, (oc2 a_as a_sk)), (a_as, (arI G 8 k_a)), (a_sk, (arJ G 50 k_k)), (a_l, (arW G 6 f_l)), (a_lo, (oc3 e_cl a_hd a_sr a_cd)), (a_sr, (arI G n_sr f_sr)), (a_cd, (arI G n_cd f_cd)), (a_hd, (arI G n_hd f_hd))], rfl, ⟨e_se, e_ov, k_a, k_k, h_e_ov, rfl⟩, by rw [ht]; exact hP.sub [0, 10, 1, 2, 3, 4, 5, 11, 6, 7, 8, 9] rfl, hD.sub [0, 10, 1, 2, 3, 4, 5, 11, 6, 7, 8, 9] (by decide) rfl⟩, hS.F ht⟩) hS.2.2 dX5_meetBodies_81
  ·
    have i_3 : k_b.toInt < e_b.toInt := by have z := g5_geN (a := k_b.toInt) (b := e_b.toInt) (by rfl) (by rfl) c_3; omega
    refine lv_aload_n hx hb dX5_meetBodies_24 rfl (lv_at hl 2 rfl) ?_
    refine va_get (D := G.1) (ci := 5) (v := .ref a_h) (C := RX5) (T := TX5) (N := 13) hx hb hts inG_X5 hown hK hP 0 rfl rfl 0 (by decide) (hts _ fl_X5_22) (fun _ h9 => h9) rfl dX5_meetBodies_25 ?_
    refine va_get (D := G.1) (ci := 1) (v := .ref a_b) (C := RX1) (T := TX1) (N := 13) hx hb hts inG_X1 hown hK hP 10 rfl rfl 7 (by decide) (hts _ fl_X5_117) (fun _ h9 => h9) rfl dX5_meetBodies_28 ?_
    refine lv_iload_n hx hb dX5_meetBodies_31 rfl (lv_at hl 0 rfl) ?_
    refine lv_aload_n hx hb dX5_meetBodies_32 rfl (lv_at hl 2 rfl) ?_
    refine va_get (D := G.1) (ci := 5) (v := .int e_ho) (C := RX5) (T := TX5) (N := 13) hx hb hts inG_X5 hown hK hP 0 rfl rfl 11 (by decide) (hts _ fl_X5_33) (fun _ h9 => h9) rfl dX5_meetBodies_33 ?_
    obtain ⟨hPc, hDc, hFc⟩ := g5_sub3 (wc := [(a_b, (oc6 5 24 a_bn e_b)), (a_bn, (arI G 120 f_b))]) hP hD hS hA [1, 2] (by decide) rfl
    refine va_calli (va_runV (As := [.int k_b, .int e_ho]) (rest := []) ⟨hx, hb, hml, hown, hts⟩ (t_get_B l G a_b a_bn H.size e_b k_b e_ho f_b h_e_b) (cwV 2 hts gV_X5_107 rfl rfl rfl hv_X6_get ⟨Nat.le_of_ble_eq_true rfl, Nat.le_of_ble_eq_true rfl⟩) (g5_preV hPc hK hDc hN hT hS hFc (ci := 6) (q0 := 0) rfl rfl) rfl rfl hl.1 rfl (lv_room (Nat.le_of_ble_eq_true rfl)) dX5_meetBodies_36 ⟨Nat.le_of_ble_eq_true rfl, Nat.le_of_ble_eq_true rfl⟩) hS (fun q _ h => hFc q h) hFc (fun r u t H1 locs ht hvm hw hB hz1 hk1 hS => ?_)
    obtain ⟨hP1, hD1⟩ := hB
    rw [ht] at hP1
    obtain ⟨z5, i_4, y6, rfl⟩ := hw
    have i_4 : z5 = tget f_b e_b.toInt 24 k_b.toInt e_ho.toInt := i_4
    obtain ⟨hP, hD⟩ := va_join (wr := [(a_k, (oc5 a_h a_j a_pt e_ln e_se e_lh e_br e_we e_me e_ce e_wy e_ho e_ov)), (a_j, (oc2 a_as a_sk)), (a_as, (arI G 8 k_a)), (a_sk, (arJ G 50 k_k)), (a_lo, (oc3 e_cl a_hd a_sr a_cd)), (a_sr, (arI G n_sr f_sr)), (a_cd, (arI G n_cd f_cd)), (a_hd, (arI G n_hd f_hd)), (a_h, (oc1 e_wa e_le e_st e_fo e_lc a_l a_g a_b a_s a_p a_w e_gb a_bb)), (a_l, (arW G 6 f_l))]) hP hD [1, 2] [0, 3, 4, 5, 6, 7, 8, 9, 10, 11] rfl rfl (by decide) (by decide) hk1 hFc hP1 hD1
    generalize H1 = H at hP hS ⊢
    refine g5_rs [(a_k, (oc5 a_h a_j a_pt e_ln e_se e_lh e_br e_we e_me e_ce e_wy e_ho e_ov)), (a_j, (oc2 a_as a_sk)), (a_as, (arI G 8 k_a)), (a_sk, (arJ G 50 k_k)), (a_lo, (oc3 e_cl a_hd a_sr a_cd)), (a_sr, (arI G n_sr f_sr)), (a_cd, (arI G n_cd f_cd)), (a_hd, (arI G n_hd f_hd)), (a_h, (oc1 e_wa e_le e_st e_fo e_lc a_l a_g a_b a_s a_p a_w e_gb a_bb)), (a_l, (arW G 6 f_l)), (a_b, (oc6 5 24 a_bn e_b)), (a_bn, (arI G 120 f_b))] hP hD (fun hP hD => ?_)
    refine g5_ti (v := z5) y6 ?_
    refine lv_aload_n hx hb dX5_meetBodies_39 rfl (lv_at hl 2 rfl) ?_
    refine va_get (D := G.1) (ci := 5) (v := .int e_ce) (C := RX5) (T := TX5) (N := 13) hx hb hts inG_X5 hown hK hP 0 rfl rfl 9 (by decide) (hts _ fl_X5_26) (fun _ h9 => h9) rfl dX5_meetBodies_40 ?_
    refine lv_icmp_ne (tgt := 75) hx hb dX5_meetBodies_43 (by decide) (fun c_7 => ?_) (fun c_7 => ?_)
    ·
      have n_7 : gNe (z5.toInt) (e_ce.toInt) := by have z := g5_ne (a := z5.toInt) (b := e_ce.toInt) (by rfl) (by rfl) c_7; unfold gNe; omega
      refine lv_iinc (v := (k_b + 1)) (lv' := [(2, .int (k_b + 1)), (1, .ref a_lo), (0, .ref a_k)]) hx hb dX5_meetBodies_75 hl (k := 0) rfl rfl (by decide) rfl (fun ls hl => ?_)
      have t_8 : (k_b + 1).toInt = k_b.toInt + 1 := g5_iadd (a := k_b.toInt) (b := 1) rfl (by decide) (by omega) (by omega)
      refine lv_goto (tgt := 10) hx hb dX5_meetBodies_78 (by decide) ?_
      exact ih_10_2 ((k_b + 1), k_a, k_k) ls H locs (show Int.toNat (5 - (k_b + 1).toInt) < Int.toNat (5 - k_b.toInt) from g_up (show k_b.toInt < (k_b + 1).toInt by omega) (show k_b.toInt < 5 by omega)) ⟨lv_sub hl [0, 1, 2] rfl, hP.sub [0, 10, 11, 1, 2, 3, 4, 5, 6, 7, 8, 9] rfl, hD.sub [0, 10, 11, 1, 2, 3, 4, 5, 6, 7, 8, 9] (by decide) rfl, hS, ⟨by omega, by omega⟩⟩
    ·
      have i_7 : z5.toInt = e_ce.toInt := by have z := g5_neN (a := z5.toInt) (b := e_ce.toInt) (by rfl) (by rfl) c_7; omega
      refine lv_aload_n hx hb dX5_meetBodies_46 rfl (lv_at hl 2 rfl) ?_
      refine lv_iconst (v := (-1)) hx hb dX5_meetBodies_47 (by decide) ?_
      refine lv_iload_n hx hb dX5_meetBodies_48 rfl (lv_at hl 0 rfl) ?_
      obtain ⟨hPc, hDc, hFc⟩ := g5_sub3 (wc := [(a_k, (oc5 a_h a_j a_pt e_ln e_se e_lh e_br e_we e_me e_ce e_wy e_ho e_ov)), (a_j, (oc2 a_as a_sk)), (a_as, (arI G 8 k_a))]) hP hD hS hA [0, 1, 2] (by decide) rfl
      refine va_callv (va_runV (As := [.int (-1), .int k_b]) (rest := []) ⟨hx, hb, hml, hown, hts⟩ (k_ask l G a_k a_j a_as a_h a_pt a_sk H.size e_ln e_se e_lh e_br e_we e_me e_ce e_wy e_ho e_ov (-1) k_b k_a h_e_br h_e_ce h_e_wy h_e_ho h_e_ov) (cwV 2 hts gV_X5_120 rfl rfl rfl hv_X5_ask ⟨Nat.le_of_ble_eq_true rfl, Nat.le_of_ble_eq_true rfl⟩) (g5_preV hPc hK hDc hN hT hS hFc (ci := 5) (q0 := 0) rfl rfl) rfl rfl hl.1 rfl (lv_room (Nat.le_of_ble_eq_true rfl)) dX5_meetBodies_49 ⟨Nat.le_of_ble_eq_true rfl, Nat.le_of_ble_eq_true rfl⟩) hS (fun q _ h => hFc q h) hFc (fun u t H1 locs ht hvm hw hB hz1 hk1 hS => ?_)
      obtain ⟨hP1, hD1⟩ := hB
      rw [ht] at hP1
      obtain ⟨z9, rfl⟩ := hw
      obtain ⟨hP, hD⟩ := va_join (wr := [(a_sk, (arJ G 50 k_k)), (a_lo, (oc3 e_cl a_hd a_sr a_cd)), (a_sr, (arI G n_sr f_sr)), (a_cd, (arI G n_cd f_cd)), (a_hd, (arI G n_hd f_hd)), (a_h, (oc1 e_wa e_le e_st e_fo e_lc a_l a_g a_b a_s a_p a_w e_gb a_bb)), (a_l, (arW G 6 f_l)), (a_b, (oc6 5 24 a_bn e_b)), (a_bn, (arI G 120 f_b))]) hP hD [0, 1, 2] [3, 4, 5, 6, 7, 8, 9, 10, 11] rfl rfl (by decide) (by decide) hk1 hFc hP1 hD1
      generalize H1 = H at hP hS ⊢
      refine g5_rs [(a_sk, (arJ G 50 k_k)), (a_lo, (oc3 e_cl a_hd a_sr a_cd)), (a_sr, (arI G n_sr f_sr)), (a_cd, (arI G n_cd f_cd)), (a_hd, (arI G n_hd f_hd)), (a_h, (oc1 e_wa e_le e_st e_fo e_lc a_l a_g a_b a_s a_p a_w e_gb a_bb)), (a_l, (arW G 6 f_l)), (a_b, (oc6 5 24 a_bn e_b)), (a_bn, (arI G 120 f_b)), (a_k, (oc5 a_h a_j a_pt e_ln e_se e_lh e_br e_we e_me e_ce e_wy e_ho e_ov)), (a_j, (oc2 a_as a_sk)), (a_as, (arI G 8 z9))] hP hD (fun hP hD => ?_)
      refine lv_aload_n hx hb dX5_meetBodies_52 rfl (lv_at hl 2 rfl) ?_
      refine va_get (D := G.1) (ci := 5) (v := .ref a_j) (C := RX5) (T := TX5) (N := 13) hx hb hts inG_X5 hown hK hP 9 rfl rfl 1 (by decide) (hts _ fl_X5_12) (fun _ h9 => h9) rfl dX5_meetBodies_53 ?_
      refine lv_aload_n hx hb dX5_meetBodies_56 rfl (lv_at hl 1 rfl) ?_
      refine lv_iconst (v := 3) hx hb dX5_meetBodies_57 (by decide) ?_
      obtain ⟨hPc, hDc, hFc⟩ := g5_sub3 (wc := [(a_j, (oc2 a_as a_sk)), (a_as, (arI G 8 z9)), (a_sk, (arJ G 50 k_k)), (a_lo, (oc3 e_cl a_hd a_sr a_cd)), (a_sr, (arI G n_sr f_sr)), (a_cd, (arI G n_cd f_cd)), (a_hd, (arI G n_hd f_hd))]) hP hD hS hA [10, 11, 0, 1, 2, 3, 4] (by decide) rfl
      refine va_calli (va_runV (As := [.ref a_lo, .int 3]) (rest := []) ⟨hx, hb, hml, hown, hts⟩ (j_isHeld l G a_j a_as a_sk a_lo a_sr a_cd a_hd H.size 3 e_cl z9 k_k f_sr f_cd f_hd n_sr n_cd n_hd h_e_cl (e_hn) (e_hs) (e_hk) (e_c)) (cwV 2 hts gV_X5_124 rfl rfl rfl hv_X2_isHeld ⟨Nat.le_of_ble_eq_true rfl, Nat.le_of_ble_eq_true rfl⟩) (g5_preV hPc hK hDc hN hT hS hFc (ci := 2) (q0 := 0) rfl rfl) rfl rfl hl.1 rfl (lv_room (Nat.le_of_ble_eq_true rfl)) dX5_meetBodies_58 ⟨Nat.le_of_ble_eq_true rfl, Nat.le_of_ble_eq_true rfl⟩) hS (fun q _ h => hFc q h) hFc (fun r u t H1 locs ht hvm hw hB hz1 hk1 hS => ?_)
      obtain ⟨hP1, hD1⟩ := hB
      rw [ht] at hP1
      obtain ⟨z11, z12, i_10, y13, rfl⟩ := hw
      have i_10 : 0 ≤ z11.toInt ∧ z11.toInt ≤ 1 := i_10
      obtain ⟨hP, hD⟩ := va_join (wr := [(a_h, (oc1 e_wa e_le e_st e_fo e_lc a_l a_g a_b a_s a_p a_w e_gb a_bb)), (a_l, (arW G 6 f_l)), (a_b, (oc6 5 24 a_bn e_b)), (a_bn, (arI G 120 f_b)), (a_k, (oc5 a_h a_j a_pt e_ln e_se e_lh e_br e_we e_me e_ce e_wy e_ho e_ov))]) hP hD [10, 11, 0, 1, 2, 3, 4] [5, 6, 7, 8, 9] rfl rfl (by decide) (by decide) hk1 hFc hP1 hD1
      generalize H1 = H at hP hS ⊢
      refine g5_rs [(a_h, (oc1 e_wa e_le e_st e_fo e_lc a_l a_g a_b a_s a_p a_w e_gb a_bb)), (a_l, (arW G 6 f_l)), (a_b, (oc6 5 24 a_bn e_b)), (a_bn, (arI G 120 f_b)), (a_k, (oc5 a_h a_j a_pt e_ln e_se e_lh e_br e_we e_me e_ce e_wy e_ho e_ov)), (a_j, (oc2 a_as a_sk)), (a_as, (arI G 8 z9)), (a_sk, (arJ G 50 z12)), (a_lo, (oc3 e_cl a_hd a_sr a_cd)), (a_sr, (arI G n_sr f_sr)), (a_cd, (arI G n_cd f_cd)), (a_hd, (arI G n_hd f_hd))] hP hD (fun hP hD => ?_)
      refine g5_ti (v := z11) y13 ?_
      refine lv_if_ne (tgt := 75) hx hb dX5_meetBodies_61 (by decide) (fun c_14 => ?_) (fun c_14 => ?_)
      ·
        have n_14 : gNe (z11.toInt) (0) := by have z := g5_ne (a := z11.toInt) (b := 0) (by rfl) (by decide) c_14; unfold gNe; omega
        have i_14 : z11.toInt ≥ 1 := by have z := g5_ne (a := z11.toInt) (b := 0) (by rfl) (by decide) c_14; omega
        refine lv_iinc (v := (k_b + 1)) (lv' := [(2, .int (k_b + 1)), (1, .ref a_lo), (0, .ref a_k)]) hx hb dX5_meetBodies_75 hl (k := 0) rfl rfl (by decide) rfl (fun ls hl => ?_)
        have t_15 : (k_b + 1).toInt = k_b.toInt + 1 := g5_iadd (a := k_b.toInt) (b := 1) rfl (by decide) (by omega) (by omega)
        refine lv_goto (tgt := 10) hx hb dX5_meetBodies_78 (by decide) ?_
        exact ih_10_2 ((k_b + 1), z9, z12) ls H locs (show Int.toNat (5 - (k_b + 1).toInt) < Int.toNat (5 - k_b.toInt) from g_up (show k_b.toInt < (k_b + 1).toInt by omega) (show k_b.toInt < 5 by omega)) ⟨lv_sub hl [0, 1, 2] rfl, hP.sub [4, 2, 3, 5, 6, 7, 8, 9, 10, 11, 0, 1] rfl, hD.sub [4, 2, 3, 5, 6, 7, 8, 9, 10, 11, 0, 1] (by decide) rfl, hS, ⟨by omega, by omega⟩⟩
      ·
        have i_14 : z11.toInt = 0 := by have z := g5_neN (a := z11.toInt) (b := 0) (by rfl) (by decide) c_14; omega
        refine lv_aload_n hx hb dX5_meetBodies_64 rfl (lv_at hl 2 rfl) ?_
        refine lv_iload_n hx hb dX5_meetBodies_65 rfl (lv_at hl 0 rfl) ?_
        refine va_put (D := G.1) (ci := 5) (v := .int k_b) (ty := .int) (C := RX5) (T := TX5) (N := 13) hx hb hts inG_X5 tyX5 tyX5_ok nmX5 hown hK hP hD hS 4 rfl rfl 4 (by decide) (hts _ fl_X5_39) (fun _ h9 => h9) rfl (by decide +kernel) rfl rfl (Nat.le_of_ble_eq_true rfl) dX5_meetBodies_66 (fun H locs hP hD hS => ?_)
        refine g5_rs [(a_h, (oc1 e_wa e_le e_st e_fo e_lc a_l a_g a_b a_s a_p a_w e_gb a_bb)), (a_l, (arW G 6 f_l)), (a_b, (oc6 5 24 a_bn e_b)), (a_bn, (arI G 120 f_b)), (a_k, (oc5 a_h a_j a_pt e_ln k_b e_lh e_br e_we e_me e_ce e_wy e_ho e_ov)), (a_j, (oc2 a_as a_sk)), (a_as, (arI G 8 z9)), (a_sk, (arJ G 50 z12)), (a_lo, (oc3 e_cl a_hd a_sr a_cd)), (a_sr, (arI G n_sr f_sr)), (a_cd, (arI G n_cd f_cd)), (a_hd, (arI G n_hd f_hd))] hP hD (fun hP hD => ?_)
        refine lv_aload_n hx hb dX5_meetBodies_69 rfl (lv_at hl 2 rfl) ?_
        refine lv_iconst (v := 1) hx hb dX5_meetBodies_70 (by decide) ?_
        refine va_put (D := G.1) (ci := 5) (v := .int 1) (ty := .boolean) (C := RX5) (T := TX5) (N := 13) hx hb hts inG_X5 tyX5 tyX5_ok nmX5 hown hK hP hD hS 4 rfl rfl 12 (by decide) (hts _ fl_X5_56) (fun _ h9 => h9) rfl (by decide +kernel) rfl rfl (Nat.le_of_ble_eq_true rfl) dX5_meetBodies_71 (fun H locs hP hD hS => ?_)
        refine g5_rs [(a_h, (oc1 e_wa e_le e_st e_fo e_lc a_l a_g a_b a_s a_p a_w e_gb a_bb)), (a_l, (arW G 6 f_l)), (a_b, (oc6 5 24 a_bn e_b)), (a_bn, (arI G 120 f_b)), (a_k, (oc5 a_h a_j a_pt e_ln k_b e_lh e_br e_we e_me e_ce e_wy e_ho 1)), (a_j, (oc2 a_as a_sk)), (a_as, (arI G 8 z9)), (a_sk, (arJ G 50 z12)), (a_lo, (oc3 e_cl a_hd a_sr a_cd)), (a_sr, (arI G n_sr f_sr)), (a_cd, (arI G n_cd f_cd)), (a_hd, (arI G n_hd f_hd))] hP hD (fun hP hD => ?_)
        exact W.vret hx hb hr (fun t ht hW => ⟨⟨[(a_k, (oc5 a_h a_j a_pt e_ln k_b e_lh e_br e_we e_me e_ce e_wy e_ho 1)), (a_h, (oc1 e_wa e_le e_st e_fo e_lc a_l a_g a_b a_s a_p a_w e_gb a_bb)), (a_b, (oc6 5 24 a_bn e_b)), (a_bn, (arI G 120 f_b)), (a_j, (oc2 a_as a_sk)), (a_as, (arI G 8 z9)), (a_sk, (arJ G 50 z12)), (a_l, (arW G 6 f_l)), (a_lo, (oc3 e_cl a_hd a_sr a_cd)), (a_sr, (arI G n_sr f_sr)), (a_cd, (arI G n_cd f_cd)), (a_hd, (arI G n_hd f_hd))], rfl, ⟨k_b, 1, z9, z12, ⟨by have zc_o_v : (1 : Int32).toInt = 1 := (by decide); omega, by have zc_o_v : (1 : Int32).toInt = 1 := (by decide); omega⟩, rfl⟩, by rw [ht]; exact hP.sub [4, 0, 2, 3, 5, 6, 7, 1, 8, 9, 10, 11] rfl, hD.sub [4, 0, 2, 3, 5, 6, 7, 1, 8, 9, 10, 11] (by decide) rfl⟩, hS.F ht⟩) hS.2.2 dX5_meetBodies_74
