theorem dgX1_lawInForce_0 : ∀ r ∈ ([(0, (.aload_n 0, 1)), (1, (.getfield 22, 3)), (4, (.ifCond .lt 26, 3)), (7, (.aload_n 0, 1)), (8, (.getfield 22, 3)), (11, (.aload_n 0, 1)), (12, (.getfield 25, 3)), (15, (.if_icmp .ge 15, 3)), (18, (.aload_n 0, 1)), (19, (.getfield 30, 3)), (22, (.aload_n 0, 1)), (23, (.getfield 22, 3)), (26, (.aaload, 1)), (27, (.goto 4, 3)), (30, (.aconst_null, 1)), (31, (.areturn, 1))] : List (Nat × (Instr × Nat))), decode cX1_lawInForce r.1 = .ok r.2 := by decide +kernel
theorem dX1_lawInForce_0 : decode cX1_lawInForce 0 = .ok (.aload_n 0, 1) := dgX1_lawInForce_0 (0, (.aload_n 0, 1)) (List.mem_of_getElem? (i := 0) rfl)
theorem dX1_lawInForce_1 : decode cX1_lawInForce 1 = .ok (.getfield 22, 3) := dgX1_lawInForce_0 (1, (.getfield 22, 3)) (List.mem_of_getElem? (i := 1) rfl)
theorem dX1_lawInForce_4 : decode cX1_lawInForce 4 = .ok (.ifCond .lt 26, 3) := dgX1_lawInForce_0 (4, (.ifCond .lt 26, 3)) (List.mem_of_getElem? (i := 2) rfl)
theorem dX1_lawInForce_7 : decode cX1_lawInForce 7 = .ok (.aload_n 0, 1) := dgX1_lawInForce_0 (7, (.aload_n 0, 1)) (List.mem_of_getElem? (i := 3) rfl)
theorem dX1_lawInForce_8 : decode cX1_lawInForce 8 = .ok (.getfield 22, 3) := dgX1_lawInForce_0 (8, (.getfield 22, 3)) (List.mem_of_getElem? (i := 4) rfl)
theorem dX1_lawInForce_11 : decode cX1_lawInForce 11 = .ok (.aload_n 0, 1) := dgX1_lawInForce_0 (11, (.aload_n 0, 1)) (List.mem_of_getElem? (i := 5) rfl)
theorem dX1_lawInForce_12 : decode cX1_lawInForce 12 = .ok (.getfield 25, 3) := dgX1_lawInForce_0 (12, (.getfield 25, 3)) (List.mem_of_getElem? (i := 6) rfl)
theorem dX1_lawInForce_15 : decode cX1_lawInForce 15 = .ok (.if_icmp .ge 15, 3) := dgX1_lawInForce_0 (15, (.if_icmp .ge 15, 3)) (List.mem_of_getElem? (i := 7) rfl)
theorem dX1_lawInForce_18 : decode cX1_lawInForce 18 = .ok (.aload_n 0, 1) := dgX1_lawInForce_0 (18, (.aload_n 0, 1)) (List.mem_of_getElem? (i := 8) rfl)
theorem dX1_lawInForce_19 : decode cX1_lawInForce 19 = .ok (.getfield 30, 3) := dgX1_lawInForce_0 (19, (.getfield 30, 3)) (List.mem_of_getElem? (i := 9) rfl)
theorem dX1_lawInForce_22 : decode cX1_lawInForce 22 = .ok (.aload_n 0, 1) := dgX1_lawInForce_0 (22, (.aload_n 0, 1)) (List.mem_of_getElem? (i := 10) rfl)
theorem dX1_lawInForce_23 : decode cX1_lawInForce 23 = .ok (.getfield 22, 3) := dgX1_lawInForce_0 (23, (.getfield 22, 3)) (List.mem_of_getElem? (i := 11) rfl)
theorem dX1_lawInForce_26 : decode cX1_lawInForce 26 = .ok (.aaload, 1) := dgX1_lawInForce_0 (26, (.aaload, 1)) (List.mem_of_getElem? (i := 12) rfl)
theorem dX1_lawInForce_27 : decode cX1_lawInForce 27 = .ok (.goto 4, 3) := dgX1_lawInForce_0 (27, (.goto 4, 3)) (List.mem_of_getElem? (i := 13) rfl)
theorem dX1_lawInForce_30 : decode cX1_lawInForce 30 = .ok (.aconst_null, 1) := dgX1_lawInForce_0 (30, (.aconst_null, 1)) (List.mem_of_getElem? (i := 14) rfl)
theorem dX1_lawInForce_31 : decode cX1_lawInForce 31 = .ok (.areturn, 1) := dgX1_lawInForce_0 (31, (.areturn, 1)) (List.mem_of_getElem? (i := 15) rfl)
theorem fl_X1_22 : Cond.fieldLink RX1 22 "LateGlass$House" "forced" "I" ∈ tblG := tg 164 (by decide +kernel) (by decide +kernel)
theorem fl_X1_25 : Cond.fieldLink RX1 25 "LateGlass$House" "lawCount" "I" ∈ tblG := tg 166 (by decide +kernel) (by decide +kernel)
set_option maxHeartbeats 4000000 in
set_option maxRecDepth 100000 in
theorem h_lawN (l : Launch) (G : g5_G) (a_h a_l a_g a_b a_s a_p a_w a_bb : Nat) (sz : Nat) (e_le : Int32) (e_st : Int32) (e_fo : Int32) (e_lc : Int32) (e_wa : Int64) (e_gb : Int64) (f_l : Nat → Option Nat) (e_f : e_fo.toInt < 0 ∨ e_lc.toInt ≤ e_fo.toInt) : Met l yX1_lawInForce (wsG yX1_lawInForce cX1_lawInForce 1 (some (.object "LateGlass$Law"))) ({ frames := 0, cells := 0, slots := 0, locals := 0 }) (va_Pc [.ref a_h] (g5_P G [(a_h, (oc1 e_wa e_le e_st e_fo e_lc a_l a_g a_b a_s a_p a_w e_gb a_bb)), (a_l, (arW G 6 f_l))] sz)) (va_Qq (fun (r : Option Nat) (u : va_W) => ((r = none) ∧ (u = [(a_h, (oc1 e_wa e_le e_st e_fo e_lc a_l a_g a_b a_s a_p a_w e_gb a_bb)), (a_l, (arW G 6 f_l))]))) (g5_B G (va_A [(a_h, (oc1 e_wa e_le e_st e_fo e_lc a_l a_g a_b a_s a_p a_w e_gb a_bb)), (a_l, (arW G 6 f_l))] sz)) (va_A [(a_h, (oc1 e_wa e_le e_st e_fo e_lc a_l a_g a_b a_s a_p a_w e_gb a_bb)), (a_l, (arW G 6 f_l))] sz)) 0 0 (va_A [(a_h, (oc1 e_wa e_le e_st e_fo e_lc a_l a_g a_b a_s a_p a_w e_gb a_bb)), (a_l, (arW G 6 f_l))] sz) := by
  refine Met.ofW (cc := cX1_lawInForce) (maxL := 1) (ret := (some (.object "LateGlass$Law"))) (by decide) rfl ?_
  intro p e s m args below meth c s₁ B hml hv
  obtain ⟨rfl, hsz, hP, hK, hD0, hN, hT⟩ := hv
  have hx := B.exec
  have hb := B.bytes
  have hr := B.returns
  have hts : ∀ w ∈ tblG, w.before _ s = true := fun w h => atoms_spec (ws := (wsG yX1_lawInForce cX1_lawInForce 1 (some (.object "LateGlass$Law")))) B.pre w (List.mem_cons_of_mem _ h)
  have hown : s.vm.findClass RX1 = some m.cls := findClass_of_methodNamed B.named
  have hlocks := B.notSynchronized
  subst hsz
  have hD := hD0.self (sz := s.heap.size)
  generalize hAe : va_A [(a_h, (oc1 e_wa e_le e_st e_fo e_lc a_l a_g a_b a_s a_p a_w e_gb a_bb)), (a_l, (arW G 6 f_l))] s.heap.size = A at hD hT ⊢
  have hA : ∀ q : Nat, s.heap.size ≤ q → A q := fun q h => by rw [← hAe]; exact Or.inr h
  have hS : va_S A s.heap s.heap [] := va_S.rf
  have hP : va_P G.1 vwCl [(a_h, (oc1 e_wa e_le e_st e_fo e_lc a_l a_g a_b a_s a_p a_w e_gb a_bb)), (a_l, (arW G 6 f_l))] s.heap := hP
  have hl := lv_entry ([.ref a_h]) (n := 1) (Nat.le_of_ble_eq_true rfl)
  rw [lg_entry_eq]
  generalize (lg_sl ([.ref a_h]) ++ List.replicate (1 - (lg_sl ([.ref a_h])).length) Slot.unset).toArray = ls at hl ⊢
  have hl : lv_has ls 1 [(0, .ref a_h)] := hl
  refine lv_aload_n hx hb dX1_lawInForce_0 rfl (lv_at hl 0 rfl) ?_
  refine va_get (D := G.1) (ci := 1) (v := .int e_fo) (C := RX1) (T := TX1) (N := 13) hx hb hts inG_X1 hown hK hP 0 rfl rfl 3 (by decide) (hts _ fl_X1_22) (fun _ h9 => h9) rfl dX1_lawInForce_1 ?_
  refine lv_if_lt (tgt := 30) hx hb dX1_lawInForce_4 (by decide) (fun c_1 => ?_) (fun c_1 => ?_)
  ·
    have i_1 : e_fo.toInt < 0 := by have z := g5_lt (a := e_fo.toInt) (b := 0) (by rfl) (by decide) c_1; omega
    refine lv_null hx hb dX1_lawInForce_30 ?_
    exact W.aret (v := .null) hx hb hr (Or.inl ⟨_, rfl⟩) (Or.inl rfl) (fun t ht hW => ⟨⟨none, [(a_h, (oc1 e_wa e_le e_st e_fo e_lc a_l a_g a_b a_s a_p a_w e_gb a_bb)), (a_l, (arW G 6 f_l))], rfl, ⟨rfl, rfl⟩, by rw [ht]; exact hP.sub [0, 1] rfl, hD.sub [0, 1] (by decide) rfl⟩, hS.F ht⟩) hS.2.2 dX1_lawInForce_31
  ·
    have i_1 : e_fo.toInt ≥ 0 := by have z := g5_ltN (a := e_fo.toInt) (b := 0) (by rfl) (by decide) c_1; omega
    refine lv_aload_n hx hb dX1_lawInForce_7 rfl (lv_at hl 0 rfl) ?_
    refine va_get (D := G.1) (ci := 1) (v := .int e_fo) (C := RX1) (T := TX1) (N := 13) hx hb hts inG_X1 hown hK hP 0 rfl rfl 3 (by decide) (hts _ fl_X1_22) (fun _ h9 => h9) rfl dX1_lawInForce_8 ?_
    refine lv_aload_n hx hb dX1_lawInForce_11 rfl (lv_at hl 0 rfl) ?_
    refine va_get (D := G.1) (ci := 1) (v := .int e_lc) (C := RX1) (T := TX1) (N := 13) hx hb hts inG_X1 hown hK hP 0 rfl rfl 4 (by decide) (hts _ fl_X1_25) (fun _ h9 => h9) rfl dX1_lawInForce_12 ?_
    refine W.eq (g2 := F0 m 15 ls [.int e_lc, .int e_fo]) rfl ?_
    refine lv_icmp_ge (tgt := 30) hx hb dX1_lawInForce_15 (by decide) (fun c_2 => ?_) (fun c_2 => ?_)
    ·
      have i_2 : e_fo.toInt ≥ e_lc.toInt := by have z := g5_ge (a := e_fo.toInt) (b := e_lc.toInt) (by rfl) (by rfl) c_2; omega
      refine lv_null hx hb dX1_lawInForce_30 ?_
      exact W.aret (v := .null) hx hb hr (Or.inl ⟨_, rfl⟩) (Or.inl rfl) (fun t ht hW => ⟨⟨none, [(a_h, (oc1 e_wa e_le e_st e_fo e_lc a_l a_g a_b a_s a_p a_w e_gb a_bb)), (a_l, (arW G 6 f_l))], rfl, ⟨rfl, rfl⟩, by rw [ht]; exact hP.sub [0, 1] rfl, hD.sub [0, 1] (by decide) rfl⟩, hS.F ht⟩) hS.2.2 dX1_lawInForce_31
    ·
      have i_2 : e_fo.toInt < e_lc.toInt := by have z := g5_geN (a := e_fo.toInt) (b := e_lc.toInt) (by rfl) (by rfl) c_2; omega
      exact absurd (show False by omega) (fun h => h)
theorem fl_X1_30 : Cond.fieldLink RX1 30 "LateGlass$House" "laws" "[LLateGlass$Law;" ∈ tblG := tg 168 (by decide +kernel) (by decide +kernel)
set_option maxHeartbeats 4000000 in
set_option maxRecDepth 100000 in
theorem h_lawL (l : Launch) (G : g5_G) (a_h a_l a_g a_b a_s a_p a_w a_bb a_lo : Nat) (sz : Nat) (e_le : Int32) (e_st : Int32) (e_fo : Int32) (e_lc : Int32) (e_wa : Int64) (e_gb : Int64) (f_l : Nat → Option Nat) (e_f : 0 ≤ e_fo.toInt ∧ e_fo.toInt < e_lc.toInt ∧ e_lc.toInt ≤ 6) (e_a : f_l e_fo.toNatClampNeg = some a_lo) : Met l yX1_lawInForce (wsG yX1_lawInForce cX1_lawInForce 1 (some (.object "LateGlass$Law"))) ({ frames := 0, cells := 0, slots := 0, locals := 0 }) (va_Pc [.ref a_h] (g5_P G [(a_h, (oc1 e_wa e_le e_st e_fo e_lc a_l a_g a_b a_s a_p a_w e_gb a_bb)), (a_l, (arW G 6 f_l))] sz)) (va_Qq (fun (r : Option Nat) (u : va_W) => ((r = some a_lo) ∧ (u = [(a_h, (oc1 e_wa e_le e_st e_fo e_lc a_l a_g a_b a_s a_p a_w e_gb a_bb)), (a_l, (arW G 6 f_l))]))) (g5_B G (va_A [(a_h, (oc1 e_wa e_le e_st e_fo e_lc a_l a_g a_b a_s a_p a_w e_gb a_bb)), (a_l, (arW G 6 f_l))] sz)) (va_A [(a_h, (oc1 e_wa e_le e_st e_fo e_lc a_l a_g a_b a_s a_p a_w e_gb a_bb)), (a_l, (arW G 6 f_l))] sz)) 0 0 (va_A [(a_h, (oc1 e_wa e_le e_st e_fo e_lc a_l a_g a_b a_s a_p a_w e_gb a_bb)), (a_l, (arW G 6 f_l))] sz) := by
  refine Met.ofW (cc := cX1_lawInForce) (maxL := 1) (ret := (some (.object "LateGlass$Law"))) (by decide) rfl ?_
  intro p e s m args below meth c s₁ B hml hv
  obtain ⟨rfl, hsz, hP, hK, hD0, hN, hT⟩ := hv
  have hx := B.exec
  have hb := B.bytes
  have hr := B.returns
  have hts : ∀ w ∈ tblG, w.before _ s = true := fun w h => atoms_spec (ws := (wsG yX1_lawInForce cX1_lawInForce 1 (some (.object "LateGlass$Law")))) B.pre w (List.mem_cons_of_mem _ h)
  have hown : s.vm.findClass RX1 = some m.cls := findClass_of_methodNamed B.named
  have hlocks := B.notSynchronized
  subst hsz
  have hD := hD0.self (sz := s.heap.size)
  generalize hAe : va_A [(a_h, (oc1 e_wa e_le e_st e_fo e_lc a_l a_g a_b a_s a_p a_w e_gb a_bb)), (a_l, (arW G 6 f_l))] s.heap.size = A at hD hT ⊢
  have hA : ∀ q : Nat, s.heap.size ≤ q → A q := fun q h => by rw [← hAe]; exact Or.inr h
  have hS : va_S A s.heap s.heap [] := va_S.rf
  have hP : va_P G.1 vwCl [(a_h, (oc1 e_wa e_le e_st e_fo e_lc a_l a_g a_b a_s a_p a_w e_gb a_bb)), (a_l, (arW G 6 f_l))] s.heap := hP
  have hl := lv_entry ([.ref a_h]) (n := 1) (Nat.le_of_ble_eq_true rfl)
  rw [lg_entry_eq]
  generalize (lg_sl ([.ref a_h]) ++ List.replicate (1 - (lg_sl ([.ref a_h])).length) Slot.unset).toArray = ls at hl ⊢
  have hl : lv_has ls 1 [(0, .ref a_h)] := hl
  refine lv_aload_n hx hb dX1_lawInForce_0 rfl (lv_at hl 0 rfl) ?_
  refine va_get (D := G.1) (ci := 1) (v := .int e_fo) (C := RX1) (T := TX1) (N := 13) hx hb hts inG_X1 hown hK hP 0 rfl rfl 3 (by decide) (hts _ fl_X1_22) (fun _ h9 => h9) rfl dX1_lawInForce_1 ?_
  refine lv_if_lt (tgt := 30) hx hb dX1_lawInForce_4 (by decide) (fun c_1 => ?_) (fun c_1 => ?_)
  ·
    have i_1 : e_fo.toInt < 0 := by have z := g5_lt (a := e_fo.toInt) (b := 0) (by rfl) (by decide) c_1; omega
    exact absurd (show False by omega) (fun h => h)
  ·
    have i_1 : e_fo.toInt ≥ 0 := by have z := g5_ltN (a := e_fo.toInt) (b := 0) (by rfl) (by decide) c_1; omega
    refine lv_aload_n hx hb dX1_lawInForce_7 rfl (lv_at hl 0 rfl) ?_
    refine va_get (D := G.1) (ci := 1) (v := .int e_fo) (C := RX1) (T := TX1) (N := 13) hx hb hts inG_X1 hown hK hP 0 rfl rfl 3 (by decide) (hts _ fl_X1_22) (fun _ h9 => h9) rfl dX1_lawInForce_8 ?_
    refine lv_aload_n hx hb dX1_lawInForce_11 rfl (lv_at hl 0 rfl) ?_
    refine va_get (D := G.1) (ci := 1) (v := .int e_lc) (C := RX1) (T := TX1) (N := 13) hx hb hts inG_X1 hown hK hP 0 rfl rfl 4 (by decide) (hts _ fl_X1_25) (fun _ h9 => h9) rfl dX1_lawInForce_12 ?_
    refine W.eq (g2 := F0 m 15 ls [.int e_lc, .int e_fo]) rfl ?_
    refine lv_icmp_ge (tgt := 30) hx hb dX1_lawInForce_15 (by decide) (fun c_2 => ?_) (fun c_2 => ?_)
    ·
      have i_2 : e_fo.toInt ≥ e_lc.toInt := by have z := g5_ge (a := e_fo.toInt) (b := e_lc.toInt) (by rfl) (by rfl) c_2; omega
      exact absurd (show False by omega) (fun h => h)
    ·
      have i_2 : e_fo.toInt < e_lc.toInt := by have z := g5_geN (a := e_fo.toInt) (b := e_lc.toInt) (by rfl) (by rfl) c_2; omega
      refine lv_aload_n hx hb dX1_lawInForce_18 rfl (lv_at hl 0 rfl) ?_
      refine va_get (D := G.1) (ci := 1) (v := .ref a_l) (C := RX1) (T := TX1) (N := 13) hx hb hts inG_X1 hown hK hP 0 rfl rfl 5 (by decide) (hts _ fl_X1_30) (fun _ h9 => h9) rfl dX1_lawInForce_19 ?_
      refine lv_aload_n hx hb dX1_lawInForce_22 rfl (lv_at hl 0 rfl) ?_
      refine va_get (D := G.1) (ci := 1) (v := .int e_fo) (C := RX1) (T := TX1) (N := 13) hx hb hts inG_X1 hown hK hP 0 rfl rfl 3 (by decide) (hts _ fl_X1_22) (fun _ h9 => h9) rfl dX1_lawInForce_23 ?_
      refine W.eq (g2 := F0 m 26 ls [.int e_fo, .ref a_l]) rfl ?_
      refine va_aldq hx hb hK hP 1 4 rfl rfl (i := e_fo) (vp_in_iff.mpr ⟨by omega, by omega⟩) dX1_lawInForce_26 ?_
      refine g5_tv (v := .ref a_lo) (by rw [e_a]; rfl) ?_
      refine lv_goto (tgt := 31) hx hb dX1_lawInForce_27 (by decide) ?_
      exact W.aret (v := .ref a_lo) hx hb hr (Or.inl ⟨_, rfl⟩) (Or.inr ⟨_, rfl⟩) (fun t ht hW => ⟨⟨some a_lo, [(a_h, (oc1 e_wa e_le e_st e_fo e_lc a_l a_g a_b a_s a_p a_w e_gb a_bb)), (a_l, (arW G 6 f_l))], rfl, ⟨rfl, rfl⟩, by rw [ht]; exact hP.sub [0, 1] rfl, hD.sub [0, 1] (by decide) rfl⟩, hS.F ht⟩) hS.2.2 dX1_lawInForce_31
theorem dgX5_hungBoard_0 : ∀ r ∈ ([(0, (.lconst 0, 1)), (1, (.lstore_n 2, 1)), (2, (.iconst 0, 1)), (3, (.istore 4, 2)), (5, (.iload_n 1, 1)), (6, (.iload 4, 2)), (8, (.ishr, 1)), (9, (.ifCond .eq 55, 3)), (12, (.iload 4, 2)), (14, (.aload_n 0, 1)), (15, (.getfield 22, 3)), (18, (.getfield 98, 3)), (21, (.getfield 102, 3)), (24, (.if_icmp .ge 40, 3)), (27, (.lload_n 2, 1)), (28, (.iload_n 1, 1)), (29, (.iload 4, 2)), (31, (.ishr, 1)), (32, (.iconst 1, 1)), (33, (.iand, 1)), (34, (.ifCond .ne 7, 3)), (37, (.lconst 0, 1)), (38, (.goto 18, 3)), (41, (.lconst 1, 1)), (42, (.aload_n 0, 1)), (43, (.getfield 22, 3)), (46, (.getfield 98, 3)), (49, (.iload 4, 2)), (51, (.iconst 0, 1)), (52, (.invokevirtual 107, 3)), (55, (.lshl, 1)), (56, (.lor, 1)), (57, (.lstore_n 2, 1)), (58, (.iinc 4 1, 3)), (61, (.goto (-56), 3)), (64, (.lload_n 2, 1)), (65, (.lreturn, 1))] : List (Nat × (Instr × Nat))), decode cX5_hungBoard r.1 = .ok r.2 := by decide +kernel
theorem dX5_hungBoard_0 : decode cX5_hungBoard 0 = .ok (.lconst 0, 1) := dgX5_hungBoard_0 (0, (.lconst 0, 1)) (List.mem_of_getElem? (i := 0) rfl)
theorem dX5_hungBoard_1 : decode cX5_hungBoard 1 = .ok (.lstore_n 2, 1) := dgX5_hungBoard_0 (1, (.lstore_n 2, 1)) (List.mem_of_getElem? (i := 1) rfl)
theorem dX5_hungBoard_2 : decode cX5_hungBoard 2 = .ok (.iconst 0, 1) := dgX5_hungBoard_0 (2, (.iconst 0, 1)) (List.mem_of_getElem? (i := 2) rfl)
theorem dX5_hungBoard_3 : decode cX5_hungBoard 3 = .ok (.istore 4, 2) := dgX5_hungBoard_0 (3, (.istore 4, 2)) (List.mem_of_getElem? (i := 3) rfl)
theorem dX5_hungBoard_5 : decode cX5_hungBoard 5 = .ok (.iload_n 1, 1) := dgX5_hungBoard_0 (5, (.iload_n 1, 1)) (List.mem_of_getElem? (i := 4) rfl)
theorem dX5_hungBoard_6 : decode cX5_hungBoard 6 = .ok (.iload 4, 2) := dgX5_hungBoard_0 (6, (.iload 4, 2)) (List.mem_of_getElem? (i := 5) rfl)
theorem dX5_hungBoard_8 : decode cX5_hungBoard 8 = .ok (.ishr, 1) := dgX5_hungBoard_0 (8, (.ishr, 1)) (List.mem_of_getElem? (i := 6) rfl)
theorem dX5_hungBoard_9 : decode cX5_hungBoard 9 = .ok (.ifCond .eq 55, 3) := dgX5_hungBoard_0 (9, (.ifCond .eq 55, 3)) (List.mem_of_getElem? (i := 7) rfl)
theorem dX5_hungBoard_12 : decode cX5_hungBoard 12 = .ok (.iload 4, 2) := dgX5_hungBoard_0 (12, (.iload 4, 2)) (List.mem_of_getElem? (i := 8) rfl)
theorem dX5_hungBoard_14 : decode cX5_hungBoard 14 = .ok (.aload_n 0, 1) := dgX5_hungBoard_0 (14, (.aload_n 0, 1)) (List.mem_of_getElem? (i := 9) rfl)
theorem dX5_hungBoard_15 : decode cX5_hungBoard 15 = .ok (.getfield 22, 3) := dgX5_hungBoard_0 (15, (.getfield 22, 3)) (List.mem_of_getElem? (i := 10) rfl)
theorem dX5_hungBoard_18 : decode cX5_hungBoard 18 = .ok (.getfield 98, 3) := dgX5_hungBoard_0 (18, (.getfield 98, 3)) (List.mem_of_getElem? (i := 11) rfl)
theorem dX5_hungBoard_21 : decode cX5_hungBoard 21 = .ok (.getfield 102, 3) := dgX5_hungBoard_0 (21, (.getfield 102, 3)) (List.mem_of_getElem? (i := 12) rfl)
theorem dX5_hungBoard_24 : decode cX5_hungBoard 24 = .ok (.if_icmp .ge 40, 3) := dgX5_hungBoard_0 (24, (.if_icmp .ge 40, 3)) (List.mem_of_getElem? (i := 13) rfl)
theorem dX5_hungBoard_27 : decode cX5_hungBoard 27 = .ok (.lload_n 2, 1) := dgX5_hungBoard_0 (27, (.lload_n 2, 1)) (List.mem_of_getElem? (i := 14) rfl)
theorem dX5_hungBoard_28 : decode cX5_hungBoard 28 = .ok (.iload_n 1, 1) := dgX5_hungBoard_0 (28, (.iload_n 1, 1)) (List.mem_of_getElem? (i := 15) rfl)
theorem dX5_hungBoard_29 : decode cX5_hungBoard 29 = .ok (.iload 4, 2) := dgX5_hungBoard_0 (29, (.iload 4, 2)) (List.mem_of_getElem? (i := 16) rfl)
theorem dX5_hungBoard_31 : decode cX5_hungBoard 31 = .ok (.ishr, 1) := dgX5_hungBoard_0 (31, (.ishr, 1)) (List.mem_of_getElem? (i := 17) rfl)
theorem dX5_hungBoard_32 : decode cX5_hungBoard 32 = .ok (.iconst 1, 1) := dgX5_hungBoard_0 (32, (.iconst 1, 1)) (List.mem_of_getElem? (i := 18) rfl)
theorem dX5_hungBoard_33 : decode cX5_hungBoard 33 = .ok (.iand, 1) := dgX5_hungBoard_0 (33, (.iand, 1)) (List.mem_of_getElem? (i := 19) rfl)
theorem dX5_hungBoard_34 : decode cX5_hungBoard 34 = .ok (.ifCond .ne 7, 3) := dgX5_hungBoard_0 (34, (.ifCond .ne 7, 3)) (List.mem_of_getElem? (i := 20) rfl)
theorem dX5_hungBoard_37 : decode cX5_hungBoard 37 = .ok (.lconst 0, 1) := dgX5_hungBoard_0 (37, (.lconst 0, 1)) (List.mem_of_getElem? (i := 21) rfl)
theorem dX5_hungBoard_38 : decode cX5_hungBoard 38 = .ok (.goto 18, 3) := dgX5_hungBoard_0 (38, (.goto 18, 3)) (List.mem_of_getElem? (i := 22) rfl)
theorem dX5_hungBoard_41 : decode cX5_hungBoard 41 = .ok (.lconst 1, 1) := dgX5_hungBoard_0 (41, (.lconst 1, 1)) (List.mem_of_getElem? (i := 23) rfl)
theorem dX5_hungBoard_42 : decode cX5_hungBoard 42 = .ok (.aload_n 0, 1) := dgX5_hungBoard_0 (42, (.aload_n 0, 1)) (List.mem_of_getElem? (i := 24) rfl)
theorem dX5_hungBoard_43 : decode cX5_hungBoard 43 = .ok (.getfield 22, 3) := dgX5_hungBoard_0 (43, (.getfield 22, 3)) (List.mem_of_getElem? (i := 25) rfl)
theorem dX5_hungBoard_46 : decode cX5_hungBoard 46 = .ok (.getfield 98, 3) := dgX5_hungBoard_0 (46, (.getfield 98, 3)) (List.mem_of_getElem? (i := 26) rfl)
theorem dX5_hungBoard_49 : decode cX5_hungBoard 49 = .ok (.iload 4, 2) := dgX5_hungBoard_0 (49, (.iload 4, 2)) (List.mem_of_getElem? (i := 27) rfl)
theorem dX5_hungBoard_51 : decode cX5_hungBoard 51 = .ok (.iconst 0, 1) := dgX5_hungBoard_0 (51, (.iconst 0, 1)) (List.mem_of_getElem? (i := 28) rfl)
theorem dX5_hungBoard_52 : decode cX5_hungBoard 52 = .ok (.invokevirtual 107, 3) := dgX5_hungBoard_0 (52, (.invokevirtual 107, 3)) (List.mem_of_getElem? (i := 29) rfl)
theorem dX5_hungBoard_55 : decode cX5_hungBoard 55 = .ok (.lshl, 1) := dgX5_hungBoard_0 (55, (.lshl, 1)) (List.mem_of_getElem? (i := 30) rfl)
theorem dX5_hungBoard_56 : decode cX5_hungBoard 56 = .ok (.lor, 1) := dgX5_hungBoard_0 (56, (.lor, 1)) (List.mem_of_getElem? (i := 31) rfl)
theorem dX5_hungBoard_57 : decode cX5_hungBoard 57 = .ok (.lstore_n 2, 1) := dgX5_hungBoard_0 (57, (.lstore_n 2, 1)) (List.mem_of_getElem? (i := 32) rfl)
theorem dX5_hungBoard_58 : decode cX5_hungBoard 58 = .ok (.iinc 4 1, 3) := dgX5_hungBoard_0 (58, (.iinc 4 1, 3)) (List.mem_of_getElem? (i := 33) rfl)
theorem dX5_hungBoard_61 : decode cX5_hungBoard 61 = .ok (.goto (-56), 3) := dgX5_hungBoard_0 (61, (.goto (-56), 3)) (List.mem_of_getElem? (i := 34) rfl)
theorem dX5_hungBoard_64 : decode cX5_hungBoard 64 = .ok (.lload_n 2, 1) := dgX5_hungBoard_0 (64, (.lload_n 2, 1)) (List.mem_of_getElem? (i := 35) rfl)
theorem dX5_hungBoard_65 : decode cX5_hungBoard 65 = .ok (.lreturn, 1) := dgX5_hungBoard_0 (65, (.lreturn, 1)) (List.mem_of_getElem? (i := 36) rfl)
theorem inG_X5 : ∀ w ∈ wsX50, w ∈ tblG := tgs [267, 269, 271, 273, 275, 277, 279, 281, 283, 285, 287, 289, 291] (by decide +kernel) (by decide +kernel)
theorem fl_X5_22 : Cond.fieldLink RX5 22 "LateGlass$Look" "house" "LLateGlass$House;" ∈ tblG := tg 243 (by decide +kernel) (by decide +kernel)
theorem fl_X5_98 : Cond.fieldLink RX5 98 "LateGlass$House" "spots" "LLateGlass$Table;" ∈ tblG := tg 183 (by decide +kernel) (by decide +kernel)
theorem fl_X5_102 : Cond.fieldLink RX5 102 "LateGlass$Table" "rows" "I" ∈ tblG := tg 141 (by decide +kernel) (by decide +kernel)
theorem ml_X5_107 : Cond.methodLink RX5 107 yX6_get ∈ tblG := tg 821 (by decide +kernel) (by decide +kernel)
theorem gV_X5_107 : GoodIn tblG (wsV RX5 107 RX6 yX6_get (wsG yX6_get cX6_get 3 (some .int))) := tgV ml_X5_107 im_X6_get se_X6_get ini_X6 gW_X6_get
set_option maxHeartbeats 4000000 in
set_option maxRecDepth 100000 in
theorem k_hung (l : Launch) (G : g5_G) (a_k a_h a_p a_pn a_j a_pt a_l a_g a_b a_s a_w a_bb : Nat) (sz : Nat) (e_le : Int32) (e_st : Int32) (e_fo : Int32) (e_lc : Int32) (e_p : Int32) (e_ln : Int32) (e_se : Int32) (e_lh : Int32) (e_br : Int32) (e_we : Int32) (e_me : Int32) (e_ce : Int32) (e_wy : Int32) (e_ho : Int32) (e_ov : Int32) (p_h : Int32) (e_wa : Int64) (e_gb : Int64) (f_p : Nat → Int32) (h_e_p : 0 ≤ e_p.toInt ∧ e_p.toInt ≤ 8) (h_e_ov : 0 ≤ e_ov.toInt ∧ e_ov.toInt ≤ 1) (e_pc : ∀ r : Int, 0 ≤ r → r < e_p.toInt → 0 ≤ (tget f_p e_p.toInt 5 r (0 : Int32).toInt).toInt ∧ (tget f_p e_p.toInt 5 r (0 : Int32).toInt).toInt ≤ 63) : Met l yX5_hungBoard (wsG yX5_hungBoard cX5_hungBoard 5 (some .long)) ({ frames := 1, cells := 0, slots := 0, locals := 22 }) (va_Pc [.ref a_k, .int p_h] (g5_P G [(a_k, (oc5 a_h a_j a_pt e_ln e_se e_lh e_br e_we e_me e_ce e_wy e_ho e_ov)), (a_h, (oc1 e_wa e_le e_st e_fo e_lc a_l a_g a_b a_s a_p a_w e_gb a_bb)), (a_p, (oc6 8 5 a_pn e_p)), (a_pn, (arI G 40 f_p))] sz)) (va_Ql (fun (r : Int64) (u : va_W) => (∃ (o_r : Int64), (inT o_r f_p e_p.toInt) ∧ (r = o_r) ∧ (u = [(a_k, (oc5 a_h a_j a_pt e_ln e_se e_lh e_br e_we e_me e_ce e_wy e_ho e_ov)), (a_h, (oc1 e_wa e_le e_st e_fo e_lc a_l a_g a_b a_s a_p a_w e_gb a_bb)), (a_p, (oc6 8 5 a_pn e_p)), (a_pn, (arI G 40 f_p))]))) (g5_B G (va_A [(a_k, (oc5 a_h a_j a_pt e_ln e_se e_lh e_br e_we e_me e_ce e_wy e_ho e_ov)), (a_h, (oc1 e_wa e_le e_st e_fo e_lc a_l a_g a_b a_s a_p a_w e_gb a_bb)), (a_p, (oc6 8 5 a_pn e_p)), (a_pn, (arI G 40 f_p))] sz)) (va_A [(a_k, (oc5 a_h a_j a_pt e_ln e_se e_lh e_br e_we e_me e_ce e_wy e_ho e_ov)), (a_h, (oc1 e_wa e_le e_st e_fo e_lc a_l a_g a_b a_s a_p a_w e_gb a_bb)), (a_p, (oc6 8 5 a_pn e_p)), (a_pn, (arI G 40 f_p))] sz)) 0 0 (va_A [(a_k, (oc5 a_h a_j a_pt e_ln e_se e_lh e_br e_we e_me e_ce e_wy e_ho e_ov)), (a_h, (oc1 e_wa e_le e_st e_fo e_lc a_l a_g a_b a_s a_p a_w e_gb a_bb)), (a_p, (oc6 8 5 a_pn e_p)), (a_pn, (arI G 40 f_p))] sz) := by
  refine Met.ofW (cc := cX5_hungBoard) (maxL := 5) (ret := (some .long)) (by decide +kernel) rfl ?_
  intro p e s m args below meth c s₁ B hml hv
  obtain ⟨rfl, hsz, hP, hK, hD0, hN, hT⟩ := hv
  have hx := B.exec
  have hb := B.bytes
  have hr := B.returns
  have hts : ∀ w ∈ tblG, w.before _ s = true := fun w h => atoms_spec (ws := (wsG yX5_hungBoard cX5_hungBoard 5 (some .long))) B.pre w (List.mem_cons_of_mem _ h)
  have hown : s.vm.findClass RX5 = some m.cls := findClass_of_methodNamed B.named
  have hlocks := B.notSynchronized
  subst hsz
  have hD := hD0.self (sz := s.heap.size)
  generalize hAe : va_A [(a_k, (oc5 a_h a_j a_pt e_ln e_se e_lh e_br e_we e_me e_ce e_wy e_ho e_ov)), (a_h, (oc1 e_wa e_le e_st e_fo e_lc a_l a_g a_b a_s a_p a_w e_gb a_bb)), (a_p, (oc6 8 5 a_pn e_p)), (a_pn, (arI G 40 f_p))] s.heap.size = A at hD hT ⊢
  have hA : ∀ q : Nat, s.heap.size ≤ q → A q := fun q h => by rw [← hAe]; exact Or.inr h
  have hS : va_S A s.heap s.heap [] := va_S.rf
  replace hP : va_P G.1 vwCl [(a_k, (oc5 a_h a_j a_pt e_ln e_se e_lh e_br e_we e_me e_ce e_wy e_ho e_ov)), (a_h, (oc1 e_wa e_le e_st e_fo e_lc a_l a_g a_b a_s a_p a_w e_gb a_bb)), (a_p, (oc6 8 5 a_pn e_p)), (a_pn, (arI G 40 f_p))] s.heap := hP
  have hl := lv_entry ([.ref a_k, .int p_h]) (n := 5) (Nat.le_of_ble_eq_true rfl)
  rw [lg_entry_eq]
  generalize (lg_sl ([.ref a_k, .int p_h]) ++ List.replicate (5 - (lg_sl ([.ref a_k, .int p_h])).length) Slot.unset).toArray = ls at hl ⊢
  replace hl : lv_has ls 5 [(0, .ref a_k), (1, .int p_h)] := hl
  refine lv_lconst (v := 0) hx hb dX5_hungBoard_0 (by decide +kernel) ?_
  refine lv_lstore_n (lv' := [(2, .long 0), (0, .ref a_k), (1, .int p_h)]) hx hb dX5_hungBoard_1 rfl hl (by decide +kernel) rfl ?_
  clear hl
  intro ls hl
  refine lv_iconst (v := 0) hx hb dX5_hungBoard_2 (by decide +kernel) ?_
  refine lv_istore (lv' := [(4, .int 0), (2, .long 0), (0, .ref a_k), (1, .int p_h)]) hx hb dX5_hungBoard_3 hl (by decide +kernel) rfl ?_
  clear hl
  intro ls hl
  refine g5_loop (α := (Int32) × (Int64)) (fun (q : (Int32) × (Int64)) (ls : Array Slot) (H : Heap) (locs : List Loc) => match q with | (k_s, k_x) => lv_has ls 5 [(2, .long k_x), (4, .int k_s), (0, .ref a_k), (1, .int p_h)] ∧ va_P G.1 vwCl [(a_k, (oc5 a_h a_j a_pt e_ln e_se e_lh e_br e_we e_me e_ce e_wy e_ho e_ov)), (a_h, (oc1 e_wa e_le e_st e_fo e_lc a_l a_g a_b a_s a_p a_w e_gb a_bb)), (a_p, (oc6 8 5 a_pn e_p)), (a_pn, (arI G 40 f_p))] H ∧ va_D A [(a_k, (oc5 a_h a_j a_pt e_ln e_se e_lh e_br e_we e_me e_ce e_wy e_ho e_ov)), (a_h, (oc1 e_wa e_le e_st e_fo e_lc a_l a_g a_b a_s a_p a_w e_gb a_bb)), (a_p, (oc6 8 5 a_pn e_p)), (a_pn, (arI G 40 f_p))] ∧ va_S A s.heap H locs ∧ (0 ≤ k_s.toInt ∧ k_s.toInt ≤ 8) ∧ (k_s.toInt ≤ e_p.toInt) ∧ (inT k_x f_p e_p.toInt)) (fun (q : (Int32) × (Int64)) => match q with | (k_s, k_x) => Int.toNat (8 - k_s.toInt)) (0, 0) ⟨lv_sub hl [1, 0, 2, 3] rfl, hP, hD, hS, ⟨by decide, by decide⟩, by have z0 : (0 : Int32).toInt = 0 := (by decide +kernel); omega, inT_zero⟩ ?_
  rintro ⟨k_s, k_x⟩ ls H locs ⟨hl, hP, hD, hS, (i_1 : 0 ≤ k_s.toInt ∧ k_s.toInt ≤ 8), (i_2 : k_s.toInt ≤ e_p.toInt), (i_3 : inT k_x f_p e_p.toInt)⟩ ih_5_4
  replace hl : lv_has ls 5 [(2, .long k_x), (4, .int k_s), (0, .ref a_k), (1, .int p_h)] := hl
  refine g5_rs [(a_k, (oc5 a_h a_j a_pt e_ln e_se e_lh e_br e_we e_me e_ce e_wy e_ho e_ov)), (a_h, (oc1 e_wa e_le e_st e_fo e_lc a_l a_g a_b a_s a_p a_w e_gb a_bb)), (a_p, (oc6 8 5 a_pn e_p)), (a_pn, (arI G 40 f_p))] hP hD ?_
  clear hP hD
  intro hP hD
  refine lv_iload_n hx hb dX5_hungBoard_5 rfl (lv_at hl 3 rfl) ?_
  refine lv_iload hx hb dX5_hungBoard_6 (lv_at hl 1 rfl) ?_
  refine lv_ishr hx hb dX5_hungBoard_8 ?_
  refine lv_if_eq (tgt := 64) hx hb dX5_hungBoard_9 (by decide +kernel) (fun c_5 => ?_) (fun c_5 => ?_)
  ·
    have i_5 : (p_h >>> (k_s &&& 31)).toInt = 0 := g5_eq (a := (p_h >>> (k_s &&& 31)).toInt) (b := 0) rfl (by decide +kernel) c_5
    refine lv_lload_n hx hb dX5_hungBoard_64 rfl (lv_at hl 0 rfl) ?_
    exact W.lret (v := k_x) hx hb hr (fun t ht hW => ⟨⟨k_x, [(a_k, (oc5 a_h a_j a_pt e_ln e_se e_lh e_br e_we e_me e_ce e_wy e_ho e_ov)), (a_h, (oc1 e_wa e_le e_st e_fo e_lc a_l a_g a_b a_s a_p a_w e_gb a_bb)), (a_p, (oc6 8 5 a_pn e_p)), (a_pn, (arI G 40 f_p))], rfl, ⟨k_x, i_3, rfl, rfl⟩, by rw [ht]; exact hP.sub [0, 1, 2, 3] rfl, hD.sub [0, 1, 2, 3] (by decide +kernel) rfl⟩, hS.F ht⟩) hS.2.2 dX5_hungBoard_65
  ·
    have n_5 : gNe ((p_h >>> (k_s &&& 31)).toInt) (0) := g5_eqN (a := (p_h >>> (k_s &&& 31)).toInt) (b := 0) rfl (by decide +kernel) c_5
    refine lv_iload hx hb dX5_hungBoard_12 (lv_at hl 1 rfl) ?_
    refine lv_aload_n hx hb dX5_hungBoard_14 rfl (lv_at hl 2 rfl) ?_
    refine va_get (D := G.1) (ci := 5) (v := .ref a_h) (C := RX5) (T := TX5) (N := 13) hx hb hts inG_X5 hown hK hP 0 rfl rfl 0 (by decide +kernel) (hts _ fl_X5_22) (fun _ h9 => h9) rfl dX5_hungBoard_15 ?_
    refine va_get (D := G.1) (ci := 1) (v := .ref a_p) (C := RX1) (T := TX1) (N := 13) hx hb hts inG_X1 hown hK hP 1 rfl rfl 9 (by decide +kernel) (hts _ fl_X5_98) (fun _ h9 => h9) rfl dX5_hungBoard_18 ?_
    refine W.eq (g2 := F0 m 21 ls [.ref a_p, .int k_s]) rfl ?_
    refine va_get (D := G.1) (ci := 6) (v := .int e_p) (C := RX6) (T := TX6) (N := 4) hx hb hts inG_X6 hown hK hP 2 rfl rfl 3 (by decide +kernel) (hts _ fl_X5_102) (fun _ h9 => h9) rfl dX5_hungBoard_21 ?_
    refine lv_icmp_ge (tgt := 64) hx hb dX5_hungBoard_24 (by decide +kernel) (fun c_6 => ?_) (fun c_6 => ?_)
    ·
      have i_6 : k_s.toInt ≥ e_p.toInt := g5_ge (a := k_s.toInt) (b := e_p.toInt) rfl rfl c_6
      refine lv_lload_n hx hb dX5_hungBoard_64 rfl (lv_at hl 0 rfl) ?_
      exact W.lret (v := k_x) hx hb hr (fun t ht hW => ⟨⟨k_x, [(a_k, (oc5 a_h a_j a_pt e_ln e_se e_lh e_br e_we e_me e_ce e_wy e_ho e_ov)), (a_h, (oc1 e_wa e_le e_st e_fo e_lc a_l a_g a_b a_s a_p a_w e_gb a_bb)), (a_p, (oc6 8 5 a_pn e_p)), (a_pn, (arI G 40 f_p))], rfl, ⟨k_x, i_3, rfl, rfl⟩, by rw [ht]; exact hP.sub [0, 1, 2, 3] rfl, hD.sub [0, 1, 2, 3] (by decide +kernel) rfl⟩, hS.F ht⟩) hS.2.2 dX5_hungBoard_65
    ·
      have i_6 : k_s.toInt < e_p.toInt := g5_geN (a := k_s.toInt) (b := e_p.toInt) rfl rfl c_6
      refine lv_lload_n hx hb dX5_hungBoard_27 rfl (lv_at hl 0 rfl) ?_
      refine lv_iload_n hx hb dX5_hungBoard_28 rfl (lv_at hl 3 rfl) ?_
      refine lv_iload hx hb dX5_hungBoard_29 (lv_at hl 1 rfl) ?_
      refine lv_ishr hx hb dX5_hungBoard_31 ?_
      refine W.eq (g2 := F0 m 32 ls [.int (p_h >>> (k_s &&& 31)), .long k_x]) rfl ?_
      refine lv_iconst (v := 1) hx hb dX5_hungBoard_32 (by decide +kernel) ?_
      refine lv_iand hx hb dX5_hungBoard_33 ?_
      refine lv_if_ne (tgt := 41) hx hb dX5_hungBoard_34 (by decide +kernel) (fun c_7 => ?_) (fun c_7 => ?_)
      ·
        have n_7 : gNe (((p_h >>> (k_s &&& 31)) &&& 1).toInt) (0) := g5_ne (a := ((p_h >>> (k_s &&& 31)) &&& 1).toInt) (b := 0) rfl (by decide +kernel) c_7
        refine lv_lconst (v := 1) hx hb dX5_hungBoard_41 (by decide +kernel) ?_
        refine lv_aload_n hx hb dX5_hungBoard_42 rfl (lv_at hl 2 rfl) ?_
        refine va_get (D := G.1) (ci := 5) (v := .ref a_h) (C := RX5) (T := TX5) (N := 13) hx hb hts inG_X5 hown hK hP 0 rfl rfl 0 (by decide +kernel) (hts _ fl_X5_22) (fun _ h9 => h9) rfl dX5_hungBoard_43 ?_
        refine va_get (D := G.1) (ci := 1) (v := .ref a_p) (C := RX1) (T := TX1) (N := 13) hx hb hts inG_X1 hown hK hP 1 rfl rfl 9 (by decide +kernel) (hts _ fl_X5_98) (fun _ h9 => h9) rfl dX5_hungBoard_46 ?_
        refine W.eq (g2 := F0 m 49 ls [.ref a_p, .long 1, .long k_x]) rfl ?_
        refine lv_iload hx hb dX5_hungBoard_49 (lv_at hl 1 rfl) ?_
        refine lv_iconst (v := 0) hx hb dX5_hungBoard_51 (by decide +kernel) ?_
        obtain ⟨hPc, hDc, hFc⟩ := g5_sub3 (wc := [(a_p, (oc6 8 5 a_pn e_p)), (a_pn, (arI G 40 f_p))]) hP hD hS hA [2, 3] (by decide +kernel) rfl
        refine va_calli (va_runV (As := [.int k_s, .int 0]) (rest := [.long 1, .long k_x]) ⟨hx, hb, hml, hown, hts⟩ (t_get_P l G a_p a_pn H.size e_p k_s 0 f_p h_e_p) (cwV 2 hts gV_X5_107 rfl rfl rfl hv_X6_get ⟨Nat.le_of_ble_eq_true rfl, Nat.le_of_ble_eq_true rfl⟩) (g5_preV hPc hK hDc hN hT hS hFc (ci := 6) (q0 := 0) rfl rfl) rfl rfl hl.1 rfl (lv_room (Nat.le_of_ble_eq_true rfl)) dX5_hungBoard_52 ⟨Nat.le_of_ble_eq_true rfl, Nat.le_of_ble_eq_true rfl⟩) hS (fun q _ h => hFc q h) hFc (fun r u t H locs ht hvm hw hB hz1 hk1 hS => ?_)
        obtain ⟨hP1, hD1⟩ := hB
        have hP1 := g5_ht ht hP1
        obtain ⟨z9, (i_8 : z9 = tget f_p e_p.toInt 5 k_s.toInt (0 : Int32).toInt), y10, rfl⟩ := hw
        have hJ9 := va_join (wr := [(a_k, (oc5 a_h a_j a_pt e_ln e_se e_lh e_br e_we e_me e_ce e_wy e_ho e_ov)), (a_h, (oc1 e_wa e_le e_st e_fo e_lc a_l a_g a_b a_s a_p a_w e_gb a_bb))]) hP hD [2, 3] [0, 1] rfl rfl (by decide +kernel) (by decide +kernel) hk1 hFc hP1 hD1
        clear hP hD hPc hDc hFc ht hvm hz1 hk1 hP1 hD1
        obtain ⟨hP, hD⟩ := hJ9
        refine g5_rs [(a_k, (oc5 a_h a_j a_pt e_ln e_se e_lh e_br e_we e_me e_ce e_wy e_ho e_ov)), (a_h, (oc1 e_wa e_le e_st e_fo e_lc a_l a_g a_b a_s a_p a_w e_gb a_bb)), (a_p, (oc6 8 5 a_pn e_p)), (a_pn, (arI G 40 f_p))] hP hD ?_
        clear hP hD
        intro hP hD
        refine g5_ti (v := z9) y10 ?_
        refine lv_lshl (v := ((1 : Int64) <<< (z9.toInt64 &&& 63))) hx hb dX5_hungBoard_55 rfl ?_
        refine lv_lor hx hb dX5_hungBoard_56 ?_
        refine W.eq (g2 := F0 m 57 ls [.long (k_x ||| ((1 : Int64) <<< (z9.toInt64 &&& 63)))]) rfl ?_
        refine lv_lstore_n (lv' := [(2, .long (k_x ||| ((1 : Int64) <<< (z9.toInt64 &&& 63)))), (4, .int k_s), (0, .ref a_k), (1, .int p_h)]) hx hb dX5_hungBoard_57 rfl hl (by decide +kernel) rfl ?_
        clear hl
        intro ls hl
        refine lv_iinc (v := (k_s + 1)) (lv' := [(4, .int (k_s + 1)), (2, .long (k_x ||| ((1 : Int64) <<< (z9.toInt64 &&& 63)))), (0, .ref a_k), (1, .int p_h)]) hx hb dX5_hungBoard_58 hl (k := 1) rfl rfl (by decide +kernel) rfl ?_
        clear hl
        intro ls hl
        have t_11 : (k_s + 1).toInt = k_s.toInt + 1 := g5_iadd (a := k_s.toInt) (b := 1) rfl (by decide +kernel) (by omega) (by omega)
        refine lv_goto (tgt := 5) hx hb dX5_hungBoard_61 (by decide +kernel) ?_
        exact ih_5_4 ((k_s + 1), (k_x ||| ((1 : Int64) <<< (z9.toInt64 &&& 63)))) ls H locs (show Int.toNat (8 - (k_s + 1).toInt) < Int.toNat (8 - k_s.toInt) from g_up (show k_s.toInt < (k_s + 1).toInt by omega) (show k_s.toInt < 8 by omega)) ⟨lv_sub hl [1, 0, 2, 3] rfl, hP, hD, hS, ⟨by omega, by omega⟩, by omega, inT_or i_3 i_8 (by omega) (by rw [i_8]; exact e_pc _ (by omega) (by omega))⟩
      ·
        have i_7 : ((p_h >>> (k_s &&& 31)) &&& 1).toInt = 0 := g5_neN (a := ((p_h >>> (k_s &&& 31)) &&& 1).toInt) (b := 0) rfl (by decide +kernel) c_7
        refine lv_lconst (v := 0) hx hb dX5_hungBoard_37 (by decide +kernel) ?_
        refine lv_goto (tgt := 56) hx hb dX5_hungBoard_38 (by decide +kernel) ?_
        refine lv_lor hx hb dX5_hungBoard_56 ?_
        refine g5_tl (v := k_x) (by simp) ?_
        refine lv_lstore_n (lv' := [(2, .long k_x), (4, .int k_s), (0, .ref a_k), (1, .int p_h)]) hx hb dX5_hungBoard_57 rfl hl (by decide +kernel) rfl ?_
        clear hl
        intro ls hl
        refine W.eq (g2 := F0 m 58 ls []) rfl ?_
        refine lv_iinc (v := (k_s + 1)) (lv' := [(4, .int (k_s + 1)), (2, .long k_x), (0, .ref a_k), (1, .int p_h)]) hx hb dX5_hungBoard_58 hl (k := 1) rfl rfl (by decide +kernel) rfl ?_
        clear hl
        intro ls hl
        have t_12 : (k_s + 1).toInt = k_s.toInt + 1 := g5_iadd (a := k_s.toInt) (b := 1) rfl (by decide +kernel) (by omega) (by omega)
        refine lv_goto (tgt := 5) hx hb dX5_hungBoard_61 (by decide +kernel) ?_
        exact ih_5_4 ((k_s + 1), k_x) ls H locs (show Int.toNat (8 - (k_s + 1).toInt) < Int.toNat (8 - k_s.toInt) from g_up (show k_s.toInt < (k_s + 1).toInt by omega) (show k_s.toInt < 8 by omega)) ⟨lv_sub hl [1, 0, 2, 3] rfl, hP, hD, hS, ⟨by omega, by omega⟩, by omega, i_3⟩
theorem dgX5_ask_0 : ∀ r ∈ ([(0, (.aload_n 0, 1)), (1, (.getfield 12, 3)), (4, (.getfield 110, 3)), (7, (.astore_n 3, 1)), (8, (.aload_n 3, 1)), (9, (.iconst 0, 1)), (10, (.iload_n 1, 1)), (11, (.iastore, 1)), (12, (.aload_n 3, 1)), (13, (.iconst 1, 1)), (14, (.aload_n 0, 1)), (15, (.getfield 26, 3)), (18, (.bipush 7, 2)), (20, (.iand, 1)), (21, (.iastore, 1)), (22, (.aload_n 3, 1)), (23, (.iconst 2, 1)), (24, (.aload_n 0, 1)), (25, (.getfield 26, 3)), (28, (.iconst 3, 1)), (29, (.ishr, 1)), (30, (.iastore, 1)), (31, (.aload_n 3, 1)), (32, (.iconst 3, 1)), (33, (.aload_n 0, 1)), (34, (.getfield 33, 3)), (37, (.iastore, 1)), (38, (.aload_n 3, 1)), (39, (.iconst 4, 1)), (40, (.aload_n 0, 1)), (41, (.getfield 30, 3)), (44, (.iastore, 1)), (45, (.aload_n 3, 1)), (46, (.iconst 5, 1)), (47, (.iload_n 2, 1)), (48, (.iastore, 1)), (49, (.aload_n 3, 1)), (50, (.bipush 6, 2)), (52, (.aload_n 0, 1)), (53, (.getfield 36, 3))] : List (Nat × (Instr × Nat))), decode cX5_ask r.1 = .ok r.2 := by decide +kernel
theorem dX5_ask_0 : decode cX5_ask 0 = .ok (.aload_n 0, 1) := dgX5_ask_0 (0, (.aload_n 0, 1)) (List.mem_of_getElem? (i := 0) rfl)
theorem dX5_ask_1 : decode cX5_ask 1 = .ok (.getfield 12, 3) := dgX5_ask_0 (1, (.getfield 12, 3)) (List.mem_of_getElem? (i := 1) rfl)
theorem dX5_ask_4 : decode cX5_ask 4 = .ok (.getfield 110, 3) := dgX5_ask_0 (4, (.getfield 110, 3)) (List.mem_of_getElem? (i := 2) rfl)
theorem dX5_ask_7 : decode cX5_ask 7 = .ok (.astore_n 3, 1) := dgX5_ask_0 (7, (.astore_n 3, 1)) (List.mem_of_getElem? (i := 3) rfl)
theorem dX5_ask_8 : decode cX5_ask 8 = .ok (.aload_n 3, 1) := dgX5_ask_0 (8, (.aload_n 3, 1)) (List.mem_of_getElem? (i := 4) rfl)
theorem dX5_ask_9 : decode cX5_ask 9 = .ok (.iconst 0, 1) := dgX5_ask_0 (9, (.iconst 0, 1)) (List.mem_of_getElem? (i := 5) rfl)
theorem dX5_ask_10 : decode cX5_ask 10 = .ok (.iload_n 1, 1) := dgX5_ask_0 (10, (.iload_n 1, 1)) (List.mem_of_getElem? (i := 6) rfl)
theorem dX5_ask_11 : decode cX5_ask 11 = .ok (.iastore, 1) := dgX5_ask_0 (11, (.iastore, 1)) (List.mem_of_getElem? (i := 7) rfl)
theorem dX5_ask_12 : decode cX5_ask 12 = .ok (.aload_n 3, 1) := dgX5_ask_0 (12, (.aload_n 3, 1)) (List.mem_of_getElem? (i := 8) rfl)
theorem dX5_ask_13 : decode cX5_ask 13 = .ok (.iconst 1, 1) := dgX5_ask_0 (13, (.iconst 1, 1)) (List.mem_of_getElem? (i := 9) rfl)
theorem dX5_ask_14 : decode cX5_ask 14 = .ok (.aload_n 0, 1) := dgX5_ask_0 (14, (.aload_n 0, 1)) (List.mem_of_getElem? (i := 10) rfl)
theorem dX5_ask_15 : decode cX5_ask 15 = .ok (.getfield 26, 3) := dgX5_ask_0 (15, (.getfield 26, 3)) (List.mem_of_getElem? (i := 11) rfl)
theorem dX5_ask_18 : decode cX5_ask 18 = .ok (.bipush 7, 2) := dgX5_ask_0 (18, (.bipush 7, 2)) (List.mem_of_getElem? (i := 12) rfl)
theorem dX5_ask_20 : decode cX5_ask 20 = .ok (.iand, 1) := dgX5_ask_0 (20, (.iand, 1)) (List.mem_of_getElem? (i := 13) rfl)
theorem dX5_ask_21 : decode cX5_ask 21 = .ok (.iastore, 1) := dgX5_ask_0 (21, (.iastore, 1)) (List.mem_of_getElem? (i := 14) rfl)
theorem dX5_ask_22 : decode cX5_ask 22 = .ok (.aload_n 3, 1) := dgX5_ask_0 (22, (.aload_n 3, 1)) (List.mem_of_getElem? (i := 15) rfl)
theorem dX5_ask_23 : decode cX5_ask 23 = .ok (.iconst 2, 1) := dgX5_ask_0 (23, (.iconst 2, 1)) (List.mem_of_getElem? (i := 16) rfl)
theorem dX5_ask_24 : decode cX5_ask 24 = .ok (.aload_n 0, 1) := dgX5_ask_0 (24, (.aload_n 0, 1)) (List.mem_of_getElem? (i := 17) rfl)
theorem dX5_ask_25 : decode cX5_ask 25 = .ok (.getfield 26, 3) := dgX5_ask_0 (25, (.getfield 26, 3)) (List.mem_of_getElem? (i := 18) rfl)
theorem dX5_ask_28 : decode cX5_ask 28 = .ok (.iconst 3, 1) := dgX5_ask_0 (28, (.iconst 3, 1)) (List.mem_of_getElem? (i := 19) rfl)
theorem dX5_ask_29 : decode cX5_ask 29 = .ok (.ishr, 1) := dgX5_ask_0 (29, (.ishr, 1)) (List.mem_of_getElem? (i := 20) rfl)
theorem dX5_ask_30 : decode cX5_ask 30 = .ok (.iastore, 1) := dgX5_ask_0 (30, (.iastore, 1)) (List.mem_of_getElem? (i := 21) rfl)
theorem dX5_ask_31 : decode cX5_ask 31 = .ok (.aload_n 3, 1) := dgX5_ask_0 (31, (.aload_n 3, 1)) (List.mem_of_getElem? (i := 22) rfl)
theorem dX5_ask_32 : decode cX5_ask 32 = .ok (.iconst 3, 1) := dgX5_ask_0 (32, (.iconst 3, 1)) (List.mem_of_getElem? (i := 23) rfl)
theorem dX5_ask_33 : decode cX5_ask 33 = .ok (.aload_n 0, 1) := dgX5_ask_0 (33, (.aload_n 0, 1)) (List.mem_of_getElem? (i := 24) rfl)
theorem dX5_ask_34 : decode cX5_ask 34 = .ok (.getfield 33, 3) := dgX5_ask_0 (34, (.getfield 33, 3)) (List.mem_of_getElem? (i := 25) rfl)
theorem dX5_ask_37 : decode cX5_ask 37 = .ok (.iastore, 1) := dgX5_ask_0 (37, (.iastore, 1)) (List.mem_of_getElem? (i := 26) rfl)
theorem dX5_ask_38 : decode cX5_ask 38 = .ok (.aload_n 3, 1) := dgX5_ask_0 (38, (.aload_n 3, 1)) (List.mem_of_getElem? (i := 27) rfl)
theorem dX5_ask_39 : decode cX5_ask 39 = .ok (.iconst 4, 1) := dgX5_ask_0 (39, (.iconst 4, 1)) (List.mem_of_getElem? (i := 28) rfl)
theorem dX5_ask_40 : decode cX5_ask 40 = .ok (.aload_n 0, 1) := dgX5_ask_0 (40, (.aload_n 0, 1)) (List.mem_of_getElem? (i := 29) rfl)
theorem dX5_ask_41 : decode cX5_ask 41 = .ok (.getfield 30, 3) := dgX5_ask_0 (41, (.getfield 30, 3)) (List.mem_of_getElem? (i := 30) rfl)
theorem dX5_ask_44 : decode cX5_ask 44 = .ok (.iastore, 1) := dgX5_ask_0 (44, (.iastore, 1)) (List.mem_of_getElem? (i := 31) rfl)
theorem dX5_ask_45 : decode cX5_ask 45 = .ok (.aload_n 3, 1) := dgX5_ask_0 (45, (.aload_n 3, 1)) (List.mem_of_getElem? (i := 32) rfl)
theorem dX5_ask_46 : decode cX5_ask 46 = .ok (.iconst 5, 1) := dgX5_ask_0 (46, (.iconst 5, 1)) (List.mem_of_getElem? (i := 33) rfl)
theorem dX5_ask_47 : decode cX5_ask 47 = .ok (.iload_n 2, 1) := dgX5_ask_0 (47, (.iload_n 2, 1)) (List.mem_of_getElem? (i := 34) rfl)
theorem dX5_ask_48 : decode cX5_ask 48 = .ok (.iastore, 1) := dgX5_ask_0 (48, (.iastore, 1)) (List.mem_of_getElem? (i := 35) rfl)
theorem dX5_ask_49 : decode cX5_ask 49 = .ok (.aload_n 3, 1) := dgX5_ask_0 (49, (.aload_n 3, 1)) (List.mem_of_getElem? (i := 36) rfl)
theorem dX5_ask_50 : decode cX5_ask 50 = .ok (.bipush 6, 2) := dgX5_ask_0 (50, (.bipush 6, 2)) (List.mem_of_getElem? (i := 37) rfl)
theorem dX5_ask_52 : decode cX5_ask 52 = .ok (.aload_n 0, 1) := dgX5_ask_0 (52, (.aload_n 0, 1)) (List.mem_of_getElem? (i := 38) rfl)
theorem dX5_ask_53 : decode cX5_ask 53 = .ok (.getfield 36, 3) := dgX5_ask_0 (53, (.getfield 36, 3)) (List.mem_of_getElem? (i := 39) rfl)
theorem dgX5_ask_1 : ∀ r ∈ ([(56, (.iastore, 1)), (57, (.aload_n 3, 1)), (58, (.bipush 7, 2)), (60, (.aload_n 0, 1)), (61, (.getfield 46, 3)), (64, (.sipush 1000, 3)), (67, (.idiv, 1)), (68, (.iastore, 1)), (69, (.return_, 1))] : List (Nat × (Instr × Nat))), decode cX5_ask r.1 = .ok r.2 := by decide +kernel
theorem dX5_ask_56 : decode cX5_ask 56 = .ok (.iastore, 1) := dgX5_ask_1 (56, (.iastore, 1)) (List.mem_of_getElem? (i := 0) rfl)
theorem dX5_ask_57 : decode cX5_ask 57 = .ok (.aload_n 3, 1) := dgX5_ask_1 (57, (.aload_n 3, 1)) (List.mem_of_getElem? (i := 1) rfl)
theorem dX5_ask_58 : decode cX5_ask 58 = .ok (.bipush 7, 2) := dgX5_ask_1 (58, (.bipush 7, 2)) (List.mem_of_getElem? (i := 2) rfl)
theorem dX5_ask_60 : decode cX5_ask 60 = .ok (.aload_n 0, 1) := dgX5_ask_1 (60, (.aload_n 0, 1)) (List.mem_of_getElem? (i := 3) rfl)
theorem dX5_ask_61 : decode cX5_ask 61 = .ok (.getfield 46, 3) := dgX5_ask_1 (61, (.getfield 46, 3)) (List.mem_of_getElem? (i := 4) rfl)
theorem dX5_ask_64 : decode cX5_ask 64 = .ok (.sipush 1000, 3) := dgX5_ask_1 (64, (.sipush 1000, 3)) (List.mem_of_getElem? (i := 5) rfl)
theorem dX5_ask_67 : decode cX5_ask 67 = .ok (.idiv, 1) := dgX5_ask_1 (67, (.idiv, 1)) (List.mem_of_getElem? (i := 6) rfl)
theorem dX5_ask_68 : decode cX5_ask 68 = .ok (.iastore, 1) := dgX5_ask_1 (68, (.iastore, 1)) (List.mem_of_getElem? (i := 7) rfl)
theorem dX5_ask_69 : decode cX5_ask 69 = .ok (.return_, 1) := dgX5_ask_1 (69, (.return_, 1)) (List.mem_of_getElem? (i := 8) rfl)
theorem fl_X5_12 : Cond.fieldLink RX5 12 "LateGlass$Look" "judge" "LLateGlass$Judge;" ∈ tblG := tg 244 (by decide +kernel) (by decide +kernel)
theorem fl_X5_110 : Cond.fieldLink RX5 110 "LateGlass$Judge" "asked" "[I" ∈ tblG := tg 235 (by decide +kernel) (by decide +kernel)
theorem fl_X5_26 : Cond.fieldLink RX5 26 "LateGlass$Look" "cell" "I" ∈ tblG := tg 263 (by decide +kernel) (by decide +kernel)
theorem fl_X5_33 : Cond.fieldLink RX5 33 "LateGlass$Look" "hour" "I" ∈ tblG := tg 265 (by decide +kernel) (by decide +kernel)
theorem fl_X5_30 : Cond.fieldLink RX5 30 "LateGlass$Look" "way" "I" ∈ tblG := tg 264 (by decide +kernel) (by decide +kernel)
theorem fl_X5_36 : Cond.fieldLink RX5 36 "LateGlass$Look" "length" "I" ∈ tblG := tg 249 (by decide +kernel) (by decide +kernel)
theorem fl_X5_46 : Cond.fieldLink RX5 46 "LateGlass$Look" "bright" "I" ∈ tblG := tg 257 (by decide +kernel) (by decide +kernel)
set_option maxHeartbeats 4000000 in
set_option maxRecDepth 100000 in
theorem k_ask (l : Launch) (G : g5_G) (a_k a_j a_as a_h a_pt a_sk : Nat) (sz : Nat) (e_ln : Int32) (e_se : Int32) (e_lh : Int32) (e_br : Int32) (e_we : Int32) (e_me : Int32) (e_ce : Int32) (e_wy : Int32) (e_ho : Int32) (e_ov : Int32) (p_g : Int32) (p_b : Int32) (f_as : Nat → Int32) (h_e_br : 0 ≤ e_br.toInt ∧ e_br.toInt ≤ 1000000) (h_e_ce : 0 ≤ e_ce.toInt ∧ e_ce.toInt ≤ 63) (h_e_wy : 0 ≤ e_wy.toInt ∧ e_wy.toInt ≤ 3) (h_e_ho : 0 ≤ e_ho.toInt ∧ e_ho.toInt ≤ 23) (h_e_ov : 0 ≤ e_ov.toInt ∧ e_ov.toInt ≤ 1) : Met l yX5_ask (wsG yX5_ask cX5_ask 4 none) ({ frames := 0, cells := 0, slots := 0, locals := 0 }) (va_Pc [.ref a_k, .int p_g, .int p_b] (g5_P G [(a_k, (oc5 a_h a_j a_pt e_ln e_se e_lh e_br e_we e_me e_ce e_wy e_ho e_ov)), (a_j, (oc2 a_as a_sk)), (a_as, (arI G 8 f_as))] sz)) (va_Qv (fun (u : va_W) => (∃ (o_a : Nat → Int32), (u = [(a_k, (oc5 a_h a_j a_pt e_ln e_se e_lh e_br e_we e_me e_ce e_wy e_ho e_ov)), (a_j, (oc2 a_as a_sk)), (a_as, (arI G 8 o_a))]))) (g5_B G (va_A [(a_k, (oc5 a_h a_j a_pt e_ln e_se e_lh e_br e_we e_me e_ce e_wy e_ho e_ov)), (a_j, (oc2 a_as a_sk)), (a_as, (arI G 8 f_as))] sz)) (va_A [(a_k, (oc5 a_h a_j a_pt e_ln e_se e_lh e_br e_we e_me e_ce e_wy e_ho e_ov)), (a_j, (oc2 a_as a_sk)), (a_as, (arI G 8 f_as))] sz)) 0 0 (va_A [(a_k, (oc5 a_h a_j a_pt e_ln e_se e_lh e_br e_we e_me e_ce e_wy e_ho e_ov)), (a_j, (oc2 a_as a_sk)), (a_as, (arI G 8 f_as))] sz) := by
  refine Met.ofW (cc := cX5_ask) (maxL := 4) (ret := none) (by decide +kernel) rfl ?_
  intro p e s m args below meth c s₁ B hml hv
  obtain ⟨rfl, hsz, hP, hK, hD0, hN, hT⟩ := hv
  have hx := B.exec
  have hb := B.bytes
  have hr := B.returns
  have hts : ∀ w ∈ tblG, w.before _ s = true := fun w h => atoms_spec (ws := (wsG yX5_ask cX5_ask 4 none)) B.pre w (List.mem_cons_of_mem _ h)
  have hown : s.vm.findClass RX5 = some m.cls := findClass_of_methodNamed B.named
  have hlocks := B.notSynchronized
  subst hsz
  have hD := hD0.self (sz := s.heap.size)
  generalize hAe : va_A [(a_k, (oc5 a_h a_j a_pt e_ln e_se e_lh e_br e_we e_me e_ce e_wy e_ho e_ov)), (a_j, (oc2 a_as a_sk)), (a_as, (arI G 8 f_as))] s.heap.size = A at hD hT ⊢
  have hA : ∀ q : Nat, s.heap.size ≤ q → A q := fun q h => by rw [← hAe]; exact Or.inr h
  have hS : va_S A s.heap s.heap [] := va_S.rf
  replace hP : va_P G.1 vwCl [(a_k, (oc5 a_h a_j a_pt e_ln e_se e_lh e_br e_we e_me e_ce e_wy e_ho e_ov)), (a_j, (oc2 a_as a_sk)), (a_as, (arI G 8 f_as))] s.heap := hP
  have hl := lv_entry ([.ref a_k, .int p_g, .int p_b]) (n := 4) (Nat.le_of_ble_eq_true rfl)
  rw [lg_entry_eq]
  generalize (lg_sl ([.ref a_k, .int p_g, .int p_b]) ++ List.replicate (4 - (lg_sl ([.ref a_k, .int p_g, .int p_b])).length) Slot.unset).toArray = ls at hl ⊢
  replace hl : lv_has ls 4 [(0, .ref a_k), (1, .int p_g), (2, .int p_b)] := hl
  refine lv_aload_n hx hb dX5_ask_0 rfl (lv_at hl 0 rfl) ?_
  refine va_get (D := G.1) (ci := 5) (v := .ref a_j) (C := RX5) (T := TX5) (N := 13) hx hb hts inG_X5 hown hK hP 0 rfl rfl 1 (by decide +kernel) (hts _ fl_X5_12) (fun _ h9 => h9) rfl dX5_ask_1 ?_
  refine va_get (D := G.1) (ci := 2) (v := .ref a_as) (C := RX2) (T := TX2) (N := 2) hx hb hts inG_X2 hown hK hP 1 rfl rfl 0 (by decide +kernel) (hts _ fl_X5_110) (fun _ h9 => h9) rfl dX5_ask_4 ?_
  refine lv_astore_n (lv' := [(3, .ref a_as), (0, .ref a_k), (1, .int p_g), (2, .int p_b)]) hx hb dX5_ask_7 rfl hl (by decide +kernel) rfl ?_
  clear hl
  intro ls hl
  refine W.eq (g2 := F0 m 8 ls []) rfl ?_
  refine lv_aload_n hx hb dX5_ask_8 rfl (lv_at hl 0 rfl) ?_
  refine lv_iconst (v := 0) hx hb dX5_ask_9 (by decide +kernel) ?_
  refine lv_iload_n hx hb dX5_ask_10 rfl (lv_at hl 2 rfl) ?_
  refine va_iast hx hb hK hP hD hS 2 0 rfl rfl (i := 0) (x := p_g) (by unfold vp_in; decide) dX5_ask_11 ?_
  clear hP hD hS
  intro H locs hP hD hS
  refine g5_rs [(a_k, (oc5 a_h a_j a_pt e_ln e_se e_lh e_br e_we e_me e_ce e_wy e_ho e_ov)), (a_j, (oc2 a_as a_sk)), (a_as, (arI G 8 (upd f_as 0 p_g)))] hP hD ?_
  clear hP hD
  intro hP hD
  refine lv_aload_n hx hb dX5_ask_12 rfl (lv_at hl 0 rfl) ?_
  refine W.eq (g2 := F0 m 13 ls [.ref a_as]) rfl ?_
  refine lv_iconst (v := 1) hx hb dX5_ask_13 (by decide +kernel) ?_
  refine lv_aload_n hx hb dX5_ask_14 rfl (lv_at hl 1 rfl) ?_
  refine va_get (D := G.1) (ci := 5) (v := .int e_ce) (C := RX5) (T := TX5) (N := 13) hx hb hts inG_X5 hown hK hP 0 rfl rfl 9 (by decide +kernel) (hts _ fl_X5_26) (fun _ h9 => h9) rfl dX5_ask_15 ?_
  refine lv_bipush (v := 7) hx hb dX5_ask_18 (by decide +kernel) ?_
  refine lv_iand hx hb dX5_ask_20 ?_
  have t_1 : (e_ce &&& 7).toInt = e_ce.toInt % 8 := g5_and7 (a := e_ce.toInt) rfl (by omega)
  refine W.eq (g2 := F0 m 21 ls [.int (e_ce &&& 7), .int 1, .ref a_as]) rfl ?_
  refine va_iast hx hb hK hP hD hS 2 0 rfl rfl (i := 1) (x := (e_ce &&& 7)) (by unfold vp_in; decide) dX5_ask_21 ?_
  clear hP hD hS
  intro H locs hP hD hS
  refine g5_rs [(a_k, (oc5 a_h a_j a_pt e_ln e_se e_lh e_br e_we e_me e_ce e_wy e_ho e_ov)), (a_j, (oc2 a_as a_sk)), (a_as, (arI G 8 (upd (upd f_as 0 p_g) 1 (e_ce &&& 7))))] hP hD ?_
  clear hP hD
  intro hP hD
  refine lv_aload_n hx hb dX5_ask_22 rfl (lv_at hl 0 rfl) ?_
  refine lv_iconst (v := 2) hx hb dX5_ask_23 (by decide +kernel) ?_
  refine lv_aload_n hx hb dX5_ask_24 rfl (lv_at hl 1 rfl) ?_
  refine va_get (D := G.1) (ci := 5) (v := .int e_ce) (C := RX5) (T := TX5) (N := 13) hx hb hts inG_X5 hown hK hP 0 rfl rfl 9 (by decide +kernel) (hts _ fl_X5_26) (fun _ h9 => h9) rfl dX5_ask_25 ?_
  refine W.eq (g2 := F0 m 28 ls [.int e_ce, .int 2, .ref a_as]) rfl ?_
  refine lv_iconst (v := 3) hx hb dX5_ask_28 (by decide +kernel) ?_
  refine lv_ishr hx hb dX5_ask_29 ?_
  refine va_iast hx hb hK hP hD hS 2 0 rfl rfl (i := 2) (x := (e_ce >>> (3 &&& 31))) (by unfold vp_in; decide) dX5_ask_30 ?_
  clear hP hD hS
  intro H locs hP hD hS
  refine g5_rs [(a_k, (oc5 a_h a_j a_pt e_ln e_se e_lh e_br e_we e_me e_ce e_wy e_ho e_ov)), (a_j, (oc2 a_as a_sk)), (a_as, (arI G 8 (upd (upd (upd f_as 0 p_g) 1 (e_ce &&& 7)) 2 (e_ce >>> (3 &&& 31)))))] hP hD ?_
  clear hP hD
  intro hP hD
  refine lv_aload_n hx hb dX5_ask_31 rfl (lv_at hl 0 rfl) ?_
  refine lv_iconst (v := 3) hx hb dX5_ask_32 (by decide +kernel) ?_
  refine W.eq (g2 := F0 m 33 ls [.int 3, .ref a_as]) rfl ?_
  refine lv_aload_n hx hb dX5_ask_33 rfl (lv_at hl 1 rfl) ?_
  refine va_get (D := G.1) (ci := 5) (v := .int e_ho) (C := RX5) (T := TX5) (N := 13) hx hb hts inG_X5 hown hK hP 0 rfl rfl 11 (by decide +kernel) (hts _ fl_X5_33) (fun _ h9 => h9) rfl dX5_ask_34 ?_
  refine va_iast hx hb hK hP hD hS 2 0 rfl rfl (i := 3) (x := e_ho) (by unfold vp_in; decide) dX5_ask_37 ?_
  clear hP hD hS
  intro H locs hP hD hS
  refine g5_rs [(a_k, (oc5 a_h a_j a_pt e_ln e_se e_lh e_br e_we e_me e_ce e_wy e_ho e_ov)), (a_j, (oc2 a_as a_sk)), (a_as, (arI G 8 (upd (upd (upd (upd f_as 0 p_g) 1 (e_ce &&& 7)) 2 (e_ce >>> (3 &&& 31))) 3 e_ho)))] hP hD ?_
  clear hP hD
  intro hP hD
  refine lv_aload_n hx hb dX5_ask_38 rfl (lv_at hl 0 rfl) ?_
  refine lv_iconst (v := 4) hx hb dX5_ask_39 (by decide +kernel) ?_
  refine W.eq (g2 := F0 m 40 ls [.int 4, .ref a_as]) rfl ?_
  refine lv_aload_n hx hb dX5_ask_40 rfl (lv_at hl 1 rfl) ?_
  refine va_get (D := G.1) (ci := 5) (v := .int e_wy) (C := RX5) (T := TX5) (N := 13) hx hb hts inG_X5 hown hK hP 0 rfl rfl 10 (by decide +kernel) (hts _ fl_X5_30) (fun _ h9 => h9) rfl dX5_ask_41 ?_
  refine va_iast hx hb hK hP hD hS 2 0 rfl rfl (i := 4) (x := e_wy) (by unfold vp_in; decide) dX5_ask_44 ?_
  clear hP hD hS
  intro H locs hP hD hS
  refine g5_rs [(a_k, (oc5 a_h a_j a_pt e_ln e_se e_lh e_br e_we e_me e_ce e_wy e_ho e_ov)), (a_j, (oc2 a_as a_sk)), (a_as, (arI G 8 (upd (upd (upd (upd (upd f_as 0 p_g) 1 (e_ce &&& 7)) 2 (e_ce >>> (3 &&& 31))) 3 e_ho) 4 e_wy)))] hP hD ?_
  clear hP hD
  intro hP hD
  refine lv_aload_n hx hb dX5_ask_45 rfl (lv_at hl 0 rfl) ?_
  refine lv_iconst (v := 5) hx hb dX5_ask_46 (by decide +kernel) ?_
  refine W.eq (g2 := F0 m 47 ls [.int 5, .ref a_as]) rfl ?_
  refine lv_iload_n hx hb dX5_ask_47 rfl (lv_at hl 3 rfl) ?_
  refine va_iast hx hb hK hP hD hS 2 0 rfl rfl (i := 5) (x := p_b) (by unfold vp_in; decide) dX5_ask_48 ?_
  clear hP hD hS
  intro H locs hP hD hS
  refine g5_rs [(a_k, (oc5 a_h a_j a_pt e_ln e_se e_lh e_br e_we e_me e_ce e_wy e_ho e_ov)), (a_j, (oc2 a_as a_sk)), (a_as, (arI G 8 (upd (upd (upd (upd (upd (upd f_as 0 p_g) 1 (e_ce &&& 7)) 2 (e_ce >>> (3 &&& 31))) 3 e_ho) 4 e_wy) 5 p_b)))] hP hD ?_
  clear hP hD
  intro hP hD
  refine lv_aload_n hx hb dX5_ask_49 rfl (lv_at hl 0 rfl) ?_
  refine lv_bipush (v := 6) hx hb dX5_ask_50 (by decide +kernel) ?_
  refine lv_aload_n hx hb dX5_ask_52 rfl (lv_at hl 1 rfl) ?_
  refine W.eq (g2 := F0 m 53 ls [.ref a_k, .int 6, .ref a_as]) rfl ?_
  refine va_get (D := G.1) (ci := 5) (v := .int e_ln) (C := RX5) (T := TX5) (N := 13) hx hb hts inG_X5 hown hK hP 0 rfl rfl 3 (by decide +kernel) (hts _ fl_X5_36) (fun _ h9 => h9) rfl dX5_ask_53 ?_
  refine va_iast hx hb hK hP hD hS 2 0 rfl rfl (i := 6) (x := e_ln) (by unfold vp_in; decide) dX5_ask_56 ?_
  clear hP hD hS
  intro H locs hP hD hS
  refine g5_rs [(a_k, (oc5 a_h a_j a_pt e_ln e_se e_lh e_br e_we e_me e_ce e_wy e_ho e_ov)), (a_j, (oc2 a_as a_sk)), (a_as, (arI G 8 (upd (upd (upd (upd (upd (upd (upd f_as 0 p_g) 1 (e_ce &&& 7)) 2 (e_ce >>> (3 &&& 31))) 3 e_ho) 4 e_wy) 5 p_b) 6 e_ln)))] hP hD ?_
  clear hP hD
  intro hP hD
  refine lv_aload_n hx hb dX5_ask_57 rfl (lv_at hl 0 rfl) ?_
  refine lv_bipush (v := 7) hx hb dX5_ask_58 (by decide +kernel) ?_
  refine lv_aload_n hx hb dX5_ask_60 rfl (lv_at hl 1 rfl) ?_
  refine W.eq (g2 := F0 m 61 ls [.ref a_k, .int 7, .ref a_as]) rfl ?_
  refine va_get (D := G.1) (ci := 5) (v := .int e_br) (C := RX5) (T := TX5) (N := 13) hx hb hts inG_X5 hown hK hP 0 rfl rfl 6 (by decide +kernel) (hts _ fl_X5_46) (fun _ h9 => h9) rfl dX5_ask_61 ?_
  refine lv_sipush (v := 1000) hx hb dX5_ask_64 (by decide +kernel) ?_
  refine lv_idiv hx hb dX5_ask_67 (by decide +kernel) ?_
  have t_2 : (e_br / 1000).toInt = e_br.toInt / 1000 := g5_idiv (a := e_br.toInt) (b := 1000) rfl (by decide +kernel) (by omega) (by decide +kernel)
  refine va_iast hx hb hK hP hD hS 2 0 rfl rfl (i := 7) (x := (e_br / 1000)) (by unfold vp_in; decide) dX5_ask_68 ?_
  clear hP hD hS
  intro H locs hP hD hS
  refine g5_rs [(a_k, (oc5 a_h a_j a_pt e_ln e_se e_lh e_br e_we e_me e_ce e_wy e_ho e_ov)), (a_j, (oc2 a_as a_sk)), (a_as, (arI G 8 (upd (upd (upd (upd (upd (upd (upd (upd f_as 0 p_g) 1 (e_ce &&& 7)) 2 (e_ce >>> (3 &&& 31))) 3 e_ho) 4 e_wy) 5 p_b) 6 e_ln) 7 (e_br / 1000))))] hP hD ?_
  clear hP hD
  intro hP hD
  exact W.vret hx hb hr (fun t ht hW => ⟨⟨[(a_k, (oc5 a_h a_j a_pt e_ln e_se e_lh e_br e_we e_me e_ce e_wy e_ho e_ov)), (a_j, (oc2 a_as a_sk)), (a_as, (arI G 8 (upd (upd (upd (upd (upd (upd (upd (upd f_as 0 p_g) 1 (e_ce &&& 7)) 2 (e_ce >>> (3 &&& 31))) 3 e_ho) 4 e_wy) 5 p_b) 6 e_ln) 7 (e_br / 1000))))], rfl, ⟨(upd (upd (upd (upd (upd (upd (upd (upd f_as 0 p_g) 1 (e_ce &&& 7)) 2 (e_ce >>> (3 &&& 31))) 3 e_ho) 4 e_wy) 5 p_b) 6 e_ln) 7 (e_br / 1000)), rfl⟩, by rw [ht]; exact hP.sub [0, 1, 2] rfl, hD.sub [0, 1, 2] (by decide +kernel) rfl⟩, hS.F ht⟩) hS.2.2 dX5_ask_69
theorem dgX5_meetBodies_0 : ∀ r ∈ ([(0, (.aload_n 0, 1)), (1, (.getfield 22, 3)), (4, (.invokevirtual 113, 3)), (7, (.astore_n 1, 1)), (8, (.iconst 0, 1)), (9, (.istore_n 2, 1)), (10, (.iload_n 2, 1)), (11, (.aload_n 0, 1)), (12, (.getfield 22, 3)), (15, (.getfield 117, 3)), (18, (.getfield 102, 3)), (21, (.if_icmp .ge 60, 3)), (24, (.aload_n 0, 1)), (25, (.getfield 22, 3)), (28, (.getfield 117, 3)), (31, (.iload_n 2, 1)), (32, (.aload_n 0, 1)), (33, (.getfield 33, 3)), (36, (.invokevirtual 107, 3)), (39, (.aload_n 0, 1)), (40, (.getfield 26, 3)), (43, (.if_icmp .ne 32, 3)), (46, (.aload_n 0, 1)), (47, (.iconst (-1), 1)), (48, (.iload_n 2, 1)), (49, (.invokevirtual 120, 3)), (52, (.aload_n 0, 1)), (53, (.getfield 12, 3)), (56, (.aload_n 1, 1)), (57, (.iconst 3, 1)), (58, (.invokevirtual 124, 3)), (61, (.ifCond .ne 14, 3)), (64, (.aload_n 0, 1)), (65, (.iload_n 2, 1)), (66, (.putfield 39, 3)), (69, (.aload_n 0, 1)), (70, (.iconst 1, 1)), (71, (.putfield 56, 3)), (74, (.return_, 1)), (75, (.iinc 2 1, 3))] : List (Nat × (Instr × Nat))), decode cX5_meetBodies r.1 = .ok r.2 := by decide +kernel
theorem dX5_meetBodies_0 : decode cX5_meetBodies 0 = .ok (.aload_n 0, 1) := dgX5_meetBodies_0 (0, (.aload_n 0, 1)) (List.mem_of_getElem? (i := 0) rfl)
theorem dX5_meetBodies_1 : decode cX5_meetBodies 1 = .ok (.getfield 22, 3) := dgX5_meetBodies_0 (1, (.getfield 22, 3)) (List.mem_of_getElem? (i := 1) rfl)
theorem dX5_meetBodies_4 : decode cX5_meetBodies 4 = .ok (.invokevirtual 113, 3) := dgX5_meetBodies_0 (4, (.invokevirtual 113, 3)) (List.mem_of_getElem? (i := 2) rfl)
theorem dX5_meetBodies_7 : decode cX5_meetBodies 7 = .ok (.astore_n 1, 1) := dgX5_meetBodies_0 (7, (.astore_n 1, 1)) (List.mem_of_getElem? (i := 3) rfl)
theorem dX5_meetBodies_8 : decode cX5_meetBodies 8 = .ok (.iconst 0, 1) := dgX5_meetBodies_0 (8, (.iconst 0, 1)) (List.mem_of_getElem? (i := 4) rfl)
theorem dX5_meetBodies_9 : decode cX5_meetBodies 9 = .ok (.istore_n 2, 1) := dgX5_meetBodies_0 (9, (.istore_n 2, 1)) (List.mem_of_getElem? (i := 5) rfl)
theorem dX5_meetBodies_10 : decode cX5_meetBodies 10 = .ok (.iload_n 2, 1) := dgX5_meetBodies_0 (10, (.iload_n 2, 1)) (List.mem_of_getElem? (i := 6) rfl)
theorem dX5_meetBodies_11 : decode cX5_meetBodies 11 = .ok (.aload_n 0, 1) := dgX5_meetBodies_0 (11, (.aload_n 0, 1)) (List.mem_of_getElem? (i := 7) rfl)
theorem dX5_meetBodies_12 : decode cX5_meetBodies 12 = .ok (.getfield 22, 3) := dgX5_meetBodies_0 (12, (.getfield 22, 3)) (List.mem_of_getElem? (i := 8) rfl)
theorem dX5_meetBodies_15 : decode cX5_meetBodies 15 = .ok (.getfield 117, 3) := dgX5_meetBodies_0 (15, (.getfield 117, 3)) (List.mem_of_getElem? (i := 9) rfl)
theorem dX5_meetBodies_18 : decode cX5_meetBodies 18 = .ok (.getfield 102, 3) := dgX5_meetBodies_0 (18, (.getfield 102, 3)) (List.mem_of_getElem? (i := 10) rfl)
theorem dX5_meetBodies_21 : decode cX5_meetBodies 21 = .ok (.if_icmp .ge 60, 3) := dgX5_meetBodies_0 (21, (.if_icmp .ge 60, 3)) (List.mem_of_getElem? (i := 11) rfl)
theorem dX5_meetBodies_24 : decode cX5_meetBodies 24 = .ok (.aload_n 0, 1) := dgX5_meetBodies_0 (24, (.aload_n 0, 1)) (List.mem_of_getElem? (i := 12) rfl)
theorem dX5_meetBodies_25 : decode cX5_meetBodies 25 = .ok (.getfield 22, 3) := dgX5_meetBodies_0 (25, (.getfield 22, 3)) (List.mem_of_getElem? (i := 13) rfl)
theorem dX5_meetBodies_28 : decode cX5_meetBodies 28 = .ok (.getfield 117, 3) := dgX5_meetBodies_0 (28, (.getfield 117, 3)) (List.mem_of_getElem? (i := 14) rfl)
theorem dX5_meetBodies_31 : decode cX5_meetBodies 31 = .ok (.iload_n 2, 1) := dgX5_meetBodies_0 (31, (.iload_n 2, 1)) (List.mem_of_getElem? (i := 15) rfl)
theorem dX5_meetBodies_32 : decode cX5_meetBodies 32 = .ok (.aload_n 0, 1) := dgX5_meetBodies_0 (32, (.aload_n 0, 1)) (List.mem_of_getElem? (i := 16) rfl)
theorem dX5_meetBodies_33 : decode cX5_meetBodies 33 = .ok (.getfield 33, 3) := dgX5_meetBodies_0 (33, (.getfield 33, 3)) (List.mem_of_getElem? (i := 17) rfl)
theorem dX5_meetBodies_36 : decode cX5_meetBodies 36 = .ok (.invokevirtual 107, 3) := dgX5_meetBodies_0 (36, (.invokevirtual 107, 3)) (List.mem_of_getElem? (i := 18) rfl)
theorem dX5_meetBodies_39 : decode cX5_meetBodies 39 = .ok (.aload_n 0, 1) := dgX5_meetBodies_0 (39, (.aload_n 0, 1)) (List.mem_of_getElem? (i := 19) rfl)
theorem dX5_meetBodies_40 : decode cX5_meetBodies 40 = .ok (.getfield 26, 3) := dgX5_meetBodies_0 (40, (.getfield 26, 3)) (List.mem_of_getElem? (i := 20) rfl)
theorem dX5_meetBodies_43 : decode cX5_meetBodies 43 = .ok (.if_icmp .ne 32, 3) := dgX5_meetBodies_0 (43, (.if_icmp .ne 32, 3)) (List.mem_of_getElem? (i := 21) rfl)
theorem dX5_meetBodies_46 : decode cX5_meetBodies 46 = .ok (.aload_n 0, 1) := dgX5_meetBodies_0 (46, (.aload_n 0, 1)) (List.mem_of_getElem? (i := 22) rfl)
theorem dX5_meetBodies_47 : decode cX5_meetBodies 47 = .ok (.iconst (-1), 1) := dgX5_meetBodies_0 (47, (.iconst (-1), 1)) (List.mem_of_getElem? (i := 23) rfl)
theorem dX5_meetBodies_48 : decode cX5_meetBodies 48 = .ok (.iload_n 2, 1) := dgX5_meetBodies_0 (48, (.iload_n 2, 1)) (List.mem_of_getElem? (i := 24) rfl)
theorem dX5_meetBodies_49 : decode cX5_meetBodies 49 = .ok (.invokevirtual 120, 3) := dgX5_meetBodies_0 (49, (.invokevirtual 120, 3)) (List.mem_of_getElem? (i := 25) rfl)
theorem dX5_meetBodies_52 : decode cX5_meetBodies 52 = .ok (.aload_n 0, 1) := dgX5_meetBodies_0 (52, (.aload_n 0, 1)) (List.mem_of_getElem? (i := 26) rfl)
theorem dX5_meetBodies_53 : decode cX5_meetBodies 53 = .ok (.getfield 12, 3) := dgX5_meetBodies_0 (53, (.getfield 12, 3)) (List.mem_of_getElem? (i := 27) rfl)
theorem dX5_meetBodies_56 : decode cX5_meetBodies 56 = .ok (.aload_n 1, 1) := dgX5_meetBodies_0 (56, (.aload_n 1, 1)) (List.mem_of_getElem? (i := 28) rfl)
theorem dX5_meetBodies_57 : decode cX5_meetBodies 57 = .ok (.iconst 3, 1) := dgX5_meetBodies_0 (57, (.iconst 3, 1)) (List.mem_of_getElem? (i := 29) rfl)
theorem dX5_meetBodies_58 : decode cX5_meetBodies 58 = .ok (.invokevirtual 124, 3) := dgX5_meetBodies_0 (58, (.invokevirtual 124, 3)) (List.mem_of_getElem? (i := 30) rfl)
theorem dX5_meetBodies_61 : decode cX5_meetBodies 61 = .ok (.ifCond .ne 14, 3) := dgX5_meetBodies_0 (61, (.ifCond .ne 14, 3)) (List.mem_of_getElem? (i := 31) rfl)
theorem dX5_meetBodies_64 : decode cX5_meetBodies 64 = .ok (.aload_n 0, 1) := dgX5_meetBodies_0 (64, (.aload_n 0, 1)) (List.mem_of_getElem? (i := 32) rfl)
theorem dX5_meetBodies_65 : decode cX5_meetBodies 65 = .ok (.iload_n 2, 1) := dgX5_meetBodies_0 (65, (.iload_n 2, 1)) (List.mem_of_getElem? (i := 33) rfl)
theorem dX5_meetBodies_66 : decode cX5_meetBodies 66 = .ok (.putfield 39, 3) := dgX5_meetBodies_0 (66, (.putfield 39, 3)) (List.mem_of_getElem? (i := 34) rfl)
theorem dX5_meetBodies_69 : decode cX5_meetBodies 69 = .ok (.aload_n 0, 1) := dgX5_meetBodies_0 (69, (.aload_n 0, 1)) (List.mem_of_getElem? (i := 35) rfl)
theorem dX5_meetBodies_70 : decode cX5_meetBodies 70 = .ok (.iconst 1, 1) := dgX5_meetBodies_0 (70, (.iconst 1, 1)) (List.mem_of_getElem? (i := 36) rfl)
theorem dX5_meetBodies_71 : decode cX5_meetBodies 71 = .ok (.putfield 56, 3) := dgX5_meetBodies_0 (71, (.putfield 56, 3)) (List.mem_of_getElem? (i := 37) rfl)
theorem dX5_meetBodies_74 : decode cX5_meetBodies 74 = .ok (.return_, 1) := dgX5_meetBodies_0 (74, (.return_, 1)) (List.mem_of_getElem? (i := 38) rfl)
theorem dX5_meetBodies_75 : decode cX5_meetBodies 75 = .ok (.iinc 2 1, 3) := dgX5_meetBodies_0 (75, (.iinc 2 1, 3)) (List.mem_of_getElem? (i := 39) rfl)
theorem dgX5_meetBodies_1 : ∀ r ∈ ([(78, (.goto (-68), 3)), (81, (.return_, 1))] : List (Nat × (Instr × Nat))), decode cX5_meetBodies r.1 = .ok r.2 := by decide +kernel
theorem dX5_meetBodies_78 : decode cX5_meetBodies 78 = .ok (.goto (-68), 3) := dgX5_meetBodies_1 (78, (.goto (-68), 3)) (List.mem_of_getElem? (i := 0) rfl)
theorem dX5_meetBodies_81 : decode cX5_meetBodies 81 = .ok (.return_, 1) := dgX5_meetBodies_1 (81, (.return_, 1)) (List.mem_of_getElem? (i := 1) rfl)
theorem ml_X5_113 : Cond.methodLink RX5 113 yX1_lawInForce ∈ tblG := tg 830 (by decide +kernel) (by decide +kernel)
theorem im_X1_lawInForce : Cond.instanceMethod yX1_lawInForce ∈ tblG := tg 831 (by decide +kernel) (by decide +kernel)
theorem se_X1_lawInForce : Cond.selects RX1 yX1_lawInForce yX1_lawInForce ∈ tblG := tg 832 (by decide +kernel) (by decide +kernel)
theorem ini_X1 : Cond.initialized RX1 ∈ tblG := tg 89 (by decide +kernel) (by decide +kernel)
theorem cd_X1_lawInForce : Cond.code yX1_lawInForce cX1_lawInForce 1 (some (.object "LateGlass$Law")) ∈ tblG := tg 833 (by decide +kernel) (by decide +kernel)
theorem gW_X1_lawInForce : GoodIn tblG (wsG yX1_lawInForce cX1_lawInForce 1 (some (.object "LateGlass$Law"))) := tgi cd_X1_lawInForce
theorem gV_X5_113 : GoodIn tblG (wsV RX5 113 RX1 yX1_lawInForce (wsG yX1_lawInForce cX1_lawInForce 1 (some (.object "LateGlass$Law")))) := tgV ml_X5_113 im_X1_lawInForce se_X1_lawInForce ini_X1 gW_X1_lawInForce
theorem hv_X1_lawInForce : yX1_lawInForce.cls = RX1 ∧ yX1_lawInForce.cls ≠ "java/lang/invoke/MethodHandle" ∧ yX1_lawInForce.cls ≠ "java/lang/invoke/VarHandle" ∧ (parseMethodDescriptor yX1_lawInForce.desc).map (fun d => d.parameters.length) = some 0 := by decide +kernel
theorem fl_X5_117 : Cond.fieldLink RX5 117 "LateGlass$House" "bodies" "LLateGlass$Table;" ∈ tblG := tg 177 (by decide +kernel) (by decide +kernel)
theorem ml_X5_120 : Cond.methodLink RX5 120 yX5_ask ∈ tblG := tg 834 (by decide +kernel) (by decide +kernel)
theorem im_X5_ask : Cond.instanceMethod yX5_ask ∈ tblG := tg 836 (by decide +kernel) (by decide +kernel)
theorem se_X5_ask : Cond.selects RX5 yX5_ask yX5_ask ∈ tblG := tg 15 (by decide +kernel) (by decide +kernel)
theorem ini_X5 : Cond.initialized RX5 ∈ tblG := tg 91 (by decide +kernel) (by decide +kernel)
theorem cd_X5_ask : Cond.code yX5_ask cX5_ask 4 none ∈ tblG := tg 837 (by decide +kernel) (by decide +kernel)
theorem gW_X5_ask : GoodIn tblG (wsG yX5_ask cX5_ask 4 none) := tgi cd_X5_ask
theorem gV_X5_120 : GoodIn tblG (wsV RX5 120 RX5 yX5_ask (wsG yX5_ask cX5_ask 4 none)) := tgV ml_X5_120 im_X5_ask se_X5_ask ini_X5 gW_X5_ask
theorem hv_X5_ask : yX5_ask.cls = RX5 ∧ yX5_ask.cls ≠ "java/lang/invoke/MethodHandle" ∧ yX5_ask.cls ≠ "java/lang/invoke/VarHandle" ∧ (parseMethodDescriptor yX5_ask.desc).map (fun d => d.parameters.length) = some 2 := by decide +kernel
theorem ml_X5_124 : Cond.methodLink RX5 124 yX2_isHeld ∈ tblG := tg 838 (by decide +kernel) (by decide +kernel)
theorem im_X2_isHeld : Cond.instanceMethod yX2_isHeld ∈ tblG := tg 839 (by decide +kernel) (by decide +kernel)
theorem se_X2_isHeld : Cond.selects RX2 yX2_isHeld yX2_isHeld ∈ tblG := tg 840 (by decide +kernel) (by decide +kernel)
theorem cd_X2_isHeld : Cond.code yX2_isHeld cX2_isHeld 4 (some .boolean) ∈ tblG := tg 841 (by decide +kernel) (by decide +kernel)
theorem gW_X2_isHeld : GoodIn tblG (wsG yX2_isHeld cX2_isHeld 4 (some .boolean)) := tgi cd_X2_isHeld
theorem gV_X5_124 : GoodIn tblG (wsV RX5 124 RX2 yX2_isHeld (wsG yX2_isHeld cX2_isHeld 4 (some .boolean))) := tgV ml_X5_124 im_X2_isHeld se_X2_isHeld ini_X2 gW_X2_isHeld
theorem hv_X2_isHeld : yX2_isHeld.cls = RX2 ∧ yX2_isHeld.cls ≠ "java/lang/invoke/MethodHandle" ∧ yX2_isHeld.cls ≠ "java/lang/invoke/VarHandle" ∧ (parseMethodDescriptor yX2_isHeld.desc).map (fun d => d.parameters.length) = some 2 := by decide +kernel
theorem fl_X5_39 : Cond.fieldLink RX5 39 "LateGlass$Look" "seen" "I" ∈ tblG := tg 253 (by decide +kernel) (by decide +kernel)
theorem fl_X5_56 : Cond.fieldLink RX5 56 "LateGlass$Look" "isOver" "Z" ∈ tblG := tg 266 (by decide +kernel) (by decide +kernel)
set_option maxHeartbeats 4000000 in
set_option maxRecDepth 100000 in
theorem k_meetBodiesN (l : Launch) (G : g5_G) (a_k a_h a_b a_bn a_j a_as a_sk a_l a_pt a_g a_s a_p a_w a_bb : Nat) (sz : Nat) (e_ln : Int32) (e_se : Int32) (e_lh : Int32) (e_br : Int32) (e_we : Int32) (e_me : Int32) (e_ce : Int32) (e_wy : Int32) (e_ho : Int32) (e_ov : Int32) (e_le : Int32) (e_st : Int32) (e_fo : Int32) (e_lc : Int32) (e_b : Int32) (e_wa : Int64) (e_gb : Int64) (f_b : Nat → Int32) (f_as : Nat → Int32) (f_sk : Nat → Int64) (f_l : Nat → Option Nat) (h_e_br : 0 ≤ e_br.toInt ∧ e_br.toInt ≤ 1000000) (h_e_ce : 0 ≤ e_ce.toInt ∧ e_ce.toInt ≤ 63) (h_e_wy : 0 ≤ e_wy.toInt ∧ e_wy.toInt ≤ 3) (h_e_ho : 0 ≤ e_ho.toInt ∧ e_ho.toInt ≤ 23) (h_e_ov : 0 ≤ e_ov.toInt ∧ e_ov.toInt ≤ 1) (h_e_b : 0 ≤ e_b.toInt ∧ e_b.toInt ≤ 5) (e_f : e_fo.toInt < 0 ∨ e_lc.toInt ≤ e_fo.toInt) : Met l yX5_meetBodies (wsG yX5_meetBodies cX5_meetBodies 3 none) ({ frames := 1, cells := 0, slots := 0, locals := 23 }) (va_Pc [.ref a_k] (g5_P G [(a_k, (oc5 a_h a_j a_pt e_ln e_se e_lh e_br e_we e_me e_ce e_wy e_ho e_ov)), (a_h, (oc1 e_wa e_le e_st e_fo e_lc a_l a_g a_b a_s a_p a_w e_gb a_bb)), (a_b, (oc6 5 24 a_bn e_b)), (a_bn, (arI G 120 f_b)), (a_j, (oc2 a_as a_sk)), (a_as, (arI G 8 f_as)), (a_sk, (arJ G 50 f_sk)), (a_l, (arW G 6 f_l))] sz)) (va_Qv (fun (u : va_W) => (∃ (o_s : Int32) (o_v : Int32) (o_a : Nat → Int32) (o_k : Nat → Int64), (0 ≤ o_v.toInt ∧ o_v.toInt ≤ 1) ∧ (u = [(a_k, (oc5 a_h a_j a_pt e_ln o_s e_lh e_br e_we e_me e_ce e_wy e_ho o_v)), (a_h, (oc1 e_wa e_le e_st e_fo e_lc a_l a_g a_b a_s a_p a_w e_gb a_bb)), (a_b, (oc6 5 24 a_bn e_b)), (a_bn, (arI G 120 f_b)), (a_j, (oc2 a_as a_sk)), (a_as, (arI G 8 o_a)), (a_sk, (arJ G 50 o_k)), (a_l, (arW G 6 f_l))]))) (g5_B G (va_A [(a_k, (oc5 a_h a_j a_pt e_ln e_se e_lh e_br e_we e_me e_ce e_wy e_ho e_ov)), (a_h, (oc1 e_wa e_le e_st e_fo e_lc a_l a_g a_b a_s a_p a_w e_gb a_bb)), (a_b, (oc6 5 24 a_bn e_b)), (a_bn, (arI G 120 f_b)), (a_j, (oc2 a_as a_sk)), (a_as, (arI G 8 f_as)), (a_sk, (arJ G 50 f_sk)), (a_l, (arW G 6 f_l))] sz)) (va_A [(a_k, (oc5 a_h a_j a_pt e_ln e_se e_lh e_br e_we e_me e_ce e_wy e_ho e_ov)), (a_h, (oc1 e_wa e_le e_st e_fo e_lc a_l a_g a_b a_s a_p a_w e_gb a_bb)), (a_b, (oc6 5 24 a_bn e_b)), (a_bn, (arI G 120 f_b)), (a_j, (oc2 a_as a_sk)), (a_as, (arI G 8 f_as)), (a_sk, (arJ G 50 f_sk)), (a_l, (arW G 6 f_l))] sz)) 0 0 (va_A [(a_k, (oc5 a_h a_j a_pt e_ln e_se e_lh e_br e_we e_me e_ce e_wy e_ho e_ov)), (a_h, (oc1 e_wa e_le e_st e_fo e_lc a_l a_g a_b a_s a_p a_w e_gb a_bb)), (a_b, (oc6 5 24 a_bn e_b)), (a_bn, (arI G 120 f_b)), (a_j, (oc2 a_as a_sk)), (a_as, (arI G 8 f_as)), (a_sk, (arJ G 50 f_sk)), (a_l, (arW G 6 f_l))] sz) := by
  refine Met.ofW (cc := cX5_meetBodies) (maxL := 3) (ret := none) (by decide +kernel) rfl ?_
  intro p e s m args below meth c s₁ B hml hv
  obtain ⟨rfl, hsz, hP, hK, hD0, hN, hT⟩ := hv
  have hx := B.exec
  have hb := B.bytes
  have hr := B.returns
  have hts : ∀ w ∈ tblG, w.before _ s = true := fun w h => atoms_spec (ws := (wsG yX5_meetBodies cX5_meetBodies 3 none)) B.pre w (List.mem_cons_of_mem _ h)
  have hown : s.vm.findClass RX5 = some m.cls := findClass_of_methodNamed B.named
  have hlocks := B.notSynchronized
  subst hsz
  have hD := hD0.self (sz := s.heap.size)
  generalize hAe : va_A [(a_k, (oc5 a_h a_j a_pt e_ln e_se e_lh e_br e_we e_me e_ce e_wy e_ho e_ov)), (a_h, (oc1 e_wa e_le e_st e_fo e_lc a_l a_g a_b a_s a_p a_w e_gb a_bb)), (a_b, (oc6 5 24 a_bn e_b)), (a_bn, (arI G 120 f_b)), (a_j, (oc2 a_as a_sk)), (a_as, (arI G 8 f_as)), (a_sk, (arJ G 50 f_sk)), (a_l, (arW G 6 f_l))] s.heap.size = A at hD hT ⊢
  have hA : ∀ q : Nat, s.heap.size ≤ q → A q := fun q h => by rw [← hAe]; exact Or.inr h
  have hS : va_S A s.heap s.heap [] := va_S.rf
  replace hP : va_P G.1 vwCl [(a_k, (oc5 a_h a_j a_pt e_ln e_se e_lh e_br e_we e_me e_ce e_wy e_ho e_ov)), (a_h, (oc1 e_wa e_le e_st e_fo e_lc a_l a_g a_b a_s a_p a_w e_gb a_bb)), (a_b, (oc6 5 24 a_bn e_b)), (a_bn, (arI G 120 f_b)), (a_j, (oc2 a_as a_sk)), (a_as, (arI G 8 f_as)), (a_sk, (arJ G 50 f_sk)), (a_l, (arW G 6 f_l))] s.heap := hP
  have hl := lv_entry ([.ref a_k]) (n := 3) (Nat.le_of_ble_eq_true rfl)
  rw [lg_entry_eq]
  generalize (lg_sl ([.ref a_k]) ++ List.replicate (3 - (lg_sl ([.ref a_k])).length) Slot.unset).toArray = ls at hl ⊢
  replace hl : lv_has ls 3 [(0, .ref a_k)] := hl
  refine lv_aload_n hx hb dX5_meetBodies_0 rfl (lv_at hl 0 rfl) ?_
  refine va_get (D := G.1) (ci := 5) (v := .ref a_h) (C := RX5) (T := TX5) (N := 13) hx hb hts inG_X5 hown hK hP 0 rfl rfl 0 (by decide +kernel) (hts _ fl_X5_22) (fun _ h9 => h9) rfl dX5_meetBodies_1 ?_
  obtain ⟨hPc, hDc, hFc⟩ := g5_sub3 (wc := [(a_h, (oc1 e_wa e_le e_st e_fo e_lc a_l a_g a_b a_s a_p a_w e_gb a_bb)), (a_l, (arW G 6 f_l))]) hP hD hS hA [1, 7] (by decide +kernel) rfl
  refine va_callq (va_runV (As := []) (rest := []) ⟨hx, hb, hml, hown, hts⟩ (h_lawN l G a_h a_l a_g a_b a_s a_p a_w a_bb s.heap.size e_le e_st e_fo e_lc e_wa e_gb f_l (e_f)) (cwV 0 hts gV_X5_113 rfl rfl rfl hv_X1_lawInForce ⟨Nat.le_of_ble_eq_true rfl, Nat.le_of_ble_eq_true rfl⟩) (g5_preV hPc hK hDc hN hT hS hFc (ci := 1) (q0 := 0) rfl rfl) rfl rfl hl.1 rfl (lv_room (Nat.le_of_ble_eq_true rfl)) dX5_meetBodies_4 ⟨Nat.le_of_ble_eq_true rfl, Nat.le_of_ble_eq_true rfl⟩) hS (fun q _ h => hFc q h) hFc (fun r u t H locs ht hvm hw hB hz1 hk1 hS => ?_)
  obtain ⟨hP1, hD1⟩ := hB
  have hP1 := g5_ht ht hP1
  obtain ⟨rfl, rfl⟩ := hw
  have hJ9 := va_join (wr := [(a_k, (oc5 a_h a_j a_pt e_ln e_se e_lh e_br e_we e_me e_ce e_wy e_ho e_ov)), (a_b, (oc6 5 24 a_bn e_b)), (a_bn, (arI G 120 f_b)), (a_j, (oc2 a_as a_sk)), (a_as, (arI G 8 f_as)), (a_sk, (arJ G 50 f_sk))]) hP hD [1, 7] [0, 2, 3, 4, 5, 6] rfl rfl (by decide +kernel) (by decide +kernel) hk1 hFc hP1 hD1
  clear hP hD hPc hDc hFc ht hvm hz1 hk1 hP1 hD1
  obtain ⟨hP, hD⟩ := hJ9
  refine g5_rs [(a_k, (oc5 a_h a_j a_pt e_ln e_se e_lh e_br e_we e_me e_ce e_wy e_ho e_ov)), (a_b, (oc6 5 24 a_bn e_b)), (a_bn, (arI G 120 f_b)), (a_j, (oc2 a_as a_sk)), (a_as, (arI G 8 f_as)), (a_sk, (arJ G 50 f_sk)), (a_h, (oc1 e_wa e_le e_st e_fo e_lc a_l a_g a_b a_s a_p a_w e_gb a_bb)), (a_l, (arW G 6 f_l))] hP hD ?_
  clear hP hD
  intro hP hD
  refine g5_tv (v := .null) rfl ?_
  refine lv_astore_nN (lv' := [(1, .null), (0, .ref a_k)]) hx hb dX5_meetBodies_7 rfl hl (by decide +kernel) rfl ?_
  clear hl
  intro ls hl
  refine W.eq (g2 := F0 m 8 ls []) rfl ?_
  refine lv_iconst (v := 0) hx hb dX5_meetBodies_8 (by decide +kernel) ?_
  refine lv_istore_n (lv' := [(2, .int 0), (1, .null), (0, .ref a_k)]) hx hb dX5_meetBodies_9 rfl hl (by decide +kernel) rfl ?_
  clear hl
  intro ls hl
  refine g5_loop (α := (Int32) × (Nat → Int32) × (Nat → Int64)) (fun (q : (Int32) × (Nat → Int32) × (Nat → Int64)) (ls : Array Slot) (H : Heap) (locs : List Loc) => match q with | (k_b, k_a, k_k) => lv_has ls 3 [(2, .int k_b), (1, .null), (0, .ref a_k)] ∧ va_P G.1 vwCl [(a_k, (oc5 a_h a_j a_pt e_ln e_se e_lh e_br e_we e_me e_ce e_wy e_ho e_ov)), (a_b, (oc6 5 24 a_bn e_b)), (a_bn, (arI G 120 f_b)), (a_j, (oc2 a_as a_sk)), (a_as, (arI G 8 k_a)), (a_sk, (arJ G 50 k_k)), (a_h, (oc1 e_wa e_le e_st e_fo e_lc a_l a_g a_b a_s a_p a_w e_gb a_bb)), (a_l, (arW G 6 f_l))] H ∧ va_D A [(a_k, (oc5 a_h a_j a_pt e_ln e_se e_lh e_br e_we e_me e_ce e_wy e_ho e_ov)), (a_b, (oc6 5 24 a_bn e_b)), (a_bn, (arI G 120 f_b)), (a_j, (oc2 a_as a_sk)), (a_as, (arI G 8 k_a)), (a_sk, (arJ G 50 k_k)), (a_h, (oc1 e_wa e_le e_st e_fo e_lc a_l a_g a_b a_s a_p a_w e_gb a_bb)), (a_l, (arW G 6 f_l))] ∧ va_S A s.heap H locs ∧ (0 ≤ k_b.toInt ∧ k_b.toInt ≤ 5)) (fun (q : (Int32) × (Nat → Int32) × (Nat → Int64)) => match q with | (k_b, k_a, k_k) => Int.toNat (5 - k_b.toInt)) (0, f_as, f_sk) ⟨lv_sub hl [0, 1, 2] rfl, hP, hD, hS, ⟨by decide, by decide⟩⟩ ?_
  rintro ⟨k_b, k_a, k_k⟩ ls H locs ⟨hl, hP, hD, hS, (i_1 : 0 ≤ k_b.toInt ∧ k_b.toInt ≤ 5)⟩ ih_10_2
  replace hl : lv_has ls 3 [(2, .int k_b), (1, .null), (0, .ref a_k)] := hl
  refine g5_rs [(a_k, (oc5 a_h a_j a_pt e_ln e_se e_lh e_br e_we e_me e_ce e_wy e_ho e_ov)), (a_b, (oc6 5 24 a_bn e_b)), (a_bn, (arI G 120 f_b)), (a_j, (oc2 a_as a_sk)), (a_as, (arI G 8 k_a)), (a_sk, (arJ G 50 k_k)), (a_h, (oc1 e_wa e_le e_st e_fo e_lc a_l a_g a_b a_s a_p a_w e_gb a_bb)), (a_l, (arW G 6 f_l))] hP hD ?_
  clear hP hD
  intro hP hD
  refine lv_iload_n hx hb dX5_meetBodies_10 rfl (lv_at hl 0 rfl) ?_
  refine lv_aload_n hx hb dX5_meetBodies_11 rfl (lv_at hl 2 rfl) ?_
  refine va_get (D := G.1) (ci := 5) (v := .ref a_h) (C := RX5) (T := TX5) (N := 13) hx hb hts inG_X5 hown hK hP 0 rfl rfl 0 (by decide +kernel) (hts _ fl_X5_22) (fun _ h9 => h9) rfl dX5_meetBodies_12 ?_
  refine va_get (D := G.1) (ci := 1) (v := .ref a_b) (C := RX1) (T := TX1) (N := 13) hx hb hts inG_X1 hown hK hP 6 rfl rfl 7 (by decide +kernel) (hts _ fl_X5_117) (fun _ h9 => h9) rfl dX5_meetBodies_15 ?_
  refine W.eq (g2 := F0 m 18 ls [.ref a_b, .int k_b]) rfl ?_
  refine va_get (D := G.1) (ci := 6) (v := .int e_b) (C := RX6) (T := TX6) (N := 4) hx hb hts inG_X6 hown hK hP 1 rfl rfl 3 (by decide +kernel) (hts _ fl_X5_102) (fun _ h9 => h9) rfl dX5_meetBodies_18 ?_
  refine lv_icmp_ge (tgt := 81) hx hb dX5_meetBodies_21 (by decide +kernel) (fun c_3 => ?_) (fun c_3 => ?_)
  ·
    have i_3 : k_b.toInt ≥ e_b.toInt := g5_ge (a := k_b.toInt) (b := e_b.toInt) rfl rfl c_3
    exact W.vret hx hb hr (fun t ht hW => ⟨⟨[(a_k, (oc5 a_h a_j a_pt e_ln e_se e_lh e_br e_we e_me e_ce e_wy e_ho e_ov)), (a_h, (oc1 e_wa e_le e_st e_fo e_lc a_l a_g a_b a_s a_p a_w e_gb a_bb)), (a_b, (oc6 5 24 a_bn e_b)), (a_bn, (arI G 120 f_b)), (a_j, (oc2 a_as a_sk)), (a_as, (arI G 8 k_a)), (a_sk, (arJ G 50 k_k)), (a_l, (arW G 6 f_l))], rfl, ⟨e_se, e_ov, k_a, k_k, h_e_ov, rfl⟩, by rw [ht]; exact hP.sub [0, 6, 1, 2, 3, 4, 5, 7] rfl, hD.sub [0, 6, 1, 2, 3, 4, 5, 7] (by decide +kernel) rfl⟩, hS.F ht⟩) hS.2.2 dX5_meetBodies_81
  ·
    have i_3 : k_b.toInt < e_b.toInt := g5_geN (a := k_b.toInt) (b := e_b.toInt) rfl rfl c_3
    refine lv_aload_n hx hb dX5_meetBodies_24 rfl (lv_at hl 2 rfl) ?_
    refine va_get (D := G.1) (ci := 5) (v := .ref a_h) (C := RX5) (T := TX5) (N := 13) hx hb hts inG_X5 hown hK hP 0 rfl rfl 0 (by decide +kernel) (hts _ fl_X5_22) (fun _ h9 => h9) rfl dX5_meetBodies_25 ?_
    refine va_get (D := G.1) (ci := 1) (v := .ref a_b) (C := RX1) (T := TX1) (N := 13) hx hb hts inG_X1 hown hK hP 6 rfl rfl 7 (by decide +kernel) (hts _ fl_X5_117) (fun _ h9 => h9) rfl dX5_meetBodies_28 ?_
    refine lv_iload_n hx hb dX5_meetBodies_31 rfl (lv_at hl 0 rfl) ?_
    refine W.eq (g2 := F0 m 32 ls [.int k_b, .ref a_b]) rfl ?_
    refine lv_aload_n hx hb dX5_meetBodies_32 rfl (lv_at hl 2 rfl) ?_
    refine va_get (D := G.1) (ci := 5) (v := .int e_ho) (C := RX5) (T := TX5) (N := 13) hx hb hts inG_X5 hown hK hP 0 rfl rfl 11 (by decide +kernel) (hts _ fl_X5_33) (fun _ h9 => h9) rfl dX5_meetBodies_33 ?_
    obtain ⟨hPc, hDc, hFc⟩ := g5_sub3 (wc := [(a_b, (oc6 5 24 a_bn e_b)), (a_bn, (arI G 120 f_b))]) hP hD hS hA [1, 2] (by decide +kernel) rfl
    refine va_calli (va_runV (As := [.int k_b, .int e_ho]) (rest := []) ⟨hx, hb, hml, hown, hts⟩ (t_get_B l G a_b a_bn H.size e_b k_b e_ho f_b h_e_b) (cwV 2 hts gV_X5_107 rfl rfl rfl hv_X6_get ⟨Nat.le_of_ble_eq_true rfl, Nat.le_of_ble_eq_true rfl⟩) (g5_preV hPc hK hDc hN hT hS hFc (ci := 6) (q0 := 0) rfl rfl) rfl rfl hl.1 rfl (lv_room (Nat.le_of_ble_eq_true rfl)) dX5_meetBodies_36 ⟨Nat.le_of_ble_eq_true rfl, Nat.le_of_ble_eq_true rfl⟩) hS (fun q _ h => hFc q h) hFc (fun r u t H locs ht hvm hw hB hz1 hk1 hS => ?_)
    obtain ⟨hP1, hD1⟩ := hB
    have hP1 := g5_ht ht hP1
    obtain ⟨z5, (i_4 : z5 = tget f_b e_b.toInt 24 k_b.toInt e_ho.toInt), y6, rfl⟩ := hw
    have hJ9 := va_join (wr := [(a_k, (oc5 a_h a_j a_pt e_ln e_se e_lh e_br e_we e_me e_ce e_wy e_ho e_ov)), (a_j, (oc2 a_as a_sk)), (a_as, (arI G 8 k_a)), (a_sk, (arJ G 50 k_k)), (a_h, (oc1 e_wa e_le e_st e_fo e_lc a_l a_g a_b a_s a_p a_w e_gb a_bb)), (a_l, (arW G 6 f_l))]) hP hD [1, 2] [0, 3, 4, 5, 6, 7] rfl rfl (by decide +kernel) (by decide +kernel) hk1 hFc hP1 hD1
    clear hP hD hPc hDc hFc ht hvm hz1 hk1 hP1 hD1
    obtain ⟨hP, hD⟩ := hJ9
    refine g5_rs [(a_k, (oc5 a_h a_j a_pt e_ln e_se e_lh e_br e_we e_me e_ce e_wy e_ho e_ov)), (a_j, (oc2 a_as a_sk)), (a_as, (arI G 8 k_a)), (a_sk, (arJ G 50 k_k)), (a_h, (oc1 e_wa e_le e_st e_fo e_lc a_l a_g a_b a_s a_p a_w e_gb a_bb)), (a_l, (arW G 6 f_l)), (a_b, (oc6 5 24 a_bn e_b)), (a_bn, (arI G 120 f_b))] hP hD ?_
    clear hP hD
    intro hP hD
    refine g5_ti (v := z5) y6 ?_
    refine lv_aload_n hx hb dX5_meetBodies_39 rfl (lv_at hl 2 rfl) ?_
    refine va_get (D := G.1) (ci := 5) (v := .int e_ce) (C := RX5) (T := TX5) (N := 13) hx hb hts inG_X5 hown hK hP 0 rfl rfl 9 (by decide +kernel) (hts _ fl_X5_26) (fun _ h9 => h9) rfl dX5_meetBodies_40 ?_
    refine W.eq (g2 := F0 m 43 ls [.int e_ce, .int z5]) rfl ?_
    refine lv_icmp_ne (tgt := 75) hx hb dX5_meetBodies_43 (by decide +kernel) (fun c_7 => ?_) (fun c_7 => ?_)
    ·
      have n_7 : gNe (z5.toInt) (e_ce.toInt) := g5_ne (a := z5.toInt) (b := e_ce.toInt) rfl rfl c_7
      refine lv_iinc (v := (k_b + 1)) (lv' := [(2, .int (k_b + 1)), (1, .null), (0, .ref a_k)]) hx hb dX5_meetBodies_75 hl (k := 0) rfl rfl (by decide +kernel) rfl ?_
      clear hl
      intro ls hl
      have t_8 : (k_b + 1).toInt = k_b.toInt + 1 := g5_iadd (a := k_b.toInt) (b := 1) rfl (by decide +kernel) (by omega) (by omega)
      refine lv_goto (tgt := 10) hx hb dX5_meetBodies_78 (by decide +kernel) ?_
      exact ih_10_2 ((k_b + 1), k_a, k_k) ls H locs (show Int.toNat (5 - (k_b + 1).toInt) < Int.toNat (5 - k_b.toInt) from g_up (show k_b.toInt < (k_b + 1).toInt by omega) (show k_b.toInt < 5 by omega)) ⟨lv_sub hl [0, 1, 2] rfl, hP.sub [0, 6, 7, 1, 2, 3, 4, 5] rfl, hD.sub [0, 6, 7, 1, 2, 3, 4, 5] (by decide +kernel) rfl, hS, ⟨by omega, by omega⟩⟩
    ·
      have i_7 : z5.toInt = e_ce.toInt := g5_neN (a := z5.toInt) (b := e_ce.toInt) rfl rfl c_7
      refine lv_aload_n hx hb dX5_meetBodies_46 rfl (lv_at hl 2 rfl) ?_
      refine lv_iconst (v := (-1)) hx hb dX5_meetBodies_47 (by decide +kernel) ?_
      refine lv_iload_n hx hb dX5_meetBodies_48 rfl (lv_at hl 0 rfl) ?_
      obtain ⟨hPc, hDc, hFc⟩ := g5_sub3 (wc := [(a_k, (oc5 a_h a_j a_pt e_ln e_se e_lh e_br e_we e_me e_ce e_wy e_ho e_ov)), (a_j, (oc2 a_as a_sk)), (a_as, (arI G 8 k_a))]) hP hD hS hA [0, 1, 2] (by decide +kernel) rfl
      refine va_callv (va_runV (As := [.int (-1), .int k_b]) (rest := []) ⟨hx, hb, hml, hown, hts⟩ (k_ask l G a_k a_j a_as a_h a_pt a_sk H.size e_ln e_se e_lh e_br e_we e_me e_ce e_wy e_ho e_ov (-1) k_b k_a h_e_br h_e_ce h_e_wy h_e_ho h_e_ov) (cwV 2 hts gV_X5_120 rfl rfl rfl hv_X5_ask ⟨Nat.le_of_ble_eq_true rfl, Nat.le_of_ble_eq_true rfl⟩) (g5_preV hPc hK hDc hN hT hS hFc (ci := 5) (q0 := 0) rfl rfl) rfl rfl hl.1 rfl (lv_room (Nat.le_of_ble_eq_true rfl)) dX5_meetBodies_49 ⟨Nat.le_of_ble_eq_true rfl, Nat.le_of_ble_eq_true rfl⟩) hS (fun q _ h => hFc q h) hFc (fun u t H locs ht hvm hw hB hz1 hk1 hS => ?_)
      obtain ⟨hP1, hD1⟩ := hB
      have hP1 := g5_ht ht hP1
      obtain ⟨z9, rfl⟩ := hw
      have hJ9 := va_join (wr := [(a_sk, (arJ G 50 k_k)), (a_h, (oc1 e_wa e_le e_st e_fo e_lc a_l a_g a_b a_s a_p a_w e_gb a_bb)), (a_l, (arW G 6 f_l)), (a_b, (oc6 5 24 a_bn e_b)), (a_bn, (arI G 120 f_b))]) hP hD [0, 1, 2] [3, 4, 5, 6, 7] rfl rfl (by decide +kernel) (by decide +kernel) hk1 hFc hP1 hD1
      clear hP hD hPc hDc hFc ht hvm hz1 hk1 hP1 hD1
      obtain ⟨hP, hD⟩ := hJ9
      refine g5_rs [(a_sk, (arJ G 50 k_k)), (a_h, (oc1 e_wa e_le e_st e_fo e_lc a_l a_g a_b a_s a_p a_w e_gb a_bb)), (a_l, (arW G 6 f_l)), (a_b, (oc6 5 24 a_bn e_b)), (a_bn, (arI G 120 f_b)), (a_k, (oc5 a_h a_j a_pt e_ln e_se e_lh e_br e_we e_me e_ce e_wy e_ho e_ov)), (a_j, (oc2 a_as a_sk)), (a_as, (arI G 8 z9))] hP hD ?_
      clear hP hD
      intro hP hD
      refine W.eq (g2 := F0 m 52 ls []) rfl ?_
      refine lv_aload_n hx hb dX5_meetBodies_52 rfl (lv_at hl 2 rfl) ?_
      refine va_get (D := G.1) (ci := 5) (v := .ref a_j) (C := RX5) (T := TX5) (N := 13) hx hb hts inG_X5 hown hK hP 5 rfl rfl 1 (by decide +kernel) (hts _ fl_X5_12) (fun _ h9 => h9) rfl dX5_meetBodies_53 ?_
      refine lv_aload_nN hx hb dX5_meetBodies_56 rfl (lv_at hl 1 rfl) ?_
      refine lv_iconst (v := 3) hx hb dX5_meetBodies_57 (by decide +kernel) ?_
      obtain ⟨hPc, hDc, hFc⟩ := g5_sub3 (wc := [(a_j, (oc2 a_as a_sk)), (a_as, (arI G 8 z9)), (a_sk, (arJ G 50 k_k))]) hP hD hS hA [6, 7, 0] (by decide +kernel) rfl
      refine va_calli (va_runV (As := [.null, .int 3]) (rest := []) ⟨hx, hb, hml, hown, hts⟩ (j_isHeldN l G a_j a_as a_sk H.size 3 z9 k_k) (cwV 2 hts gV_X5_124 rfl rfl rfl hv_X2_isHeld ⟨Nat.le_of_ble_eq_true rfl, Nat.le_of_ble_eq_true rfl⟩) (g5_preV hPc hK hDc hN hT hS hFc (ci := 2) (q0 := 0) rfl rfl) rfl rfl hl.1 rfl (lv_room (Nat.le_of_ble_eq_true rfl)) dX5_meetBodies_58 ⟨Nat.le_of_ble_eq_true rfl, Nat.le_of_ble_eq_true rfl⟩) hS (fun q _ h => hFc q h) hFc (fun r u t H locs ht hvm hw hB hz1 hk1 hS => ?_)
      obtain ⟨hP1, hD1⟩ := hB
      have hP1 := g5_ht ht hP1
      obtain ⟨rfl, rfl⟩ := hw
      have hJ9 := va_join (wr := [(a_h, (oc1 e_wa e_le e_st e_fo e_lc a_l a_g a_b a_s a_p a_w e_gb a_bb)), (a_l, (arW G 6 f_l)), (a_b, (oc6 5 24 a_bn e_b)), (a_bn, (arI G 120 f_b)), (a_k, (oc5 a_h a_j a_pt e_ln e_se e_lh e_br e_we e_me e_ce e_wy e_ho e_ov))]) hP hD [6, 7, 0] [1, 2, 3, 4, 5] rfl rfl (by decide +kernel) (by decide +kernel) hk1 hFc hP1 hD1
      clear hP hD hPc hDc hFc ht hvm hz1 hk1 hP1 hD1
      obtain ⟨hP, hD⟩ := hJ9
      refine g5_rs [(a_h, (oc1 e_wa e_le e_st e_fo e_lc a_l a_g a_b a_s a_p a_w e_gb a_bb)), (a_l, (arW G 6 f_l)), (a_b, (oc6 5 24 a_bn e_b)), (a_bn, (arI G 120 f_b)), (a_k, (oc5 a_h a_j a_pt e_ln e_se e_lh e_br e_we e_me e_ce e_wy e_ho e_ov)), (a_j, (oc2 a_as a_sk)), (a_as, (arI G 8 z9)), (a_sk, (arJ G 50 k_k))] hP hD ?_
      clear hP hD
      intro hP hD
      refine W.eq (g2 := F0 m 61 ls [.int 0]) rfl ?_
      refine lv_if_ne (tgt := 75) hx hb dX5_meetBodies_61 (by decide +kernel) (fun c_10 => ?_) (fun c_10 => ?_)
      ·
        exact absurd c_10 (by decide +kernel)
      ·
        refine lv_aload_n hx hb dX5_meetBodies_64 rfl (lv_at hl 2 rfl) ?_
        refine lv_iload_n hx hb dX5_meetBodies_65 rfl (lv_at hl 0 rfl) ?_
        refine va_put (D := G.1) (ci := 5) (v := .int k_b) (ty := .int) (C := RX5) (T := TX5) (N := 13) hx hb hts inG_X5 tyX5 tyX5_ok nmX5 hown hK hP hD hS 4 rfl rfl 4 (by decide +kernel) (hts _ fl_X5_39) (fun _ h9 => h9) rfl (by decide +kernel) rfl rfl (Nat.le_of_ble_eq_true rfl) dX5_meetBodies_66 ?_
        clear hP hD hS
        intro H locs hP hD hS
        refine g5_rs [(a_h, (oc1 e_wa e_le e_st e_fo e_lc a_l a_g a_b a_s a_p a_w e_gb a_bb)), (a_l, (arW G 6 f_l)), (a_b, (oc6 5 24 a_bn e_b)), (a_bn, (arI G 120 f_b)), (a_k, (oc5 a_h a_j a_pt e_ln k_b e_lh e_br e_we e_me e_ce e_wy e_ho e_ov)), (a_j, (oc2 a_as a_sk)), (a_as, (arI G 8 z9)), (a_sk, (arJ G 50 k_k))] hP hD ?_
        clear hP hD
        intro hP hD
        refine lv_aload_n hx hb dX5_meetBodies_69 rfl (lv_at hl 2 rfl) ?_
        refine W.eq (g2 := F0 m 70 ls [.ref a_k]) rfl ?_
        refine lv_iconst (v := 1) hx hb dX5_meetBodies_70 (by decide +kernel) ?_
        refine va_put (D := G.1) (ci := 5) (v := .int 1) (ty := .boolean) (C := RX5) (T := TX5) (N := 13) hx hb hts inG_X5 tyX5 tyX5_ok nmX5 hown hK hP hD hS 4 rfl rfl 12 (by decide +kernel) (hts _ fl_X5_56) (fun _ h9 => h9) rfl (by decide +kernel) rfl rfl (Nat.le_of_ble_eq_true rfl) dX5_meetBodies_71 ?_
        clear hP hD hS
        intro H locs hP hD hS
        refine g5_rs [(a_h, (oc1 e_wa e_le e_st e_fo e_lc a_l a_g a_b a_s a_p a_w e_gb a_bb)), (a_l, (arW G 6 f_l)), (a_b, (oc6 5 24 a_bn e_b)), (a_bn, (arI G 120 f_b)), (a_k, (oc5 a_h a_j a_pt e_ln k_b e_lh e_br e_we e_me e_ce e_wy e_ho 1)), (a_j, (oc2 a_as a_sk)), (a_as, (arI G 8 z9)), (a_sk, (arJ G 50 k_k))] hP hD ?_
        clear hP hD
        intro hP hD
        exact W.vret hx hb hr (fun t ht hW => ⟨⟨[(a_k, (oc5 a_h a_j a_pt e_ln k_b e_lh e_br e_we e_me e_ce e_wy e_ho 1)), (a_h, (oc1 e_wa e_le e_st e_fo e_lc a_l a_g a_b a_s a_p a_w e_gb a_bb)), (a_b, (oc6 5 24 a_bn e_b)), (a_bn, (arI G 120 f_b)), (a_j, (oc2 a_as a_sk)), (a_as, (arI G 8 z9)), (a_sk, (arJ G 50 k_k)), (a_l, (arW G 6 f_l))], rfl, ⟨k_b, 1, z9, k_k, ⟨by have zc_o_v : (1 : Int32).toInt = 1 := (by decide +kernel); omega, by have zc_o_v : (1 : Int32).toInt = 1 := (by decide +kernel); omega⟩, rfl⟩, by rw [ht]; exact hP.sub [4, 0, 2, 3, 5, 6, 7, 1] rfl, hD.sub [4, 0, 2, 3, 5, 6, 7, 1] (by decide +kernel) rfl⟩, hS.F ht⟩) hS.2.2 dX5_meetBodies_74
set_option maxHeartbeats 4000000 in
set_option maxRecDepth 100000 in
theorem k_meetBodiesL (l : Launch) (G : g5_G) (a_k a_h a_b a_bn a_j a_as a_sk a_l a_lo a_sr a_cd a_hd a_pt a_g a_s a_p a_w a_bb : Nat) (sz : Nat) (e_ln : Int32) (e_se : Int32) (e_lh : Int32) (e_br : Int32) (e_we : Int32) (e_me : Int32) (e_ce : Int32) (e_wy : Int32) (e_ho : Int32) (e_ov : Int32) (e_le : Int32) (e_st : Int32) (e_fo : Int32) (e_lc : Int32) (e_b : Int32) (e_cl : Int32) (e_wa : Int64) (e_gb : Int64) (f_b : Nat → Int32) (f_as : Nat → Int32) (f_sk : Nat → Int64) (f_l : Nat → Option Nat) (f_sr : Nat → Int32) (f_cd : Nat → Int32) (f_hd : Nat → Int32) (n_sr : Nat) (n_cd : Nat) (n_hd : Nat) (h_e_br : 0 ≤ e_br.toInt ∧ e_br.toInt ≤ 1000000) (h_e_ce : 0 ≤ e_ce.toInt ∧ e_ce.toInt ≤ 63) (h_e_wy : 0 ≤ e_wy.toInt ∧ e_wy.toInt ≤ 3) (h_e_ho : 0 ≤ e_ho.toInt ∧ e_ho.toInt ≤ 23) (h_e_ov : 0 ≤ e_ov.toInt ∧ e_ov.toInt ≤ 1) (h_e_b : 0 ≤ e_b.toInt ∧ e_b.toInt ≤ 5) (h_e_cl : 0 ≤ e_cl.toInt ∧ e_cl.toInt ≤ 12) (e_f : 0 ≤ e_fo.toInt ∧ e_fo.toInt < e_lc.toInt ∧ e_lc.toInt ≤ 6) (e_a : f_l e_fo.toNatClampNeg = some a_lo) (e_hn : n_cd ≤ 400) (e_hs : ∀ j : Nat, j < n_sr → 0 ≤ (f_sr j).toInt ∧ (f_sr j).toInt ≤ (n_cd : Int)) (e_hk : ∀ j : Nat, j < n_cd → (f_cd j >>> (12 &&& 31)).toInt = 1 → (f_cd j &&& 4095).toInt < 8) (e_c : (e_cl.toInt : Int) ≤ (n_hd : Int) ∧ (e_cl.toInt + 1 : Int) ≤ (n_sr : Int)) : Met l yX5_meetBodies (wsG yX5_meetBodies cX5_meetBodies 3 none) ({ frames := 3, cells := 0, slots := 0, locals := 78 }) (va_Pc [.ref a_k] (g5_P G [(a_k, (oc5 a_h a_j a_pt e_ln e_se e_lh e_br e_we e_me e_ce e_wy e_ho e_ov)), (a_h, (oc1 e_wa e_le e_st e_fo e_lc a_l a_g a_b a_s a_p a_w e_gb a_bb)), (a_b, (oc6 5 24 a_bn e_b)), (a_bn, (arI G 120 f_b)), (a_j, (oc2 a_as a_sk)), (a_as, (arI G 8 f_as)), (a_sk, (arJ G 50 f_sk)), (a_l, (arW G 6 f_l)), (a_lo, (oc3 e_cl a_hd a_sr a_cd)), (a_sr, (arI G n_sr f_sr)), (a_cd, (arI G n_cd f_cd)), (a_hd, (arI G n_hd f_hd))] sz)) (va_Qv (fun (u : va_W) => (∃ (o_s : Int32) (o_v : Int32) (o_a : Nat → Int32) (o_k : Nat → Int64), (0 ≤ o_v.toInt ∧ o_v.toInt ≤ 1) ∧ (u = [(a_k, (oc5 a_h a_j a_pt e_ln o_s e_lh e_br e_we e_me e_ce e_wy e_ho o_v)), (a_h, (oc1 e_wa e_le e_st e_fo e_lc a_l a_g a_b a_s a_p a_w e_gb a_bb)), (a_b, (oc6 5 24 a_bn e_b)), (a_bn, (arI G 120 f_b)), (a_j, (oc2 a_as a_sk)), (a_as, (arI G 8 o_a)), (a_sk, (arJ G 50 o_k)), (a_l, (arW G 6 f_l)), (a_lo, (oc3 e_cl a_hd a_sr a_cd)), (a_sr, (arI G n_sr f_sr)), (a_cd, (arI G n_cd f_cd)), (a_hd, (arI G n_hd f_hd))]))) (g5_B G (va_A [(a_k, (oc5 a_h a_j a_pt e_ln e_se e_lh e_br e_we e_me e_ce e_wy e_ho e_ov)), (a_h, (oc1 e_wa e_le e_st e_fo e_lc a_l a_g a_b a_s a_p a_w e_gb a_bb)), (a_b, (oc6 5 24 a_bn e_b)), (a_bn, (arI G 120 f_b)), (a_j, (oc2 a_as a_sk)), (a_as, (arI G 8 f_as)), (a_sk, (arJ G 50 f_sk)), (a_l, (arW G 6 f_l)), (a_lo, (oc3 e_cl a_hd a_sr a_cd)), (a_sr, (arI G n_sr f_sr)), (a_cd, (arI G n_cd f_cd)), (a_hd, (arI G n_hd f_hd))] sz)) (va_A [(a_k, (oc5 a_h a_j a_pt e_ln e_se e_lh e_br e_we e_me e_ce e_wy e_ho e_ov)), (a_h, (oc1 e_wa e_le e_st e_fo e_lc a_l a_g a_b a_s a_p a_w e_gb a_bb)), (a_b, (oc6 5 24 a_bn e_b)), (a_bn, (arI G 120 f_b)), (a_j, (oc2 a_as a_sk)), (a_as, (arI G 8 f_as)), (a_sk, (arJ G 50 f_sk)), (a_l, (arW G 6 f_l)), (a_lo, (oc3 e_cl a_hd a_sr a_cd)), (a_sr, (arI G n_sr f_sr)), (a_cd, (arI G n_cd f_cd)), (a_hd, (arI G n_hd f_hd))] sz)) 0 0 (va_A [(a_k, (oc5 a_h a_j a_pt e_ln e_se e_lh e_br e_we e_me e_ce e_wy e_ho e_ov)), (a_h, (oc1 e_wa e_le e_st e_fo e_lc a_l a_g a_b a_s a_p a_w e_gb a_bb)), (a_b, (oc6 5 24 a_bn e_b)), (a_bn, (arI G 120 f_b)), (a_j, (oc2 a_as a_sk)), (a_as, (arI G 8 f_as)), (a_sk, (arJ G 50 f_sk)), (a_l, (arW G 6 f_l)), (a_lo, (oc3 e_cl a_hd a_sr a_cd)), (a_sr, (arI G n_sr f_sr)), (a_cd, (arI G n_cd f_cd)), (a_hd, (arI G n_hd f_hd))] sz) := by
  refine Met.ofW (cc := cX5_meetBodies) (maxL := 3) (ret := none) (by decide +kernel) rfl ?_
  intro p e s m args below meth c s₁ B hml hv
  obtain ⟨rfl, hsz, hP, hK, hD0, hN, hT⟩ := hv
  have hx := B.exec
  have hb := B.bytes
  have hr := B.returns
  have hts : ∀ w ∈ tblG, w.before _ s = true := fun w h => atoms_spec (ws := (wsG yX5_meetBodies cX5_meetBodies 3 none)) B.pre w (List.mem_cons_of_mem _ h)
  have hown : s.vm.findClass RX5 = some m.cls := findClass_of_methodNamed B.named
  have hlocks := B.notSynchronized
  subst hsz
  have hD := hD0.self (sz := s.heap.size)
  generalize hAe : va_A [(a_k, (oc5 a_h a_j a_pt e_ln e_se e_lh e_br e_we e_me e_ce e_wy e_ho e_ov)), (a_h, (oc1 e_wa e_le e_st e_fo e_lc a_l a_g a_b a_s a_p a_w e_gb a_bb)), (a_b, (oc6 5 24 a_bn e_b)), (a_bn, (arI G 120 f_b)), (a_j, (oc2 a_as a_sk)), (a_as, (arI G 8 f_as)), (a_sk, (arJ G 50 f_sk)), (a_l, (arW G 6 f_l)), (a_lo, (oc3 e_cl a_hd a_sr a_cd)), (a_sr, (arI G n_sr f_sr)), (a_cd, (arI G n_cd f_cd)), (a_hd, (arI G n_hd f_hd))] s.heap.size = A at hD hT ⊢
  have hA : ∀ q : Nat, s.heap.size ≤ q → A q := fun q h => by rw [← hAe]; exact Or.inr h
  have hS : va_S A s.heap s.heap [] := va_S.rf
  replace hP : va_P G.1 vwCl [(a_k, (oc5 a_h a_j a_pt e_ln e_se e_lh e_br e_we e_me e_ce e_wy e_ho e_ov)), (a_h, (oc1 e_wa e_le e_st e_fo e_lc a_l a_g a_b a_s a_p a_w e_gb a_bb)), (a_b, (oc6 5 24 a_bn e_b)), (a_bn, (arI G 120 f_b)), (a_j, (oc2 a_as a_sk)), (a_as, (arI G 8 f_as)), (a_sk, (arJ G 50 f_sk)), (a_l, (arW G 6 f_l)), (a_lo, (oc3 e_cl a_hd a_sr a_cd)), (a_sr, (arI G n_sr f_sr)), (a_cd, (arI G n_cd f_cd)), (a_hd, (arI G n_hd f_hd))] s.heap := hP
  have hl := lv_entry ([.ref a_k]) (n := 3) (Nat.le_of_ble_eq_true rfl)
  rw [lg_entry_eq]
  generalize (lg_sl ([.ref a_k]) ++ List.replicate (3 - (lg_sl ([.ref a_k])).length) Slot.unset).toArray = ls at hl ⊢
  replace hl : lv_has ls 3 [(0, .ref a_k)] := hl
  refine lv_aload_n hx hb dX5_meetBodies_0 rfl (lv_at hl 0 rfl) ?_
  refine va_get (D := G.1) (ci := 5) (v := .ref a_h) (C := RX5) (T := TX5) (N := 13) hx hb hts inG_X5 hown hK hP 0 rfl rfl 0 (by decide +kernel) (hts _ fl_X5_22) (fun _ h9 => h9) rfl dX5_meetBodies_1 ?_
  obtain ⟨hPc, hDc, hFc⟩ := g5_sub3 (wc := [(a_h, (oc1 e_wa e_le e_st e_fo e_lc a_l a_g a_b a_s a_p a_w e_gb a_bb)), (a_l, (arW G 6 f_l))]) hP hD hS hA [1, 7] (by decide +kernel) rfl
  refine va_callq (va_runV (As := []) (rest := []) ⟨hx, hb, hml, hown, hts⟩ (h_lawL l G a_h a_l a_g a_b a_s a_p a_w a_bb a_lo s.heap.size e_le e_st e_fo e_lc e_wa e_gb f_l (e_f) (e_a)) (cwV 0 hts gV_X5_113 rfl rfl rfl hv_X1_lawInForce ⟨Nat.le_of_ble_eq_true rfl, Nat.le_of_ble_eq_true rfl⟩) (g5_preV hPc hK hDc hN hT hS hFc (ci := 1) (q0 := 0) rfl rfl) rfl rfl hl.1 rfl (lv_room (Nat.le_of_ble_eq_true rfl)) dX5_meetBodies_4 ⟨Nat.le_of_ble_eq_true rfl, Nat.le_of_ble_eq_true rfl⟩) hS (fun q _ h => hFc q h) hFc (fun r u t H locs ht hvm hw hB hz1 hk1 hS => ?_)
  obtain ⟨hP1, hD1⟩ := hB
  have hP1 := g5_ht ht hP1
  obtain ⟨rfl, rfl⟩ := hw
  have hJ9 := va_join (wr := [(a_k, (oc5 a_h a_j a_pt e_ln e_se e_lh e_br e_we e_me e_ce e_wy e_ho e_ov)), (a_b, (oc6 5 24 a_bn e_b)), (a_bn, (arI G 120 f_b)), (a_j, (oc2 a_as a_sk)), (a_as, (arI G 8 f_as)), (a_sk, (arJ G 50 f_sk)), (a_lo, (oc3 e_cl a_hd a_sr a_cd)), (a_sr, (arI G n_sr f_sr)), (a_cd, (arI G n_cd f_cd)), (a_hd, (arI G n_hd f_hd))]) hP hD [1, 7] [0, 2, 3, 4, 5, 6, 8, 9, 10, 11] rfl rfl (by decide +kernel) (by decide +kernel) hk1 hFc hP1 hD1
  clear hP hD hPc hDc hFc ht hvm hz1 hk1 hP1 hD1
  obtain ⟨hP, hD⟩ := hJ9
  refine g5_rs [(a_k, (oc5 a_h a_j a_pt e_ln e_se e_lh e_br e_we e_me e_ce e_wy e_ho e_ov)), (a_b, (oc6 5 24 a_bn e_b)), (a_bn, (arI G 120 f_b)), (a_j, (oc2 a_as a_sk)), (a_as, (arI G 8 f_as)), (a_sk, (arJ G 50 f_sk)), (a_lo, (oc3 e_cl a_hd a_sr a_cd)), (a_sr, (arI G n_sr f_sr)), (a_cd, (arI G n_cd f_cd)), (a_hd, (arI G n_hd f_hd)), (a_h, (oc1 e_wa e_le e_st e_fo e_lc a_l a_g a_b a_s a_p a_w e_gb a_bb)), (a_l, (arW G 6 f_l))] hP hD ?_
  clear hP hD
  intro hP hD
  refine g5_tv (v := .ref a_lo) rfl ?_
  refine lv_astore_n (lv' := [(1, .ref a_lo), (0, .ref a_k)]) hx hb dX5_meetBodies_7 rfl hl (by decide +kernel) rfl ?_
  clear hl
  intro ls hl
  refine W.eq (g2 := F0 m 8 ls []) rfl ?_
  refine lv_iconst (v := 0) hx hb dX5_meetBodies_8 (by decide +kernel) ?_
  refine lv_istore_n (lv' := [(2, .int 0), (1, .ref a_lo), (0, .ref a_k)]) hx hb dX5_meetBodies_9 rfl hl (by decide +kernel) rfl ?_
  clear hl
  intro ls hl
  refine g5_loop (α := (Int32) × (Nat → Int32) × (Nat → Int64)) (fun (q : (Int32) × (Nat → Int32) × (Nat → Int64)) (ls : Array Slot) (H : Heap) (locs : List Loc) => match q with | (k_b, k_a, k_k) => lv_has ls 3 [(2, .int k_b), (1, .ref a_lo), (0, .ref a_k)] ∧ va_P G.1 vwCl [(a_k, (oc5 a_h a_j a_pt e_ln e_se e_lh e_br e_we e_me e_ce e_wy e_ho e_ov)), (a_b, (oc6 5 24 a_bn e_b)), (a_bn, (arI G 120 f_b)), (a_j, (oc2 a_as a_sk)), (a_as, (arI G 8 k_a)), (a_sk, (arJ G 50 k_k)), (a_lo, (oc3 e_cl a_hd a_sr a_cd)), (a_sr, (arI G n_sr f_sr)), (a_cd, (arI G n_cd f_cd)), (a_hd, (arI G n_hd f_hd)), (a_h, (oc1 e_wa e_le e_st e_fo e_lc a_l a_g a_b a_s a_p a_w e_gb a_bb)), (a_l, (arW G 6 f_l))] H ∧ va_D A [(a_k, (oc5 a_h a_j a_pt e_ln e_se e_lh e_br e_we e_me e_ce e_wy e_ho e_ov)), (a_b, (oc6 5 24 a_bn e_b)), (a_bn, (arI G 120 f_b)), (a_j, (oc2 a_as a_sk)), (a_as, (arI G 8 k_a)), (a_sk, (arJ G 50 k_k)), (a_lo, (oc3 e_cl a_hd a_sr a_cd)), (a_sr, (arI G n_sr f_sr)), (a_cd, (arI G n_cd f_cd)), (a_hd, (arI G n_hd f_hd)), (a_h, (oc1 e_wa e_le e_st e_fo e_lc a_l a_g a_b a_s a_p a_w e_gb a_bb)), (a_l, (arW G 6 f_l))] ∧ va_S A s.heap H locs ∧ (0 ≤ k_b.toInt ∧ k_b.toInt ≤ 5)) (fun (q : (Int32) × (Nat → Int32) × (Nat → Int64)) => match q with | (k_b, k_a, k_k) => Int.toNat (5 - k_b.toInt)) (0, f_as, f_sk) ⟨lv_sub hl [0, 1, 2] rfl, hP, hD, hS, ⟨by decide, by decide⟩⟩ ?_
  rintro ⟨k_b, k_a, k_k⟩ ls H locs ⟨hl, hP, hD, hS, (i_1 : 0 ≤ k_b.toInt ∧ k_b.toInt ≤ 5)⟩ ih_10_2
  replace hl : lv_has ls 3 [(2, .int k_b), (1, .ref a_lo), (0, .ref a_k)] := hl
  refine g5_rs [(a_k, (oc5 a_h a_j a_pt e_ln e_se e_lh e_br e_we e_me e_ce e_wy e_ho e_ov)), (a_b, (oc6 5 24 a_bn e_b)), (a_bn, (arI G 120 f_b)), (a_j, (oc2 a_as a_sk)), (a_as, (arI G 8 k_a)), (a_sk, (arJ G 50 k_k)), (a_lo, (oc3 e_cl a_hd a_sr a_cd)), (a_sr, (arI G n_sr f_sr)), (a_cd, (arI G n_cd f_cd)), (a_hd, (arI G n_hd f_hd)), (a_h, (oc1 e_wa e_le e_st e_fo e_lc a_l a_g a_b a_s a_p a_w e_gb a_bb)), (a_l, (arW G 6 f_l))] hP hD ?_
  clear hP hD
  intro hP hD
  refine lv_iload_n hx hb dX5_meetBodies_10 rfl (lv_at hl 0 rfl) ?_
  refine lv_aload_n hx hb dX5_meetBodies_11 rfl (lv_at hl 2 rfl) ?_
  refine va_get (D := G.1) (ci := 5) (v := .ref a_h) (C := RX5) (T := TX5) (N := 13) hx hb hts inG_X5 hown hK hP 0 rfl rfl 0 (by decide +kernel) (hts _ fl_X5_22) (fun _ h9 => h9) rfl dX5_meetBodies_12 ?_
  refine va_get (D := G.1) (ci := 1) (v := .ref a_b) (C := RX1) (T := TX1) (N := 13) hx hb hts inG_X1 hown hK hP 10 rfl rfl 7 (by decide +kernel) (hts _ fl_X5_117) (fun _ h9 => h9) rfl dX5_meetBodies_15 ?_
  refine W.eq (g2 := F0 m 18 ls [.ref a_b, .int k_b]) rfl ?_
  refine va_get (D := G.1) (ci := 6) (v := .int e_b) (C := RX6) (T := TX6) (N := 4) hx hb hts inG_X6 hown hK hP 1 rfl rfl 3 (by decide +kernel) (hts _ fl_X5_102) (fun _ h9 => h9) rfl dX5_meetBodies_18 ?_
  refine lv_icmp_ge (tgt := 81) hx hb dX5_meetBodies_21 (by decide +kernel) (fun c_3 => ?_) (fun c_3 => ?_)
  ·
    have i_3 : k_b.toInt ≥ e_b.toInt := g5_ge (a := k_b.toInt) (b := e_b.toInt) rfl rfl c_3
    exact W.vret hx hb hr (fun t ht hW => ⟨⟨[(a_k, (oc5 a_h a_j a_pt e_ln e_se e_lh e_br e_we e_me e_ce e_wy e_ho e_ov)), (a_h, (oc1 e_wa e_le e_st e_fo e_lc a_l a_g a_b a_s a_p a_w e_gb a_bb)), (a_b, (oc6 5 24 a_bn e_b)), (a_bn, (arI G 120 f_b)), (a_j, (oc2 a_as a_sk)), (a_as, (arI G 8 k_a)), (a_sk, (arJ G 50 k_k)), (a_l, (arW G 6 f_l)), (a_lo, (oc3 e_cl a_hd a_sr a_cd)), (a_sr, (arI G n_sr f_sr)), (a_cd, (arI G n_cd f_cd)), (a_hd, (arI G n_hd f_hd))], rfl, ⟨e_se, e_ov, k_a, k_k, h_e_ov, rfl⟩, by rw [ht]; exact hP.sub [0, 10, 1, 2, 3, 4, 5, 11, 6, 7, 8, 9] rfl, hD.sub [0, 10, 1, 2, 3, 4, 5, 11, 6, 7, 8, 9] (by decide +kernel) rfl⟩, hS.F ht⟩) hS.2.2 dX5_meetBodies_81
  ·
    have i_3 : k_b.toInt < e_b.toInt := g5_geN (a := k_b.toInt) (b := e_b.toInt) rfl rfl c_3
    refine lv_aload_n hx hb dX5_meetBodies_24 rfl (lv_at hl 2 rfl) ?_
    refine va_get (D := G.1) (ci := 5) (v := .ref a_h) (C := RX5) (T := TX5) (N := 13) hx hb hts inG_X5 hown hK hP 0 rfl rfl 0 (by decide +kernel) (hts _ fl_X5_22) (fun _ h9 => h9) rfl dX5_meetBodies_25 ?_
    refine va_get (D := G.1) (ci := 1) (v := .ref a_b) (C := RX1) (T := TX1) (N := 13) hx hb hts inG_X1 hown hK hP 10 rfl rfl 7 (by decide +kernel) (hts _ fl_X5_117) (fun _ h9 => h9) rfl dX5_meetBodies_28 ?_
    refine lv_iload_n hx hb dX5_meetBodies_31 rfl (lv_at hl 0 rfl) ?_
    refine W.eq (g2 := F0 m 32 ls [.int k_b, .ref a_b]) rfl ?_
    refine lv_aload_n hx hb dX5_meetBodies_32 rfl (lv_at hl 2 rfl) ?_
    refine va_get (D := G.1) (ci := 5) (v := .int e_ho) (C := RX5) (T := TX5) (N := 13) hx hb hts inG_X5 hown hK hP 0 rfl rfl 11 (by decide +kernel) (hts _ fl_X5_33) (fun _ h9 => h9) rfl dX5_meetBodies_33 ?_
    obtain ⟨hPc, hDc, hFc⟩ := g5_sub3 (wc := [(a_b, (oc6 5 24 a_bn e_b)), (a_bn, (arI G 120 f_b))]) hP hD hS hA [1, 2] (by decide +kernel) rfl
    refine va_calli (va_runV (As := [.int k_b, .int e_ho]) (rest := []) ⟨hx, hb, hml, hown, hts⟩ (t_get_B l G a_b a_bn H.size e_b k_b e_ho f_b h_e_b) (cwV 2 hts gV_X5_107 rfl rfl rfl hv_X6_get ⟨Nat.le_of_ble_eq_true rfl, Nat.le_of_ble_eq_true rfl⟩) (g5_preV hPc hK hDc hN hT hS hFc (ci := 6) (q0 := 0) rfl rfl) rfl rfl hl.1 rfl (lv_room (Nat.le_of_ble_eq_true rfl)) dX5_meetBodies_36 ⟨Nat.le_of_ble_eq_true rfl, Nat.le_of_ble_eq_true rfl⟩) hS (fun q _ h => hFc q h) hFc (fun r u t H locs ht hvm hw hB hz1 hk1 hS => ?_)
    obtain ⟨hP1, hD1⟩ := hB
    have hP1 := g5_ht ht hP1
    obtain ⟨z5, (i_4 : z5 = tget f_b e_b.toInt 24 k_b.toInt e_ho.toInt), y6, rfl⟩ := hw
    have hJ9 := va_join (wr := [(a_k, (oc5 a_h a_j a_pt e_ln e_se e_lh e_br e_we e_me e_ce e_wy e_ho e_ov)), (a_j, (oc2 a_as a_sk)), (a_as, (arI G 8 k_a)), (a_sk, (arJ G 50 k_k)), (a_lo, (oc3 e_cl a_hd a_sr a_cd)), (a_sr, (arI G n_sr f_sr)), (a_cd, (arI G n_cd f_cd)), (a_hd, (arI G n_hd f_hd)), (a_h, (oc1 e_wa e_le e_st e_fo e_lc a_l a_g a_b a_s a_p a_w e_gb a_bb)), (a_l, (arW G 6 f_l))]) hP hD [1, 2] [0, 3, 4, 5, 6, 7, 8, 9, 10, 11] rfl rfl (by decide +kernel) (by decide +kernel) hk1 hFc hP1 hD1
    clear hP hD hPc hDc hFc ht hvm hz1 hk1 hP1 hD1
    obtain ⟨hP, hD⟩ := hJ9
    refine g5_rs [(a_k, (oc5 a_h a_j a_pt e_ln e_se e_lh e_br e_we e_me e_ce e_wy e_ho e_ov)), (a_j, (oc2 a_as a_sk)), (a_as, (arI G 8 k_a)), (a_sk, (arJ G 50 k_k)), (a_lo, (oc3 e_cl a_hd a_sr a_cd)), (a_sr, (arI G n_sr f_sr)), (a_cd, (arI G n_cd f_cd)), (a_hd, (arI G n_hd f_hd)), (a_h, (oc1 e_wa e_le e_st e_fo e_lc a_l a_g a_b a_s a_p a_w e_gb a_bb)), (a_l, (arW G 6 f_l)), (a_b, (oc6 5 24 a_bn e_b)), (a_bn, (arI G 120 f_b))] hP hD ?_
    clear hP hD
    intro hP hD
    refine g5_ti (v := z5) y6 ?_
    refine lv_aload_n hx hb dX5_meetBodies_39 rfl (lv_at hl 2 rfl) ?_
    refine va_get (D := G.1) (ci := 5) (v := .int e_ce) (C := RX5) (T := TX5) (N := 13) hx hb hts inG_X5 hown hK hP 0 rfl rfl 9 (by decide +kernel) (hts _ fl_X5_26) (fun _ h9 => h9) rfl dX5_meetBodies_40 ?_
    refine W.eq (g2 := F0 m 43 ls [.int e_ce, .int z5]) rfl ?_
    refine lv_icmp_ne (tgt := 75) hx hb dX5_meetBodies_43 (by decide +kernel) (fun c_7 => ?_) (fun c_7 => ?_)
    ·
      have n_7 : gNe (z5.toInt) (e_ce.toInt) := g5_ne (a := z5.toInt) (b := e_ce.toInt) rfl rfl c_7
      refine lv_iinc (v := (k_b + 1)) (lv' := [(2, .int (k_b + 1)), (1, .ref a_lo), (0, .ref a_k)]) hx hb dX5_meetBodies_75 hl (k := 0) rfl rfl (by decide +kernel) rfl ?_
      clear hl
      intro ls hl
      have t_8 : (k_b + 1).toInt = k_b.toInt + 1 := g5_iadd (a := k_b.toInt) (b := 1) rfl (by decide +kernel) (by omega) (by omega)
      refine lv_goto (tgt := 10) hx hb dX5_meetBodies_78 (by decide +kernel) ?_
      exact ih_10_2 ((k_b + 1), k_a, k_k) ls H locs (show Int.toNat (5 - (k_b + 1).toInt) < Int.toNat (5 - k_b.toInt) from g_up (show k_b.toInt < (k_b + 1).toInt by omega) (show k_b.toInt < 5 by omega)) ⟨lv_sub hl [0, 1, 2] rfl, hP.sub [0, 10, 11, 1, 2, 3, 4, 5, 6, 7, 8, 9] rfl, hD.sub [0, 10, 11, 1, 2, 3, 4, 5, 6, 7, 8, 9] (by decide +kernel) rfl, hS, ⟨by omega, by omega⟩⟩
    ·
      have i_7 : z5.toInt = e_ce.toInt := g5_neN (a := z5.toInt) (b := e_ce.toInt) rfl rfl c_7
      refine lv_aload_n hx hb dX5_meetBodies_46 rfl (lv_at hl 2 rfl) ?_
      refine lv_iconst (v := (-1)) hx hb dX5_meetBodies_47 (by decide +kernel) ?_
      refine lv_iload_n hx hb dX5_meetBodies_48 rfl (lv_at hl 0 rfl) ?_
      obtain ⟨hPc, hDc, hFc⟩ := g5_sub3 (wc := [(a_k, (oc5 a_h a_j a_pt e_ln e_se e_lh e_br e_we e_me e_ce e_wy e_ho e_ov)), (a_j, (oc2 a_as a_sk)), (a_as, (arI G 8 k_a))]) hP hD hS hA [0, 1, 2] (by decide +kernel) rfl
      refine va_callv (va_runV (As := [.int (-1), .int k_b]) (rest := []) ⟨hx, hb, hml, hown, hts⟩ (k_ask l G a_k a_j a_as a_h a_pt a_sk H.size e_ln e_se e_lh e_br e_we e_me e_ce e_wy e_ho e_ov (-1) k_b k_a h_e_br h_e_ce h_e_wy h_e_ho h_e_ov) (cwV 2 hts gV_X5_120 rfl rfl rfl hv_X5_ask ⟨Nat.le_of_ble_eq_true rfl, Nat.le_of_ble_eq_true rfl⟩) (g5_preV hPc hK hDc hN hT hS hFc (ci := 5) (q0 := 0) rfl rfl) rfl rfl hl.1 rfl (lv_room (Nat.le_of_ble_eq_true rfl)) dX5_meetBodies_49 ⟨Nat.le_of_ble_eq_true rfl, Nat.le_of_ble_eq_true rfl⟩) hS (fun q _ h => hFc q h) hFc (fun u t H locs ht hvm hw hB hz1 hk1 hS => ?_)
      obtain ⟨hP1, hD1⟩ := hB
      have hP1 := g5_ht ht hP1
      obtain ⟨z9, rfl⟩ := hw
      have hJ9 := va_join (wr := [(a_sk, (arJ G 50 k_k)), (a_lo, (oc3 e_cl a_hd a_sr a_cd)), (a_sr, (arI G n_sr f_sr)), (a_cd, (arI G n_cd f_cd)), (a_hd, (arI G n_hd f_hd)), (a_h, (oc1 e_wa e_le e_st e_fo e_lc a_l a_g a_b a_s a_p a_w e_gb a_bb)), (a_l, (arW G 6 f_l)), (a_b, (oc6 5 24 a_bn e_b)), (a_bn, (arI G 120 f_b))]) hP hD [0, 1, 2] [3, 4, 5, 6, 7, 8, 9, 10, 11] rfl rfl (by decide +kernel) (by decide +kernel) hk1 hFc hP1 hD1
      clear hP hD hPc hDc hFc ht hvm hz1 hk1 hP1 hD1
      obtain ⟨hP, hD⟩ := hJ9
      refine g5_rs [(a_sk, (arJ G 50 k_k)), (a_lo, (oc3 e_cl a_hd a_sr a_cd)), (a_sr, (arI G n_sr f_sr)), (a_cd, (arI G n_cd f_cd)), (a_hd, (arI G n_hd f_hd)), (a_h, (oc1 e_wa e_le e_st e_fo e_lc a_l a_g a_b a_s a_p a_w e_gb a_bb)), (a_l, (arW G 6 f_l)), (a_b, (oc6 5 24 a_bn e_b)), (a_bn, (arI G 120 f_b)), (a_k, (oc5 a_h a_j a_pt e_ln e_se e_lh e_br e_we e_me e_ce e_wy e_ho e_ov)), (a_j, (oc2 a_as a_sk)), (a_as, (arI G 8 z9))] hP hD ?_
      clear hP hD
      intro hP hD
      refine W.eq (g2 := F0 m 52 ls []) rfl ?_
      refine lv_aload_n hx hb dX5_meetBodies_52 rfl (lv_at hl 2 rfl) ?_
      refine va_get (D := G.1) (ci := 5) (v := .ref a_j) (C := RX5) (T := TX5) (N := 13) hx hb hts inG_X5 hown hK hP 9 rfl rfl 1 (by decide +kernel) (hts _ fl_X5_12) (fun _ h9 => h9) rfl dX5_meetBodies_53 ?_
      refine lv_aload_n hx hb dX5_meetBodies_56 rfl (lv_at hl 1 rfl) ?_
      refine lv_iconst (v := 3) hx hb dX5_meetBodies_57 (by decide +kernel) ?_
      obtain ⟨hPc, hDc, hFc⟩ := g5_sub3 (wc := [(a_j, (oc2 a_as a_sk)), (a_as, (arI G 8 z9)), (a_sk, (arJ G 50 k_k)), (a_lo, (oc3 e_cl a_hd a_sr a_cd)), (a_sr, (arI G n_sr f_sr)), (a_cd, (arI G n_cd f_cd)), (a_hd, (arI G n_hd f_hd))]) hP hD hS hA [10, 11, 0, 1, 2, 3, 4] (by decide +kernel) rfl
      refine va_calli (va_runV (As := [.ref a_lo, .int 3]) (rest := []) ⟨hx, hb, hml, hown, hts⟩ (j_isHeld l G a_j a_as a_sk a_lo a_sr a_cd a_hd H.size 3 e_cl z9 k_k f_sr f_cd f_hd n_sr n_cd n_hd h_e_cl (e_hn) (e_hs) (e_hk) (e_c)) (cwV 2 hts gV_X5_124 rfl rfl rfl hv_X2_isHeld ⟨Nat.le_of_ble_eq_true rfl, Nat.le_of_ble_eq_true rfl⟩) (g5_preV hPc hK hDc hN hT hS hFc (ci := 2) (q0 := 0) rfl rfl) rfl rfl hl.1 rfl (lv_room (Nat.le_of_ble_eq_true rfl)) dX5_meetBodies_58 ⟨Nat.le_of_ble_eq_true rfl, Nat.le_of_ble_eq_true rfl⟩) hS (fun q _ h => hFc q h) hFc (fun r u t H locs ht hvm hw hB hz1 hk1 hS => ?_)
      obtain ⟨hP1, hD1⟩ := hB
      have hP1 := g5_ht ht hP1
      obtain ⟨z11, z12, (i_10 : 0 ≤ z11.toInt ∧ z11.toInt ≤ 1), y13, rfl⟩ := hw
      have hJ9 := va_join (wr := [(a_h, (oc1 e_wa e_le e_st e_fo e_lc a_l a_g a_b a_s a_p a_w e_gb a_bb)), (a_l, (arW G 6 f_l)), (a_b, (oc6 5 24 a_bn e_b)), (a_bn, (arI G 120 f_b)), (a_k, (oc5 a_h a_j a_pt e_ln e_se e_lh e_br e_we e_me e_ce e_wy e_ho e_ov))]) hP hD [10, 11, 0, 1, 2, 3, 4] [5, 6, 7, 8, 9] rfl rfl (by decide +kernel) (by decide +kernel) hk1 hFc hP1 hD1
      clear hP hD hPc hDc hFc ht hvm hz1 hk1 hP1 hD1
      obtain ⟨hP, hD⟩ := hJ9
      refine g5_rs [(a_h, (oc1 e_wa e_le e_st e_fo e_lc a_l a_g a_b a_s a_p a_w e_gb a_bb)), (a_l, (arW G 6 f_l)), (a_b, (oc6 5 24 a_bn e_b)), (a_bn, (arI G 120 f_b)), (a_k, (oc5 a_h a_j a_pt e_ln e_se e_lh e_br e_we e_me e_ce e_wy e_ho e_ov)), (a_j, (oc2 a_as a_sk)), (a_as, (arI G 8 z9)), (a_sk, (arJ G 50 z12)), (a_lo, (oc3 e_cl a_hd a_sr a_cd)), (a_sr, (arI G n_sr f_sr)), (a_cd, (arI G n_cd f_cd)), (a_hd, (arI G n_hd f_hd))] hP hD ?_
      clear hP hD
      intro hP hD
      refine g5_ti (v := z11) y13 ?_
      refine W.eq (g2 := F0 m 61 ls [.int z11]) rfl ?_
      refine lv_if_ne (tgt := 75) hx hb dX5_meetBodies_61 (by decide +kernel) (fun c_14 => ?_) (fun c_14 => ?_)
      ·
        have n_14 : gNe (z11.toInt) (0) := g5_ne (a := z11.toInt) (b := 0) rfl (by decide +kernel) c_14
        have i_14 : z11.toInt ≥ 1 := by have z := g5_ne (a := z11.toInt) (b := 0) (by rfl) (by decide +kernel) c_14; omega
        refine lv_iinc (v := (k_b + 1)) (lv' := [(2, .int (k_b + 1)), (1, .ref a_lo), (0, .ref a_k)]) hx hb dX5_meetBodies_75 hl (k := 0) rfl rfl (by decide +kernel) rfl ?_
        clear hl
        intro ls hl
        have t_15 : (k_b + 1).toInt = k_b.toInt + 1 := g5_iadd (a := k_b.toInt) (b := 1) rfl (by decide +kernel) (by omega) (by omega)
        refine lv_goto (tgt := 10) hx hb dX5_meetBodies_78 (by decide +kernel) ?_
        exact ih_10_2 ((k_b + 1), z9, z12) ls H locs (show Int.toNat (5 - (k_b + 1).toInt) < Int.toNat (5 - k_b.toInt) from g_up (show k_b.toInt < (k_b + 1).toInt by omega) (show k_b.toInt < 5 by omega)) ⟨lv_sub hl [0, 1, 2] rfl, hP.sub [4, 2, 3, 5, 6, 7, 8, 9, 10, 11, 0, 1] rfl, hD.sub [4, 2, 3, 5, 6, 7, 8, 9, 10, 11, 0, 1] (by decide +kernel) rfl, hS, ⟨by omega, by omega⟩⟩
      ·
        have i_14 : z11.toInt = 0 := g5_neN (a := z11.toInt) (b := 0) rfl (by decide +kernel) c_14
        refine lv_aload_n hx hb dX5_meetBodies_64 rfl (lv_at hl 2 rfl) ?_
        refine lv_iload_n hx hb dX5_meetBodies_65 rfl (lv_at hl 0 rfl) ?_
        refine va_put (D := G.1) (ci := 5) (v := .int k_b) (ty := .int) (C := RX5) (T := TX5) (N := 13) hx hb hts inG_X5 tyX5 tyX5_ok nmX5 hown hK hP hD hS 4 rfl rfl 4 (by decide +kernel) (hts _ fl_X5_39) (fun _ h9 => h9) rfl (by decide +kernel) rfl rfl (Nat.le_of_ble_eq_true rfl) dX5_meetBodies_66 ?_
        clear hP hD hS
        intro H locs hP hD hS
        refine g5_rs [(a_h, (oc1 e_wa e_le e_st e_fo e_lc a_l a_g a_b a_s a_p a_w e_gb a_bb)), (a_l, (arW G 6 f_l)), (a_b, (oc6 5 24 a_bn e_b)), (a_bn, (arI G 120 f_b)), (a_k, (oc5 a_h a_j a_pt e_ln k_b e_lh e_br e_we e_me e_ce e_wy e_ho e_ov)), (a_j, (oc2 a_as a_sk)), (a_as, (arI G 8 z9)), (a_sk, (arJ G 50 z12)), (a_lo, (oc3 e_cl a_hd a_sr a_cd)), (a_sr, (arI G n_sr f_sr)), (a_cd, (arI G n_cd f_cd)), (a_hd, (arI G n_hd f_hd))] hP hD ?_
        clear hP hD
        intro hP hD
        refine lv_aload_n hx hb dX5_meetBodies_69 rfl (lv_at hl 2 rfl) ?_
        refine W.eq (g2 := F0 m 70 ls [.ref a_k]) rfl ?_
        refine lv_iconst (v := 1) hx hb dX5_meetBodies_70 (by decide +kernel) ?_
        refine va_put (D := G.1) (ci := 5) (v := .int 1) (ty := .boolean) (C := RX5) (T := TX5) (N := 13) hx hb hts inG_X5 tyX5 tyX5_ok nmX5 hown hK hP hD hS 4 rfl rfl 12 (by decide +kernel) (hts _ fl_X5_56) (fun _ h9 => h9) rfl (by decide +kernel) rfl rfl (Nat.le_of_ble_eq_true rfl) dX5_meetBodies_71 ?_
        clear hP hD hS
        intro H locs hP hD hS
        refine g5_rs [(a_h, (oc1 e_wa e_le e_st e_fo e_lc a_l a_g a_b a_s a_p a_w e_gb a_bb)), (a_l, (arW G 6 f_l)), (a_b, (oc6 5 24 a_bn e_b)), (a_bn, (arI G 120 f_b)), (a_k, (oc5 a_h a_j a_pt e_ln k_b e_lh e_br e_we e_me e_ce e_wy e_ho 1)), (a_j, (oc2 a_as a_sk)), (a_as, (arI G 8 z9)), (a_sk, (arJ G 50 z12)), (a_lo, (oc3 e_cl a_hd a_sr a_cd)), (a_sr, (arI G n_sr f_sr)), (a_cd, (arI G n_cd f_cd)), (a_hd, (arI G n_hd f_hd))] hP hD ?_
        clear hP hD
        intro hP hD
        exact W.vret hx hb hr (fun t ht hW => ⟨⟨[(a_k, (oc5 a_h a_j a_pt e_ln k_b e_lh e_br e_we e_me e_ce e_wy e_ho 1)), (a_h, (oc1 e_wa e_le e_st e_fo e_lc a_l a_g a_b a_s a_p a_w e_gb a_bb)), (a_b, (oc6 5 24 a_bn e_b)), (a_bn, (arI G 120 f_b)), (a_j, (oc2 a_as a_sk)), (a_as, (arI G 8 z9)), (a_sk, (arJ G 50 z12)), (a_l, (arW G 6 f_l)), (a_lo, (oc3 e_cl a_hd a_sr a_cd)), (a_sr, (arI G n_sr f_sr)), (a_cd, (arI G n_cd f_cd)), (a_hd, (arI G n_hd f_hd))], rfl, ⟨k_b, 1, z9, z12, ⟨by have zc_o_v : (1 : Int32).toInt = 1 := (by decide +kernel); omega, by have zc_o_v : (1 : Int32).toInt = 1 := (by decide +kernel); omega⟩, rfl⟩, by rw [ht]; exact hP.sub [4, 0, 2, 3, 5, 6, 7, 1, 8, 9, 10, 11] rfl, hD.sub [4, 0, 2, 3, 5, 6, 7, 1, 8, 9, 10, 11] (by decide +kernel) rfl⟩, hS.F ht⟩) hS.2.2 dX5_meetBodies_74
theorem dgX5_meetGlass_0 : ∀ r ∈ ([(0, (.aload_n 0, 1)), (1, (.iconst 1, 1)), (2, (.putfield 56, 3)), (5, (.aload_n 0, 1)), (6, (.getfield 22, 3)), (9, (.getfield 128, 3)), (12, (.iconst 0, 1)), (13, (.aload_n 0, 1)), (14, (.getfield 26, 3)), (17, (.invokevirtual 131, 3)), (20, (.istore_n 1, 1)), (21, (.iload_n 1, 1)), (22, (.iconst (-1), 1)), (23, (.if_icmp .ne 13, 3)), (26, (.aload_n 0, 1)), (27, (.getfield 22, 3)), (30, (.getfield 98, 3)), (33, (.goto 10, 3)), (36, (.aload_n 0, 1)), (37, (.getfield 22, 3)), (40, (.getfield 128, 3)), (43, (.astore_n 2, 1)), (44, (.iload_n 1, 1)), (45, (.iconst (-1), 1)), (46, (.if_icmp .ne 21, 3)), (49, (.aload_n 0, 1)), (50, (.getfield 22, 3)), (53, (.getfield 98, 3)), (56, (.iconst 0, 1)), (57, (.aload_n 0, 1)), (58, (.getfield 26, 3)), (61, (.invokevirtual 131, 3)), (64, (.goto 4, 3)), (67, (.iload_n 1, 1)), (68, (.istore_n 3, 1)), (69, (.iload_n 1, 1)), (70, (.iconst (-1), 1)), (71, (.if_icmp .ne 10, 3)), (74, (.bipush 6, 2)), (76, (.iload_n 3, 1))] : List (Nat × (Instr × Nat))), decode cX5_meetGlass r.1 = .ok r.2 := by decide +kernel
theorem dX5_meetGlass_0 : decode cX5_meetGlass 0 = .ok (.aload_n 0, 1) := dgX5_meetGlass_0 (0, (.aload_n 0, 1)) (List.mem_of_getElem? (i := 0) rfl)
theorem dX5_meetGlass_1 : decode cX5_meetGlass 1 = .ok (.iconst 1, 1) := dgX5_meetGlass_0 (1, (.iconst 1, 1)) (List.mem_of_getElem? (i := 1) rfl)
theorem dX5_meetGlass_2 : decode cX5_meetGlass 2 = .ok (.putfield 56, 3) := dgX5_meetGlass_0 (2, (.putfield 56, 3)) (List.mem_of_getElem? (i := 2) rfl)
theorem dX5_meetGlass_5 : decode cX5_meetGlass 5 = .ok (.aload_n 0, 1) := dgX5_meetGlass_0 (5, (.aload_n 0, 1)) (List.mem_of_getElem? (i := 3) rfl)
theorem dX5_meetGlass_6 : decode cX5_meetGlass 6 = .ok (.getfield 22, 3) := dgX5_meetGlass_0 (6, (.getfield 22, 3)) (List.mem_of_getElem? (i := 4) rfl)
theorem dX5_meetGlass_9 : decode cX5_meetGlass 9 = .ok (.getfield 128, 3) := dgX5_meetGlass_0 (9, (.getfield 128, 3)) (List.mem_of_getElem? (i := 5) rfl)
theorem dX5_meetGlass_12 : decode cX5_meetGlass 12 = .ok (.iconst 0, 1) := dgX5_meetGlass_0 (12, (.iconst 0, 1)) (List.mem_of_getElem? (i := 6) rfl)
theorem dX5_meetGlass_13 : decode cX5_meetGlass 13 = .ok (.aload_n 0, 1) := dgX5_meetGlass_0 (13, (.aload_n 0, 1)) (List.mem_of_getElem? (i := 7) rfl)
theorem dX5_meetGlass_14 : decode cX5_meetGlass 14 = .ok (.getfield 26, 3) := dgX5_meetGlass_0 (14, (.getfield 26, 3)) (List.mem_of_getElem? (i := 8) rfl)
theorem dX5_meetGlass_17 : decode cX5_meetGlass 17 = .ok (.invokevirtual 131, 3) := dgX5_meetGlass_0 (17, (.invokevirtual 131, 3)) (List.mem_of_getElem? (i := 9) rfl)
theorem dX5_meetGlass_20 : decode cX5_meetGlass 20 = .ok (.istore_n 1, 1) := dgX5_meetGlass_0 (20, (.istore_n 1, 1)) (List.mem_of_getElem? (i := 10) rfl)
theorem dX5_meetGlass_21 : decode cX5_meetGlass 21 = .ok (.iload_n 1, 1) := dgX5_meetGlass_0 (21, (.iload_n 1, 1)) (List.mem_of_getElem? (i := 11) rfl)
theorem dX5_meetGlass_22 : decode cX5_meetGlass 22 = .ok (.iconst (-1), 1) := dgX5_meetGlass_0 (22, (.iconst (-1), 1)) (List.mem_of_getElem? (i := 12) rfl)
theorem dX5_meetGlass_23 : decode cX5_meetGlass 23 = .ok (.if_icmp .ne 13, 3) := dgX5_meetGlass_0 (23, (.if_icmp .ne 13, 3)) (List.mem_of_getElem? (i := 13) rfl)
theorem dX5_meetGlass_26 : decode cX5_meetGlass 26 = .ok (.aload_n 0, 1) := dgX5_meetGlass_0 (26, (.aload_n 0, 1)) (List.mem_of_getElem? (i := 14) rfl)
theorem dX5_meetGlass_27 : decode cX5_meetGlass 27 = .ok (.getfield 22, 3) := dgX5_meetGlass_0 (27, (.getfield 22, 3)) (List.mem_of_getElem? (i := 15) rfl)
theorem dX5_meetGlass_30 : decode cX5_meetGlass 30 = .ok (.getfield 98, 3) := dgX5_meetGlass_0 (30, (.getfield 98, 3)) (List.mem_of_getElem? (i := 16) rfl)
theorem dX5_meetGlass_33 : decode cX5_meetGlass 33 = .ok (.goto 10, 3) := dgX5_meetGlass_0 (33, (.goto 10, 3)) (List.mem_of_getElem? (i := 17) rfl)
theorem dX5_meetGlass_36 : decode cX5_meetGlass 36 = .ok (.aload_n 0, 1) := dgX5_meetGlass_0 (36, (.aload_n 0, 1)) (List.mem_of_getElem? (i := 18) rfl)
theorem dX5_meetGlass_37 : decode cX5_meetGlass 37 = .ok (.getfield 22, 3) := dgX5_meetGlass_0 (37, (.getfield 22, 3)) (List.mem_of_getElem? (i := 19) rfl)
theorem dX5_meetGlass_40 : decode cX5_meetGlass 40 = .ok (.getfield 128, 3) := dgX5_meetGlass_0 (40, (.getfield 128, 3)) (List.mem_of_getElem? (i := 20) rfl)
theorem dX5_meetGlass_43 : decode cX5_meetGlass 43 = .ok (.astore_n 2, 1) := dgX5_meetGlass_0 (43, (.astore_n 2, 1)) (List.mem_of_getElem? (i := 21) rfl)
theorem dX5_meetGlass_44 : decode cX5_meetGlass 44 = .ok (.iload_n 1, 1) := dgX5_meetGlass_0 (44, (.iload_n 1, 1)) (List.mem_of_getElem? (i := 22) rfl)
theorem dX5_meetGlass_45 : decode cX5_meetGlass 45 = .ok (.iconst (-1), 1) := dgX5_meetGlass_0 (45, (.iconst (-1), 1)) (List.mem_of_getElem? (i := 23) rfl)
theorem dX5_meetGlass_46 : decode cX5_meetGlass 46 = .ok (.if_icmp .ne 21, 3) := dgX5_meetGlass_0 (46, (.if_icmp .ne 21, 3)) (List.mem_of_getElem? (i := 24) rfl)
theorem dX5_meetGlass_49 : decode cX5_meetGlass 49 = .ok (.aload_n 0, 1) := dgX5_meetGlass_0 (49, (.aload_n 0, 1)) (List.mem_of_getElem? (i := 25) rfl)
theorem dX5_meetGlass_50 : decode cX5_meetGlass 50 = .ok (.getfield 22, 3) := dgX5_meetGlass_0 (50, (.getfield 22, 3)) (List.mem_of_getElem? (i := 26) rfl)
theorem dX5_meetGlass_53 : decode cX5_meetGlass 53 = .ok (.getfield 98, 3) := dgX5_meetGlass_0 (53, (.getfield 98, 3)) (List.mem_of_getElem? (i := 27) rfl)
theorem dX5_meetGlass_56 : decode cX5_meetGlass 56 = .ok (.iconst 0, 1) := dgX5_meetGlass_0 (56, (.iconst 0, 1)) (List.mem_of_getElem? (i := 28) rfl)
theorem dX5_meetGlass_57 : decode cX5_meetGlass 57 = .ok (.aload_n 0, 1) := dgX5_meetGlass_0 (57, (.aload_n 0, 1)) (List.mem_of_getElem? (i := 29) rfl)
theorem dX5_meetGlass_58 : decode cX5_meetGlass 58 = .ok (.getfield 26, 3) := dgX5_meetGlass_0 (58, (.getfield 26, 3)) (List.mem_of_getElem? (i := 30) rfl)
theorem dX5_meetGlass_61 : decode cX5_meetGlass 61 = .ok (.invokevirtual 131, 3) := dgX5_meetGlass_0 (61, (.invokevirtual 131, 3)) (List.mem_of_getElem? (i := 31) rfl)
theorem dX5_meetGlass_64 : decode cX5_meetGlass 64 = .ok (.goto 4, 3) := dgX5_meetGlass_0 (64, (.goto 4, 3)) (List.mem_of_getElem? (i := 32) rfl)
theorem dX5_meetGlass_67 : decode cX5_meetGlass 67 = .ok (.iload_n 1, 1) := dgX5_meetGlass_0 (67, (.iload_n 1, 1)) (List.mem_of_getElem? (i := 33) rfl)
theorem dX5_meetGlass_68 : decode cX5_meetGlass 68 = .ok (.istore_n 3, 1) := dgX5_meetGlass_0 (68, (.istore_n 3, 1)) (List.mem_of_getElem? (i := 34) rfl)
theorem dX5_meetGlass_69 : decode cX5_meetGlass 69 = .ok (.iload_n 1, 1) := dgX5_meetGlass_0 (69, (.iload_n 1, 1)) (List.mem_of_getElem? (i := 35) rfl)
theorem dX5_meetGlass_70 : decode cX5_meetGlass 70 = .ok (.iconst (-1), 1) := dgX5_meetGlass_0 (70, (.iconst (-1), 1)) (List.mem_of_getElem? (i := 36) rfl)
theorem dX5_meetGlass_71 : decode cX5_meetGlass 71 = .ok (.if_icmp .ne 10, 3) := dgX5_meetGlass_0 (71, (.if_icmp .ne 10, 3)) (List.mem_of_getElem? (i := 37) rfl)
theorem dX5_meetGlass_74 : decode cX5_meetGlass 74 = .ok (.bipush 6, 2) := dgX5_meetGlass_0 (74, (.bipush 6, 2)) (List.mem_of_getElem? (i := 38) rfl)
theorem dX5_meetGlass_76 : decode cX5_meetGlass 76 = .ok (.iload_n 3, 1) := dgX5_meetGlass_0 (76, (.iload_n 3, 1)) (List.mem_of_getElem? (i := 39) rfl)
theorem dgX5_meetGlass_1 : ∀ r ∈ ([(77, (.iadd, 1)), (78, (.goto 4, 3)), (81, (.iload_n 1, 1)), (82, (.istore 4, 2)), (84, (.aload_n 2, 1)), (85, (.iload_n 3, 1)), (86, (.iconst 1, 1)), (87, (.invokevirtual 107, 3)), (90, (.istore 5, 2)), (92, (.aload_n 0, 1)), (93, (.dup, 1)), (94, (.getfield 95, 3)), (97, (.iconst 1, 1)), (98, (.iload 4, 2)), (100, (.ishl, 1)), (101, (.ior, 1)), (102, (.putfield 95, 3)), (105, (.aload_n 0, 1)), (106, (.getfield 22, 3)), (109, (.invokevirtual 113, 3)), (112, (.astore 6, 2)), (114, (.aload_n 0, 1)), (115, (.iload 4, 2)), (117, (.iconst (-1), 1)), (118, (.invokevirtual 120, 3)), (121, (.aload_n 2, 1)), (122, (.iload_n 3, 1)), (123, (.iconst 4, 1)), (124, (.invokevirtual 107, 3)), (127, (.aload_n 0, 1)), (128, (.getfield 33, 3)), (131, (.ishr, 1)), (132, (.iconst 1, 1)), (133, (.iand, 1)), (134, (.ifCond .ne 35, 3)), (137, (.aload_n 0, 1)), (138, (.getfield 12, 3)), (141, (.aload 6, 2)), (143, (.iconst 2, 1)), (144, (.invokevirtual 124, 3))] : List (Nat × (Instr × Nat))), decode cX5_meetGlass r.1 = .ok r.2 := by decide +kernel
theorem dX5_meetGlass_77 : decode cX5_meetGlass 77 = .ok (.iadd, 1) := dgX5_meetGlass_1 (77, (.iadd, 1)) (List.mem_of_getElem? (i := 0) rfl)
theorem dX5_meetGlass_78 : decode cX5_meetGlass 78 = .ok (.goto 4, 3) := dgX5_meetGlass_1 (78, (.goto 4, 3)) (List.mem_of_getElem? (i := 1) rfl)
theorem dX5_meetGlass_81 : decode cX5_meetGlass 81 = .ok (.iload_n 1, 1) := dgX5_meetGlass_1 (81, (.iload_n 1, 1)) (List.mem_of_getElem? (i := 2) rfl)
theorem dX5_meetGlass_82 : decode cX5_meetGlass 82 = .ok (.istore 4, 2) := dgX5_meetGlass_1 (82, (.istore 4, 2)) (List.mem_of_getElem? (i := 3) rfl)
theorem dX5_meetGlass_84 : decode cX5_meetGlass 84 = .ok (.aload_n 2, 1) := dgX5_meetGlass_1 (84, (.aload_n 2, 1)) (List.mem_of_getElem? (i := 4) rfl)
theorem dX5_meetGlass_85 : decode cX5_meetGlass 85 = .ok (.iload_n 3, 1) := dgX5_meetGlass_1 (85, (.iload_n 3, 1)) (List.mem_of_getElem? (i := 5) rfl)
theorem dX5_meetGlass_86 : decode cX5_meetGlass 86 = .ok (.iconst 1, 1) := dgX5_meetGlass_1 (86, (.iconst 1, 1)) (List.mem_of_getElem? (i := 6) rfl)
theorem dX5_meetGlass_87 : decode cX5_meetGlass 87 = .ok (.invokevirtual 107, 3) := dgX5_meetGlass_1 (87, (.invokevirtual 107, 3)) (List.mem_of_getElem? (i := 7) rfl)
theorem dX5_meetGlass_90 : decode cX5_meetGlass 90 = .ok (.istore 5, 2) := dgX5_meetGlass_1 (90, (.istore 5, 2)) (List.mem_of_getElem? (i := 8) rfl)
theorem dX5_meetGlass_92 : decode cX5_meetGlass 92 = .ok (.aload_n 0, 1) := dgX5_meetGlass_1 (92, (.aload_n 0, 1)) (List.mem_of_getElem? (i := 9) rfl)
theorem dX5_meetGlass_93 : decode cX5_meetGlass 93 = .ok (.dup, 1) := dgX5_meetGlass_1 (93, (.dup, 1)) (List.mem_of_getElem? (i := 10) rfl)
theorem dX5_meetGlass_94 : decode cX5_meetGlass 94 = .ok (.getfield 95, 3) := dgX5_meetGlass_1 (94, (.getfield 95, 3)) (List.mem_of_getElem? (i := 11) rfl)
theorem dX5_meetGlass_97 : decode cX5_meetGlass 97 = .ok (.iconst 1, 1) := dgX5_meetGlass_1 (97, (.iconst 1, 1)) (List.mem_of_getElem? (i := 12) rfl)
theorem dX5_meetGlass_98 : decode cX5_meetGlass 98 = .ok (.iload 4, 2) := dgX5_meetGlass_1 (98, (.iload 4, 2)) (List.mem_of_getElem? (i := 13) rfl)
theorem dX5_meetGlass_100 : decode cX5_meetGlass 100 = .ok (.ishl, 1) := dgX5_meetGlass_1 (100, (.ishl, 1)) (List.mem_of_getElem? (i := 14) rfl)
theorem dX5_meetGlass_101 : decode cX5_meetGlass 101 = .ok (.ior, 1) := dgX5_meetGlass_1 (101, (.ior, 1)) (List.mem_of_getElem? (i := 15) rfl)
theorem dX5_meetGlass_102 : decode cX5_meetGlass 102 = .ok (.putfield 95, 3) := dgX5_meetGlass_1 (102, (.putfield 95, 3)) (List.mem_of_getElem? (i := 16) rfl)
theorem dX5_meetGlass_105 : decode cX5_meetGlass 105 = .ok (.aload_n 0, 1) := dgX5_meetGlass_1 (105, (.aload_n 0, 1)) (List.mem_of_getElem? (i := 17) rfl)
theorem dX5_meetGlass_106 : decode cX5_meetGlass 106 = .ok (.getfield 22, 3) := dgX5_meetGlass_1 (106, (.getfield 22, 3)) (List.mem_of_getElem? (i := 18) rfl)
theorem dX5_meetGlass_109 : decode cX5_meetGlass 109 = .ok (.invokevirtual 113, 3) := dgX5_meetGlass_1 (109, (.invokevirtual 113, 3)) (List.mem_of_getElem? (i := 19) rfl)
theorem dX5_meetGlass_112 : decode cX5_meetGlass 112 = .ok (.astore 6, 2) := dgX5_meetGlass_1 (112, (.astore 6, 2)) (List.mem_of_getElem? (i := 20) rfl)
theorem dX5_meetGlass_114 : decode cX5_meetGlass 114 = .ok (.aload_n 0, 1) := dgX5_meetGlass_1 (114, (.aload_n 0, 1)) (List.mem_of_getElem? (i := 21) rfl)
theorem dX5_meetGlass_115 : decode cX5_meetGlass 115 = .ok (.iload 4, 2) := dgX5_meetGlass_1 (115, (.iload 4, 2)) (List.mem_of_getElem? (i := 22) rfl)
theorem dX5_meetGlass_117 : decode cX5_meetGlass 117 = .ok (.iconst (-1), 1) := dgX5_meetGlass_1 (117, (.iconst (-1), 1)) (List.mem_of_getElem? (i := 23) rfl)
theorem dX5_meetGlass_118 : decode cX5_meetGlass 118 = .ok (.invokevirtual 120, 3) := dgX5_meetGlass_1 (118, (.invokevirtual 120, 3)) (List.mem_of_getElem? (i := 24) rfl)
theorem dX5_meetGlass_121 : decode cX5_meetGlass 121 = .ok (.aload_n 2, 1) := dgX5_meetGlass_1 (121, (.aload_n 2, 1)) (List.mem_of_getElem? (i := 25) rfl)
theorem dX5_meetGlass_122 : decode cX5_meetGlass 122 = .ok (.iload_n 3, 1) := dgX5_meetGlass_1 (122, (.iload_n 3, 1)) (List.mem_of_getElem? (i := 26) rfl)
theorem dX5_meetGlass_123 : decode cX5_meetGlass 123 = .ok (.iconst 4, 1) := dgX5_meetGlass_1 (123, (.iconst 4, 1)) (List.mem_of_getElem? (i := 27) rfl)
theorem dX5_meetGlass_124 : decode cX5_meetGlass 124 = .ok (.invokevirtual 107, 3) := dgX5_meetGlass_1 (124, (.invokevirtual 107, 3)) (List.mem_of_getElem? (i := 28) rfl)
theorem dX5_meetGlass_127 : decode cX5_meetGlass 127 = .ok (.aload_n 0, 1) := dgX5_meetGlass_1 (127, (.aload_n 0, 1)) (List.mem_of_getElem? (i := 29) rfl)
theorem dX5_meetGlass_128 : decode cX5_meetGlass 128 = .ok (.getfield 33, 3) := dgX5_meetGlass_1 (128, (.getfield 33, 3)) (List.mem_of_getElem? (i := 30) rfl)
theorem dX5_meetGlass_131 : decode cX5_meetGlass 131 = .ok (.ishr, 1) := dgX5_meetGlass_1 (131, (.ishr, 1)) (List.mem_of_getElem? (i := 31) rfl)
theorem dX5_meetGlass_132 : decode cX5_meetGlass 132 = .ok (.iconst 1, 1) := dgX5_meetGlass_1 (132, (.iconst 1, 1)) (List.mem_of_getElem? (i := 32) rfl)
theorem dX5_meetGlass_133 : decode cX5_meetGlass 133 = .ok (.iand, 1) := dgX5_meetGlass_1 (133, (.iand, 1)) (List.mem_of_getElem? (i := 33) rfl)
theorem dX5_meetGlass_134 : decode cX5_meetGlass 134 = .ok (.ifCond .ne 35, 3) := dgX5_meetGlass_1 (134, (.ifCond .ne 35, 3)) (List.mem_of_getElem? (i := 34) rfl)
theorem dX5_meetGlass_137 : decode cX5_meetGlass 137 = .ok (.aload_n 0, 1) := dgX5_meetGlass_1 (137, (.aload_n 0, 1)) (List.mem_of_getElem? (i := 35) rfl)
theorem dX5_meetGlass_138 : decode cX5_meetGlass 138 = .ok (.getfield 12, 3) := dgX5_meetGlass_1 (138, (.getfield 12, 3)) (List.mem_of_getElem? (i := 36) rfl)
theorem dX5_meetGlass_141 : decode cX5_meetGlass 141 = .ok (.aload 6, 2) := dgX5_meetGlass_1 (141, (.aload 6, 2)) (List.mem_of_getElem? (i := 37) rfl)
theorem dX5_meetGlass_143 : decode cX5_meetGlass 143 = .ok (.iconst 2, 1) := dgX5_meetGlass_1 (143, (.iconst 2, 1)) (List.mem_of_getElem? (i := 38) rfl)
theorem dX5_meetGlass_144 : decode cX5_meetGlass 144 = .ok (.invokevirtual 124, 3) := dgX5_meetGlass_1 (144, (.invokevirtual 124, 3)) (List.mem_of_getElem? (i := 39) rfl)
theorem dgX5_meetGlass_2 : ∀ r ∈ ([(147, (.ifCond .ne 22, 3)), (150, (.iload 5, 2)), (152, (.iconst 2, 1)), (153, (.if_icmp .lt 17, 3)), (156, (.iload 5, 2)), (158, (.iconst 2, 1)), (159, (.isub, 1)), (160, (.aload_n 0, 1)), (161, (.getfield 30, 3)), (164, (.iconst 2, 1)), (165, (.ixor, 1)), (166, (.if_icmp .eq 4, 3)), (169, (.return_, 1)), (170, (.aload_n 0, 1)), (171, (.getfield 12, 3)), (174, (.aload 6, 2)), (176, (.iconst 0, 1)), (177, (.invokevirtual 124, 3)), (180, (.ifCond .eq 15, 3)), (183, (.aload_n 0, 1)), (184, (.getfield 12, 3)), (187, (.bipush 23, 2)), (189, (.invokevirtual 134, 3)), (192, (.goto 9, 3)), (195, (.aload_n 2, 1)), (196, (.iload_n 3, 1)), (197, (.iconst 2, 1)), (198, (.invokevirtual 107, 3)), (201, (.istore 7, 2)), (203, (.iload 7, 2)), (205, (.aload_n 0, 1)), (206, (.getfield 33, 3)), (209, (.if_icmp .le 4, 3)), (212, (.return_, 1)), (213, (.aload_n 0, 1)), (214, (.getfield 12, 3)), (217, (.aload 6, 2)), (219, (.iconst 1, 1)), (220, (.invokevirtual 124, 3)), (223, (.ifCond .eq 15, 3))] : List (Nat × (Instr × Nat))), decode cX5_meetGlass r.1 = .ok r.2 := by decide +kernel
theorem dX5_meetGlass_147 : decode cX5_meetGlass 147 = .ok (.ifCond .ne 22, 3) := dgX5_meetGlass_2 (147, (.ifCond .ne 22, 3)) (List.mem_of_getElem? (i := 0) rfl)
theorem dX5_meetGlass_150 : decode cX5_meetGlass 150 = .ok (.iload 5, 2) := dgX5_meetGlass_2 (150, (.iload 5, 2)) (List.mem_of_getElem? (i := 1) rfl)
theorem dX5_meetGlass_152 : decode cX5_meetGlass 152 = .ok (.iconst 2, 1) := dgX5_meetGlass_2 (152, (.iconst 2, 1)) (List.mem_of_getElem? (i := 2) rfl)
theorem dX5_meetGlass_153 : decode cX5_meetGlass 153 = .ok (.if_icmp .lt 17, 3) := dgX5_meetGlass_2 (153, (.if_icmp .lt 17, 3)) (List.mem_of_getElem? (i := 3) rfl)
theorem dX5_meetGlass_156 : decode cX5_meetGlass 156 = .ok (.iload 5, 2) := dgX5_meetGlass_2 (156, (.iload 5, 2)) (List.mem_of_getElem? (i := 4) rfl)
theorem dX5_meetGlass_158 : decode cX5_meetGlass 158 = .ok (.iconst 2, 1) := dgX5_meetGlass_2 (158, (.iconst 2, 1)) (List.mem_of_getElem? (i := 5) rfl)
theorem dX5_meetGlass_159 : decode cX5_meetGlass 159 = .ok (.isub, 1) := dgX5_meetGlass_2 (159, (.isub, 1)) (List.mem_of_getElem? (i := 6) rfl)
theorem dX5_meetGlass_160 : decode cX5_meetGlass 160 = .ok (.aload_n 0, 1) := dgX5_meetGlass_2 (160, (.aload_n 0, 1)) (List.mem_of_getElem? (i := 7) rfl)
theorem dX5_meetGlass_161 : decode cX5_meetGlass 161 = .ok (.getfield 30, 3) := dgX5_meetGlass_2 (161, (.getfield 30, 3)) (List.mem_of_getElem? (i := 8) rfl)
theorem dX5_meetGlass_164 : decode cX5_meetGlass 164 = .ok (.iconst 2, 1) := dgX5_meetGlass_2 (164, (.iconst 2, 1)) (List.mem_of_getElem? (i := 9) rfl)
theorem dX5_meetGlass_165 : decode cX5_meetGlass 165 = .ok (.ixor, 1) := dgX5_meetGlass_2 (165, (.ixor, 1)) (List.mem_of_getElem? (i := 10) rfl)
theorem dX5_meetGlass_166 : decode cX5_meetGlass 166 = .ok (.if_icmp .eq 4, 3) := dgX5_meetGlass_2 (166, (.if_icmp .eq 4, 3)) (List.mem_of_getElem? (i := 11) rfl)
theorem dX5_meetGlass_169 : decode cX5_meetGlass 169 = .ok (.return_, 1) := dgX5_meetGlass_2 (169, (.return_, 1)) (List.mem_of_getElem? (i := 12) rfl)
theorem dX5_meetGlass_170 : decode cX5_meetGlass 170 = .ok (.aload_n 0, 1) := dgX5_meetGlass_2 (170, (.aload_n 0, 1)) (List.mem_of_getElem? (i := 13) rfl)
theorem dX5_meetGlass_171 : decode cX5_meetGlass 171 = .ok (.getfield 12, 3) := dgX5_meetGlass_2 (171, (.getfield 12, 3)) (List.mem_of_getElem? (i := 14) rfl)
theorem dX5_meetGlass_174 : decode cX5_meetGlass 174 = .ok (.aload 6, 2) := dgX5_meetGlass_2 (174, (.aload 6, 2)) (List.mem_of_getElem? (i := 15) rfl)
theorem dX5_meetGlass_176 : decode cX5_meetGlass 176 = .ok (.iconst 0, 1) := dgX5_meetGlass_2 (176, (.iconst 0, 1)) (List.mem_of_getElem? (i := 16) rfl)
theorem dX5_meetGlass_177 : decode cX5_meetGlass 177 = .ok (.invokevirtual 124, 3) := dgX5_meetGlass_2 (177, (.invokevirtual 124, 3)) (List.mem_of_getElem? (i := 17) rfl)
theorem dX5_meetGlass_180 : decode cX5_meetGlass 180 = .ok (.ifCond .eq 15, 3) := dgX5_meetGlass_2 (180, (.ifCond .eq 15, 3)) (List.mem_of_getElem? (i := 18) rfl)
theorem dX5_meetGlass_183 : decode cX5_meetGlass 183 = .ok (.aload_n 0, 1) := dgX5_meetGlass_2 (183, (.aload_n 0, 1)) (List.mem_of_getElem? (i := 19) rfl)
theorem dX5_meetGlass_184 : decode cX5_meetGlass 184 = .ok (.getfield 12, 3) := dgX5_meetGlass_2 (184, (.getfield 12, 3)) (List.mem_of_getElem? (i := 20) rfl)
theorem dX5_meetGlass_187 : decode cX5_meetGlass 187 = .ok (.bipush 23, 2) := dgX5_meetGlass_2 (187, (.bipush 23, 2)) (List.mem_of_getElem? (i := 21) rfl)
theorem dX5_meetGlass_189 : decode cX5_meetGlass 189 = .ok (.invokevirtual 134, 3) := dgX5_meetGlass_2 (189, (.invokevirtual 134, 3)) (List.mem_of_getElem? (i := 22) rfl)
theorem dX5_meetGlass_192 : decode cX5_meetGlass 192 = .ok (.goto 9, 3) := dgX5_meetGlass_2 (192, (.goto 9, 3)) (List.mem_of_getElem? (i := 23) rfl)
theorem dX5_meetGlass_195 : decode cX5_meetGlass 195 = .ok (.aload_n 2, 1) := dgX5_meetGlass_2 (195, (.aload_n 2, 1)) (List.mem_of_getElem? (i := 24) rfl)
theorem dX5_meetGlass_196 : decode cX5_meetGlass 196 = .ok (.iload_n 3, 1) := dgX5_meetGlass_2 (196, (.iload_n 3, 1)) (List.mem_of_getElem? (i := 25) rfl)
theorem dX5_meetGlass_197 : decode cX5_meetGlass 197 = .ok (.iconst 2, 1) := dgX5_meetGlass_2 (197, (.iconst 2, 1)) (List.mem_of_getElem? (i := 26) rfl)
theorem dX5_meetGlass_198 : decode cX5_meetGlass 198 = .ok (.invokevirtual 107, 3) := dgX5_meetGlass_2 (198, (.invokevirtual 107, 3)) (List.mem_of_getElem? (i := 27) rfl)
theorem dX5_meetGlass_201 : decode cX5_meetGlass 201 = .ok (.istore 7, 2) := dgX5_meetGlass_2 (201, (.istore 7, 2)) (List.mem_of_getElem? (i := 28) rfl)
theorem dX5_meetGlass_203 : decode cX5_meetGlass 203 = .ok (.iload 7, 2) := dgX5_meetGlass_2 (203, (.iload 7, 2)) (List.mem_of_getElem? (i := 29) rfl)
theorem dX5_meetGlass_205 : decode cX5_meetGlass 205 = .ok (.aload_n 0, 1) := dgX5_meetGlass_2 (205, (.aload_n 0, 1)) (List.mem_of_getElem? (i := 30) rfl)
theorem dX5_meetGlass_206 : decode cX5_meetGlass 206 = .ok (.getfield 33, 3) := dgX5_meetGlass_2 (206, (.getfield 33, 3)) (List.mem_of_getElem? (i := 31) rfl)
theorem dX5_meetGlass_209 : decode cX5_meetGlass 209 = .ok (.if_icmp .le 4, 3) := dgX5_meetGlass_2 (209, (.if_icmp .le 4, 3)) (List.mem_of_getElem? (i := 32) rfl)
theorem dX5_meetGlass_212 : decode cX5_meetGlass 212 = .ok (.return_, 1) := dgX5_meetGlass_2 (212, (.return_, 1)) (List.mem_of_getElem? (i := 33) rfl)
theorem dX5_meetGlass_213 : decode cX5_meetGlass 213 = .ok (.aload_n 0, 1) := dgX5_meetGlass_2 (213, (.aload_n 0, 1)) (List.mem_of_getElem? (i := 34) rfl)
theorem dX5_meetGlass_214 : decode cX5_meetGlass 214 = .ok (.getfield 12, 3) := dgX5_meetGlass_2 (214, (.getfield 12, 3)) (List.mem_of_getElem? (i := 35) rfl)
theorem dX5_meetGlass_217 : decode cX5_meetGlass 217 = .ok (.aload 6, 2) := dgX5_meetGlass_2 (217, (.aload 6, 2)) (List.mem_of_getElem? (i := 36) rfl)
theorem dX5_meetGlass_219 : decode cX5_meetGlass 219 = .ok (.iconst 1, 1) := dgX5_meetGlass_2 (219, (.iconst 1, 1)) (List.mem_of_getElem? (i := 37) rfl)
theorem dX5_meetGlass_220 : decode cX5_meetGlass 220 = .ok (.invokevirtual 124, 3) := dgX5_meetGlass_2 (220, (.invokevirtual 124, 3)) (List.mem_of_getElem? (i := 38) rfl)
theorem dX5_meetGlass_223 : decode cX5_meetGlass 223 = .ok (.ifCond .eq 15, 3) := dgX5_meetGlass_2 (223, (.ifCond .eq 15, 3)) (List.mem_of_getElem? (i := 39) rfl)
theorem dgX5_meetGlass_3 : ∀ r ∈ ([(226, (.aload_n 0, 1)), (227, (.getfield 12, 3)), (230, (.bipush 10, 2)), (232, (.invokevirtual 134, 3)), (235, (.goto 9, 3)), (238, (.aload_n 2, 1)), (239, (.iload_n 3, 1)), (240, (.iconst 3, 1)), (241, (.invokevirtual 107, 3)), (244, (.istore 8, 2)), (246, (.aload_n 0, 1)), (247, (.aload_n 0, 1)), (248, (.getfield 46, 3)), (251, (.bipush 10, 2)), (253, (.iload 8, 2)), (255, (.isub, 1)), (256, (.imul, 1)), (257, (.bipush 10, 2)), (259, (.idiv, 1)), (260, (.putfield 46, 3)), (263, (.aload_n 0, 1)), (264, (.getfield 46, 3)), (267, (.aload_n 0, 1)), (268, (.getfield 22, 3)), (271, (.getfield 138, 3)), (274, (.if_icmp .ge 4, 3)), (277, (.return_, 1)), (278, (.aload_n 0, 1)), (279, (.dup, 1)), (280, (.getfield 33, 3)), (283, (.iload 7, 2)), (285, (.isub, 1)), (286, (.putfield 33, 3)), (289, (.aload_n 0, 1)), (290, (.iload 5, 2)), (292, (.ifCond .ne 12, 3)), (295, (.aload_n 0, 1)), (296, (.getfield 30, 3)), (299, (.iconst 1, 1)), (300, (.ixor, 1))] : List (Nat × (Instr × Nat))), decode cX5_meetGlass r.1 = .ok r.2 := by decide +kernel
theorem dX5_meetGlass_226 : decode cX5_meetGlass 226 = .ok (.aload_n 0, 1) := dgX5_meetGlass_3 (226, (.aload_n 0, 1)) (List.mem_of_getElem? (i := 0) rfl)
theorem dX5_meetGlass_227 : decode cX5_meetGlass 227 = .ok (.getfield 12, 3) := dgX5_meetGlass_3 (227, (.getfield 12, 3)) (List.mem_of_getElem? (i := 1) rfl)
theorem dX5_meetGlass_230 : decode cX5_meetGlass 230 = .ok (.bipush 10, 2) := dgX5_meetGlass_3 (230, (.bipush 10, 2)) (List.mem_of_getElem? (i := 2) rfl)
theorem dX5_meetGlass_232 : decode cX5_meetGlass 232 = .ok (.invokevirtual 134, 3) := dgX5_meetGlass_3 (232, (.invokevirtual 134, 3)) (List.mem_of_getElem? (i := 3) rfl)
theorem dX5_meetGlass_235 : decode cX5_meetGlass 235 = .ok (.goto 9, 3) := dgX5_meetGlass_3 (235, (.goto 9, 3)) (List.mem_of_getElem? (i := 4) rfl)
theorem dX5_meetGlass_238 : decode cX5_meetGlass 238 = .ok (.aload_n 2, 1) := dgX5_meetGlass_3 (238, (.aload_n 2, 1)) (List.mem_of_getElem? (i := 5) rfl)
theorem dX5_meetGlass_239 : decode cX5_meetGlass 239 = .ok (.iload_n 3, 1) := dgX5_meetGlass_3 (239, (.iload_n 3, 1)) (List.mem_of_getElem? (i := 6) rfl)
theorem dX5_meetGlass_240 : decode cX5_meetGlass 240 = .ok (.iconst 3, 1) := dgX5_meetGlass_3 (240, (.iconst 3, 1)) (List.mem_of_getElem? (i := 7) rfl)
theorem dX5_meetGlass_241 : decode cX5_meetGlass 241 = .ok (.invokevirtual 107, 3) := dgX5_meetGlass_3 (241, (.invokevirtual 107, 3)) (List.mem_of_getElem? (i := 8) rfl)
theorem dX5_meetGlass_244 : decode cX5_meetGlass 244 = .ok (.istore 8, 2) := dgX5_meetGlass_3 (244, (.istore 8, 2)) (List.mem_of_getElem? (i := 9) rfl)
theorem dX5_meetGlass_246 : decode cX5_meetGlass 246 = .ok (.aload_n 0, 1) := dgX5_meetGlass_3 (246, (.aload_n 0, 1)) (List.mem_of_getElem? (i := 10) rfl)
theorem dX5_meetGlass_247 : decode cX5_meetGlass 247 = .ok (.aload_n 0, 1) := dgX5_meetGlass_3 (247, (.aload_n 0, 1)) (List.mem_of_getElem? (i := 11) rfl)
theorem dX5_meetGlass_248 : decode cX5_meetGlass 248 = .ok (.getfield 46, 3) := dgX5_meetGlass_3 (248, (.getfield 46, 3)) (List.mem_of_getElem? (i := 12) rfl)
theorem dX5_meetGlass_251 : decode cX5_meetGlass 251 = .ok (.bipush 10, 2) := dgX5_meetGlass_3 (251, (.bipush 10, 2)) (List.mem_of_getElem? (i := 13) rfl)
theorem dX5_meetGlass_253 : decode cX5_meetGlass 253 = .ok (.iload 8, 2) := dgX5_meetGlass_3 (253, (.iload 8, 2)) (List.mem_of_getElem? (i := 14) rfl)
theorem dX5_meetGlass_255 : decode cX5_meetGlass 255 = .ok (.isub, 1) := dgX5_meetGlass_3 (255, (.isub, 1)) (List.mem_of_getElem? (i := 15) rfl)
theorem dX5_meetGlass_256 : decode cX5_meetGlass 256 = .ok (.imul, 1) := dgX5_meetGlass_3 (256, (.imul, 1)) (List.mem_of_getElem? (i := 16) rfl)
theorem dX5_meetGlass_257 : decode cX5_meetGlass 257 = .ok (.bipush 10, 2) := dgX5_meetGlass_3 (257, (.bipush 10, 2)) (List.mem_of_getElem? (i := 17) rfl)
theorem dX5_meetGlass_259 : decode cX5_meetGlass 259 = .ok (.idiv, 1) := dgX5_meetGlass_3 (259, (.idiv, 1)) (List.mem_of_getElem? (i := 18) rfl)
theorem dX5_meetGlass_260 : decode cX5_meetGlass 260 = .ok (.putfield 46, 3) := dgX5_meetGlass_3 (260, (.putfield 46, 3)) (List.mem_of_getElem? (i := 19) rfl)
theorem dX5_meetGlass_263 : decode cX5_meetGlass 263 = .ok (.aload_n 0, 1) := dgX5_meetGlass_3 (263, (.aload_n 0, 1)) (List.mem_of_getElem? (i := 20) rfl)
theorem dX5_meetGlass_264 : decode cX5_meetGlass 264 = .ok (.getfield 46, 3) := dgX5_meetGlass_3 (264, (.getfield 46, 3)) (List.mem_of_getElem? (i := 21) rfl)
theorem dX5_meetGlass_267 : decode cX5_meetGlass 267 = .ok (.aload_n 0, 1) := dgX5_meetGlass_3 (267, (.aload_n 0, 1)) (List.mem_of_getElem? (i := 22) rfl)
theorem dX5_meetGlass_268 : decode cX5_meetGlass 268 = .ok (.getfield 22, 3) := dgX5_meetGlass_3 (268, (.getfield 22, 3)) (List.mem_of_getElem? (i := 23) rfl)
theorem dX5_meetGlass_271 : decode cX5_meetGlass 271 = .ok (.getfield 138, 3) := dgX5_meetGlass_3 (271, (.getfield 138, 3)) (List.mem_of_getElem? (i := 24) rfl)
theorem dX5_meetGlass_274 : decode cX5_meetGlass 274 = .ok (.if_icmp .ge 4, 3) := dgX5_meetGlass_3 (274, (.if_icmp .ge 4, 3)) (List.mem_of_getElem? (i := 25) rfl)
theorem dX5_meetGlass_277 : decode cX5_meetGlass 277 = .ok (.return_, 1) := dgX5_meetGlass_3 (277, (.return_, 1)) (List.mem_of_getElem? (i := 26) rfl)
theorem dX5_meetGlass_278 : decode cX5_meetGlass 278 = .ok (.aload_n 0, 1) := dgX5_meetGlass_3 (278, (.aload_n 0, 1)) (List.mem_of_getElem? (i := 27) rfl)
theorem dX5_meetGlass_279 : decode cX5_meetGlass 279 = .ok (.dup, 1) := dgX5_meetGlass_3 (279, (.dup, 1)) (List.mem_of_getElem? (i := 28) rfl)
theorem dX5_meetGlass_280 : decode cX5_meetGlass 280 = .ok (.getfield 33, 3) := dgX5_meetGlass_3 (280, (.getfield 33, 3)) (List.mem_of_getElem? (i := 29) rfl)
theorem dX5_meetGlass_283 : decode cX5_meetGlass 283 = .ok (.iload 7, 2) := dgX5_meetGlass_3 (283, (.iload 7, 2)) (List.mem_of_getElem? (i := 30) rfl)
theorem dX5_meetGlass_285 : decode cX5_meetGlass 285 = .ok (.isub, 1) := dgX5_meetGlass_3 (285, (.isub, 1)) (List.mem_of_getElem? (i := 31) rfl)
theorem dX5_meetGlass_286 : decode cX5_meetGlass 286 = .ok (.putfield 33, 3) := dgX5_meetGlass_3 (286, (.putfield 33, 3)) (List.mem_of_getElem? (i := 32) rfl)
theorem dX5_meetGlass_289 : decode cX5_meetGlass 289 = .ok (.aload_n 0, 1) := dgX5_meetGlass_3 (289, (.aload_n 0, 1)) (List.mem_of_getElem? (i := 33) rfl)
theorem dX5_meetGlass_290 : decode cX5_meetGlass 290 = .ok (.iload 5, 2) := dgX5_meetGlass_3 (290, (.iload 5, 2)) (List.mem_of_getElem? (i := 34) rfl)
theorem dX5_meetGlass_292 : decode cX5_meetGlass 292 = .ok (.ifCond .ne 12, 3) := dgX5_meetGlass_3 (292, (.ifCond .ne 12, 3)) (List.mem_of_getElem? (i := 35) rfl)
theorem dX5_meetGlass_295 : decode cX5_meetGlass 295 = .ok (.aload_n 0, 1) := dgX5_meetGlass_3 (295, (.aload_n 0, 1)) (List.mem_of_getElem? (i := 36) rfl)
theorem dX5_meetGlass_296 : decode cX5_meetGlass 296 = .ok (.getfield 30, 3) := dgX5_meetGlass_3 (296, (.getfield 30, 3)) (List.mem_of_getElem? (i := 37) rfl)
theorem dX5_meetGlass_299 : decode cX5_meetGlass 299 = .ok (.iconst 1, 1) := dgX5_meetGlass_3 (299, (.iconst 1, 1)) (List.mem_of_getElem? (i := 38) rfl)
theorem dX5_meetGlass_300 : decode cX5_meetGlass 300 = .ok (.ixor, 1) := dgX5_meetGlass_3 (300, (.ixor, 1)) (List.mem_of_getElem? (i := 39) rfl)
theorem dgX5_meetGlass_4 : ∀ r ∈ ([(301, (.goto 24, 3)), (304, (.iload 5, 2)), (306, (.iconst 1, 1)), (307, (.if_icmp .ne 12, 3)), (310, (.iconst 3, 1)), (311, (.aload_n 0, 1)), (312, (.getfield 30, 3)), (315, (.isub, 1)), (316, (.goto 9, 3)), (319, (.aload_n 0, 1)), (320, (.getfield 30, 3)), (323, (.iconst 2, 1)), (324, (.ixor, 1)), (325, (.putfield 30, 3)), (328, (.aload_n 0, 1)), (329, (.dup, 1)), (330, (.getfield 49, 3)), (333, (.iconst 1, 1)), (334, (.iload 4, 2)), (336, (.ishl, 1)), (337, (.ior, 1)), (338, (.putfield 49, 3)), (341, (.aload_n 0, 1)), (342, (.iconst 0, 1)), (343, (.putfield 56, 3)), (346, (.return_, 1))] : List (Nat × (Instr × Nat))), decode cX5_meetGlass r.1 = .ok r.2 := by decide +kernel
theorem dX5_meetGlass_301 : decode cX5_meetGlass 301 = .ok (.goto 24, 3) := dgX5_meetGlass_4 (301, (.goto 24, 3)) (List.mem_of_getElem? (i := 0) rfl)
theorem dX5_meetGlass_304 : decode cX5_meetGlass 304 = .ok (.iload 5, 2) := dgX5_meetGlass_4 (304, (.iload 5, 2)) (List.mem_of_getElem? (i := 1) rfl)
theorem dX5_meetGlass_306 : decode cX5_meetGlass 306 = .ok (.iconst 1, 1) := dgX5_meetGlass_4 (306, (.iconst 1, 1)) (List.mem_of_getElem? (i := 2) rfl)
theorem dX5_meetGlass_307 : decode cX5_meetGlass 307 = .ok (.if_icmp .ne 12, 3) := dgX5_meetGlass_4 (307, (.if_icmp .ne 12, 3)) (List.mem_of_getElem? (i := 3) rfl)
theorem dX5_meetGlass_310 : decode cX5_meetGlass 310 = .ok (.iconst 3, 1) := dgX5_meetGlass_4 (310, (.iconst 3, 1)) (List.mem_of_getElem? (i := 4) rfl)
theorem dX5_meetGlass_311 : decode cX5_meetGlass 311 = .ok (.aload_n 0, 1) := dgX5_meetGlass_4 (311, (.aload_n 0, 1)) (List.mem_of_getElem? (i := 5) rfl)
theorem dX5_meetGlass_312 : decode cX5_meetGlass 312 = .ok (.getfield 30, 3) := dgX5_meetGlass_4 (312, (.getfield 30, 3)) (List.mem_of_getElem? (i := 6) rfl)
theorem dX5_meetGlass_315 : decode cX5_meetGlass 315 = .ok (.isub, 1) := dgX5_meetGlass_4 (315, (.isub, 1)) (List.mem_of_getElem? (i := 7) rfl)
theorem dX5_meetGlass_316 : decode cX5_meetGlass 316 = .ok (.goto 9, 3) := dgX5_meetGlass_4 (316, (.goto 9, 3)) (List.mem_of_getElem? (i := 8) rfl)
theorem dX5_meetGlass_319 : decode cX5_meetGlass 319 = .ok (.aload_n 0, 1) := dgX5_meetGlass_4 (319, (.aload_n 0, 1)) (List.mem_of_getElem? (i := 9) rfl)
theorem dX5_meetGlass_320 : decode cX5_meetGlass 320 = .ok (.getfield 30, 3) := dgX5_meetGlass_4 (320, (.getfield 30, 3)) (List.mem_of_getElem? (i := 10) rfl)
theorem dX5_meetGlass_323 : decode cX5_meetGlass 323 = .ok (.iconst 2, 1) := dgX5_meetGlass_4 (323, (.iconst 2, 1)) (List.mem_of_getElem? (i := 11) rfl)
theorem dX5_meetGlass_324 : decode cX5_meetGlass 324 = .ok (.ixor, 1) := dgX5_meetGlass_4 (324, (.ixor, 1)) (List.mem_of_getElem? (i := 12) rfl)
theorem dX5_meetGlass_325 : decode cX5_meetGlass 325 = .ok (.putfield 30, 3) := dgX5_meetGlass_4 (325, (.putfield 30, 3)) (List.mem_of_getElem? (i := 13) rfl)
theorem dX5_meetGlass_328 : decode cX5_meetGlass 328 = .ok (.aload_n 0, 1) := dgX5_meetGlass_4 (328, (.aload_n 0, 1)) (List.mem_of_getElem? (i := 14) rfl)
theorem dX5_meetGlass_329 : decode cX5_meetGlass 329 = .ok (.dup, 1) := dgX5_meetGlass_4 (329, (.dup, 1)) (List.mem_of_getElem? (i := 15) rfl)
theorem dX5_meetGlass_330 : decode cX5_meetGlass 330 = .ok (.getfield 49, 3) := dgX5_meetGlass_4 (330, (.getfield 49, 3)) (List.mem_of_getElem? (i := 16) rfl)
theorem dX5_meetGlass_333 : decode cX5_meetGlass 333 = .ok (.iconst 1, 1) := dgX5_meetGlass_4 (333, (.iconst 1, 1)) (List.mem_of_getElem? (i := 17) rfl)
theorem dX5_meetGlass_334 : decode cX5_meetGlass 334 = .ok (.iload 4, 2) := dgX5_meetGlass_4 (334, (.iload 4, 2)) (List.mem_of_getElem? (i := 18) rfl)
theorem dX5_meetGlass_336 : decode cX5_meetGlass 336 = .ok (.ishl, 1) := dgX5_meetGlass_4 (336, (.ishl, 1)) (List.mem_of_getElem? (i := 19) rfl)
theorem dX5_meetGlass_337 : decode cX5_meetGlass 337 = .ok (.ior, 1) := dgX5_meetGlass_4 (337, (.ior, 1)) (List.mem_of_getElem? (i := 20) rfl)
theorem dX5_meetGlass_338 : decode cX5_meetGlass 338 = .ok (.putfield 49, 3) := dgX5_meetGlass_4 (338, (.putfield 49, 3)) (List.mem_of_getElem? (i := 21) rfl)
theorem dX5_meetGlass_341 : decode cX5_meetGlass 341 = .ok (.aload_n 0, 1) := dgX5_meetGlass_4 (341, (.aload_n 0, 1)) (List.mem_of_getElem? (i := 22) rfl)
theorem dX5_meetGlass_342 : decode cX5_meetGlass 342 = .ok (.iconst 0, 1) := dgX5_meetGlass_4 (342, (.iconst 0, 1)) (List.mem_of_getElem? (i := 23) rfl)
theorem dX5_meetGlass_343 : decode cX5_meetGlass 343 = .ok (.putfield 56, 3) := dgX5_meetGlass_4 (343, (.putfield 56, 3)) (List.mem_of_getElem? (i := 24) rfl)
theorem dX5_meetGlass_346 : decode cX5_meetGlass 346 = .ok (.return_, 1) := dgX5_meetGlass_4 (346, (.return_, 1)) (List.mem_of_getElem? (i := 25) rfl)
theorem fl_X5_138 : Cond.fieldLink RX5 138 "LateGlass$House" "least" "I" ∈ tblG := tg 160 (by decide +kernel) (by decide +kernel)
theorem fl_X5_49 : Cond.fieldLink RX5 49 "LateGlass$Look" "went" "I" ∈ tblG := tg 259 (by decide +kernel) (by decide +kernel)
set_option maxHeartbeats 4000000 in
set_option maxRecDepth 100000 in
theorem k_mggN4 {p : Program} {l : Launch} {e : Env} {s : State} {m : MethodId} {args : Array Value} {below : List Frame} {meth : Method} {c : Code} {Q : State → Prop} {A : Nat → Prop} {H : Heap} {locs : List Loc} {ls : Array Slot} (G : g5_G) (a_k a_h a_g a_gn a_p a_pn a_j a_as a_sk a_l a_pt a_b a_s a_w a_bb : Nat) (e_ln : Int32) (e_se : Int32) (e_lh : Int32) (e_br : Int32) (e_we : Int32) (e_me : Int32) (e_ce : Int32) (e_wy : Int32) (e_ho : Int32) (e_ov : Int32) (e_le : Int32) (e_st : Int32) (e_fo : Int32) (e_lc : Int32) (e_wa : Int64) (e_gb : Int64) (e_g : Int32) (f_g : Nat → Int32) (e_p : Int32) (f_p : Nat → Int32) (f_as : Nat → Int32) (f_sk : Nat → Int64) (f_l : Nat → Option Nat) (k_r : Int32) (k_n : Int32) (k_s : Int32) (k_l : Int32) (k_d : Int32) (hx : p.tables.exec = Jvm.exec) (hb : c.code = cX5_meetGlass) (hml : c.maxLocals = 9) (hown : s.vm.findClass RX5 = some m.cls) (hts : ∀ w ∈ tblG, w.before args s = true) (hK : va_K G.1 vwCl (T5 G) s) (hN : g5_N s) (hT : g5_S A s s.heap) (hA : ∀ q : Nat, s.heap.size ≤ q → A q) (hP : va_P G.1 vwCl [(a_k, (oc5 a_h a_j a_pt e_ln e_se e_lh e_br e_we e_me e_ce e_wy e_ho e_ov)), (a_h, (oc1 e_wa e_le e_st e_fo e_lc a_l a_g a_b a_s a_p a_w e_gb a_bb)), (a_g, (oc6 6 5 a_gn e_g)), (a_gn, (arI G 30 f_g)), (a_p, (oc6 8 5 a_pn e_p)), (a_pn, (arI G 40 f_p)), (a_j, (oc2 a_as a_sk)), (a_as, (arI G 8 f_as)), (a_sk, (arJ G 50 f_sk)), (a_l, (arW G 6 f_l))] H) (hD : va_D A [(a_k, (oc5 a_h a_j a_pt e_ln e_se e_lh e_br e_we e_me e_ce e_wy e_ho e_ov)), (a_h, (oc1 e_wa e_le e_st e_fo e_lc a_l a_g a_b a_s a_p a_w e_gb a_bb)), (a_g, (oc6 6 5 a_gn e_g)), (a_gn, (arI G 30 f_g)), (a_p, (oc6 8 5 a_pn e_p)), (a_pn, (arI G 40 f_p)), (a_j, (oc2 a_as a_sk)), (a_as, (arI G 8 f_as)), (a_sk, (arJ G 50 f_sk)), (a_l, (arW G 6 f_l))]) (hS : va_S A s.heap H locs) (hl : lv_has ls 9 [(0, .ref a_k), (2, .ref a_g), (3, .int k_r), (4, .int k_n), (5, .int k_s), (7, .int k_l), (8, .int k_d)]) (h_e_br : 0 ≤ e_br.toInt ∧ e_br.toInt ≤ 1000000) (h_e_ce : 0 ≤ e_ce.toInt ∧ e_ce.toInt ≤ 63) (h_e_wy : 0 ≤ e_wy.toInt ∧ e_wy.toInt ≤ 3) (h_e_ho : 0 ≤ e_ho.toInt ∧ e_ho.toInt ≤ 23) (h_e_ov : 0 ≤ e_ov.toInt ∧ e_ov.toInt ≤ 1) (h_e_g : 0 ≤ e_g.toInt ∧ e_g.toInt ≤ 6) (h_e_p : 0 ≤ e_p.toInt ∧ e_p.toInt ≤ 8) (h_k_r : 0 ≤ k_r.toInt ∧ k_r.toInt ≤ 7) (h_k_s : 0 ≤ k_s.toInt ∧ k_s.toInt ≤ 5) (h_k_l : 0 ≤ k_l.toInt ∧ k_l.toInt ≤ 23) (h_k_d : 0 ≤ k_d.toInt ∧ k_d.toInt ≤ 10) (e_lt : k_l.toInt ≤ e_ho.toInt) (kk : ∀ (pc1 : Nat), decode cX5_meetGlass pc1 = .ok (.return_, 1) → ∀ (o_b : Int32) (o_w : Int32) (o_m : Int32) (o_y : Int32) (o_h : Int32) (o_v : Int32) (o_a : Nat → Int32) (o_k : Nat → Int64) (ls : Array Slot) (H : Heap) (locs : List Loc), va_P G.1 vwCl [(a_k, (oc5 a_h a_j a_pt e_ln e_se e_lh o_b o_w o_m e_ce o_y o_h o_v)), (a_h, (oc1 e_wa e_le e_st e_fo e_lc a_l a_g a_b a_s a_p a_w e_gb a_bb)), (a_g, (oc6 6 5 a_gn e_g)), (a_gn, (arI G 30 f_g)), (a_p, (oc6 8 5 a_pn e_p)), (a_pn, (arI G 40 f_p)), (a_j, (oc2 a_as a_sk)), (a_as, (arI G 8 o_a)), (a_sk, (arJ G 50 o_k)), (a_l, (arW G 6 f_l))] H → va_D A [(a_k, (oc5 a_h a_j a_pt e_ln e_se e_lh o_b o_w o_m e_ce o_y o_h o_v)), (a_h, (oc1 e_wa e_le e_st e_fo e_lc a_l a_g a_b a_s a_p a_w e_gb a_bb)), (a_g, (oc6 6 5 a_gn e_g)), (a_gn, (arI G 30 f_g)), (a_p, (oc6 8 5 a_pn e_p)), (a_pn, (arI G 40 f_p)), (a_j, (oc2 a_as a_sk)), (a_as, (arI G 8 o_a)), (a_sk, (arJ G 50 o_k)), (a_l, (arW G 6 f_l))] → va_S A s.heap H locs → (0 ≤ o_b.toInt ∧ o_b.toInt ≤ 1000000) → (0 ≤ o_y.toInt ∧ o_y.toInt ≤ 3) → (0 ≤ o_h.toInt ∧ o_h.toInt ≤ 23) → (0 ≤ o_v.toInt ∧ o_v.toInt ≤ 1) → W p l e ({ frames := 12, cells := 0, slots := 0, locals := 500 } : Room) s m args below meth c H locs 0 0 Q (F0 m pc1 ls [])) : W p l e ({ frames := 12, cells := 0, slots := 0, locals := 500 } : Room) s m args below meth c H locs 0 0 Q (F0 m 246 ls []) := by
  refine lv_aload_n hx hb dX5_meetGlass_246 rfl (lv_at hl 0 rfl) ?_
  refine lv_aload_n hx hb dX5_meetGlass_247 rfl (lv_at hl 0 rfl) ?_
  refine va_get (D := G.1) (ci := 5) (v := .int e_br) (C := RX5) (T := TX5) (N := 13) hx hb hts inG_X5 hown hK hP 0 rfl rfl 6 (by decide +kernel) (hts _ fl_X5_46) (fun _ h9 => h9) rfl dX5_meetGlass_248 ?_
  refine lv_bipush (v := 10) hx hb dX5_meetGlass_251 (by decide +kernel) ?_
  refine W.eq (g2 := F0 m 253 ls [.int 10, .int e_br, .ref a_k]) rfl ?_
  refine lv_iload hx hb dX5_meetGlass_253 (lv_at hl 6 rfl) ?_
  refine lv_isub hx hb dX5_meetGlass_255 ?_
  have t_1 : (10 - k_d).toInt = 10 - k_d.toInt := g5_isub (a := 10) (b := k_d.toInt) (by decide +kernel) (by rfl) (by omega) (by omega)
  refine lv_imul hx hb dX5_meetGlass_256 ?_
  refine lv_bipush (v := 10) hx hb dX5_meetGlass_257 (by decide +kernel) ?_
  refine lv_idiv hx hb dX5_meetGlass_259 (by decide +kernel) ?_
  have hb_2 : 0 ≤ ((e_br * (10 - k_d)) / 10).toInt ∧ ((e_br * (10 - k_d)) / 10).toInt ≤ 1000000 := g_dust (by omega) (by omega)
  refine W.eq (g2 := F0 m 260 ls [.int ((e_br * (10 - k_d)) / 10), .ref a_k]) rfl ?_
  refine va_put (D := G.1) (ci := 5) (v := .int ((e_br * (10 - k_d)) / 10)) (ty := .int) (C := RX5) (T := TX5) (N := 13) hx hb hts inG_X5 tyX5 tyX5_ok nmX5 hown hK hP hD hS 0 rfl rfl 6 (by decide +kernel) (hts _ fl_X5_46) (fun _ h9 => h9) rfl (by decide +kernel) rfl rfl (Nat.le_of_ble_eq_true rfl) dX5_meetGlass_260 ?_
  clear hP hD hS
  intro H locs hP hD hS
  refine g5_rs [(a_k, (oc5 a_h a_j a_pt e_ln e_se e_lh ((e_br * (10 - k_d)) / 10) e_we e_me e_ce e_wy e_ho e_ov)), (a_h, (oc1 e_wa e_le e_st e_fo e_lc a_l a_g a_b a_s a_p a_w e_gb a_bb)), (a_g, (oc6 6 5 a_gn e_g)), (a_gn, (arI G 30 f_g)), (a_p, (oc6 8 5 a_pn e_p)), (a_pn, (arI G 40 f_p)), (a_j, (oc2 a_as a_sk)), (a_as, (arI G 8 f_as)), (a_sk, (arJ G 50 f_sk)), (a_l, (arW G 6 f_l))] hP hD ?_
  clear hP hD
  intro hP hD
  refine lv_aload_n hx hb dX5_meetGlass_263 rfl (lv_at hl 0 rfl) ?_
  refine va_get (D := G.1) (ci := 5) (v := .int ((e_br * (10 - k_d)) / 10)) (C := RX5) (T := TX5) (N := 13) hx hb hts inG_X5 hown hK hP 0 rfl rfl 6 (by decide +kernel) (hts _ fl_X5_46) (fun _ h9 => h9) rfl dX5_meetGlass_264 ?_
  refine lv_aload_n hx hb dX5_meetGlass_267 rfl (lv_at hl 0 rfl) ?_
  refine va_get (D := G.1) (ci := 5) (v := .ref a_h) (C := RX5) (T := TX5) (N := 13) hx hb hts inG_X5 hown hK hP 0 rfl rfl 0 (by decide +kernel) (hts _ fl_X5_22) (fun _ h9 => h9) rfl dX5_meetGlass_268 ?_
  refine W.eq (g2 := F0 m 271 ls [.ref a_h, .int ((e_br * (10 - k_d)) / 10)]) rfl ?_
  refine va_get (D := G.1) (ci := 1) (v := .int e_le) (C := RX1) (T := TX1) (N := 13) hx hb hts inG_X1 hown hK hP 1 rfl rfl 1 (by decide +kernel) (hts _ fl_X5_138) (fun _ h9 => h9) rfl dX5_meetGlass_271 ?_
  refine lv_icmp_ge (tgt := 278) hx hb dX5_meetGlass_274 (by decide +kernel) (fun c_3 => ?_) (fun c_3 => ?_)
  ·
    have i_3 : ((e_br * (10 - k_d)) / 10).toInt ≥ e_le.toInt := g5_ge (a := ((e_br * (10 - k_d)) / 10).toInt) (b := e_le.toInt) rfl rfl c_3
    refine lv_aload_n hx hb dX5_meetGlass_278 rfl (lv_at hl 0 rfl) ?_
    refine lv_dup hx hb dX5_meetGlass_279 rfl ?_
    refine va_get (D := G.1) (ci := 5) (v := .int e_ho) (C := RX5) (T := TX5) (N := 13) hx hb hts inG_X5 hown hK hP 0 rfl rfl 11 (by decide +kernel) (hts _ fl_X5_33) (fun _ h9 => h9) rfl dX5_meetGlass_280 ?_
    refine lv_iload hx hb dX5_meetGlass_283 (lv_at hl 5 rfl) ?_
    refine W.eq (g2 := F0 m 285 ls [.int k_l, .int e_ho, .ref a_k]) rfl ?_
    refine lv_isub hx hb dX5_meetGlass_285 ?_
    have t_4 : (e_ho - k_l).toInt = e_ho.toInt - k_l.toInt := g5_isub (a := e_ho.toInt) (b := k_l.toInt) (by rfl) (by rfl) (by omega) (by omega)
    refine va_put (D := G.1) (ci := 5) (v := .int (e_ho - k_l)) (ty := .int) (C := RX5) (T := TX5) (N := 13) hx hb hts inG_X5 tyX5 tyX5_ok nmX5 hown hK hP hD hS 0 rfl rfl 11 (by decide +kernel) (hts _ fl_X5_33) (fun _ h9 => h9) rfl (by decide +kernel) rfl rfl (Nat.le_of_ble_eq_true rfl) dX5_meetGlass_286 ?_
    clear hP hD hS
    intro H locs hP hD hS
    refine g5_rs [(a_k, (oc5 a_h a_j a_pt e_ln e_se e_lh ((e_br * (10 - k_d)) / 10) e_we e_me e_ce e_wy (e_ho - k_l) e_ov)), (a_h, (oc1 e_wa e_le e_st e_fo e_lc a_l a_g a_b a_s a_p a_w e_gb a_bb)), (a_g, (oc6 6 5 a_gn e_g)), (a_gn, (arI G 30 f_g)), (a_p, (oc6 8 5 a_pn e_p)), (a_pn, (arI G 40 f_p)), (a_j, (oc2 a_as a_sk)), (a_as, (arI G 8 f_as)), (a_sk, (arJ G 50 f_sk)), (a_l, (arW G 6 f_l))] hP hD ?_
    clear hP hD
    intro hP hD
    refine lv_aload_n hx hb dX5_meetGlass_289 rfl (lv_at hl 0 rfl) ?_
    refine lv_iload hx hb dX5_meetGlass_290 (lv_at hl 4 rfl) ?_
    refine lv_if_ne (tgt := 304) hx hb dX5_meetGlass_292 (by decide +kernel) (fun c_5 => ?_) (fun c_5 => ?_)
    ·
      have n_5 : gNe (k_s.toInt) (0) := g5_ne (a := k_s.toInt) (b := 0) rfl (by decide +kernel) c_5
      have i_5 : k_s.toInt ≥ 1 := by have z := g5_ne (a := k_s.toInt) (b := 0) (by rfl) (by decide +kernel) c_5; omega
      refine lv_iload hx hb dX5_meetGlass_304 (lv_at hl 4 rfl) ?_
      refine lv_iconst (v := 1) hx hb dX5_meetGlass_306 (by decide +kernel) ?_
      refine lv_icmp_ne (tgt := 319) hx hb dX5_meetGlass_307 (by decide +kernel) (fun c_6 => ?_) (fun c_6 => ?_)
      ·
        have n_6 : gNe (k_s.toInt) (1) := g5_ne (a := k_s.toInt) (b := 1) rfl (by decide +kernel) c_6
        have i_6 : k_s.toInt ≥ 2 := by have z := g5_ne (a := k_s.toInt) (b := 1) (by rfl) (by decide +kernel) c_6; omega
        refine lv_aload_n hx hb dX5_meetGlass_319 rfl (lv_at hl 0 rfl) ?_
        refine va_get (D := G.1) (ci := 5) (v := .int e_wy) (C := RX5) (T := TX5) (N := 13) hx hb hts inG_X5 hown hK hP 0 rfl rfl 10 (by decide +kernel) (hts _ fl_X5_30) (fun _ h9 => h9) rfl dX5_meetGlass_320 ?_
        refine lv_iconst (v := 2) hx hb dX5_meetGlass_323 (by decide +kernel) ?_
        refine lv_ixor hx hb dX5_meetGlass_324 ?_
        have hx_7 := (g_xor (w := e_wy) (by omega) (by omega)).2
        refine W.eq (g2 := F0 m 325 ls [.int (e_wy ^^^ 2), .ref a_k]) rfl ?_
        refine va_put (D := G.1) (ci := 5) (v := .int (e_wy ^^^ 2)) (ty := .int) (C := RX5) (T := TX5) (N := 13) hx hb hts inG_X5 tyX5 tyX5_ok nmX5 hown hK hP hD hS 0 rfl rfl 10 (by decide +kernel) (hts _ fl_X5_30) (fun _ h9 => h9) rfl (by decide +kernel) rfl rfl (Nat.le_of_ble_eq_true rfl) dX5_meetGlass_325 ?_
        clear hP hD hS
        intro H locs hP hD hS
        refine g5_rs [(a_k, (oc5 a_h a_j a_pt e_ln e_se e_lh ((e_br * (10 - k_d)) / 10) e_we e_me e_ce (e_wy ^^^ 2) (e_ho - k_l) e_ov)), (a_h, (oc1 e_wa e_le e_st e_fo e_lc a_l a_g a_b a_s a_p a_w e_gb a_bb)), (a_g, (oc6 6 5 a_gn e_g)), (a_gn, (arI G 30 f_g)), (a_p, (oc6 8 5 a_pn e_p)), (a_pn, (arI G 40 f_p)), (a_j, (oc2 a_as a_sk)), (a_as, (arI G 8 f_as)), (a_sk, (arJ G 50 f_sk)), (a_l, (arW G 6 f_l))] hP hD ?_
        clear hP hD
        intro hP hD
        refine lv_aload_n hx hb dX5_meetGlass_328 rfl (lv_at hl 0 rfl) ?_
        refine lv_dup hx hb dX5_meetGlass_329 rfl ?_
        refine va_get (D := G.1) (ci := 5) (v := .int e_we) (C := RX5) (T := TX5) (N := 13) hx hb hts inG_X5 hown hK hP 0 rfl rfl 7 (by decide +kernel) (hts _ fl_X5_49) (fun _ h9 => h9) rfl dX5_meetGlass_330 ?_
        refine lv_iconst (v := 1) hx hb dX5_meetGlass_333 (by decide +kernel) ?_
        refine W.eq (g2 := F0 m 334 ls [.int 1, .int e_we, .ref a_k]) rfl ?_
        refine lv_iload hx hb dX5_meetGlass_334 (lv_at hl 3 rfl) ?_
        refine lv_ishl hx hb dX5_meetGlass_336 ?_
        refine lv_ior hx hb dX5_meetGlass_337 ?_
        refine va_put (D := G.1) (ci := 5) (v := .int (e_we ||| (1 <<< (k_n &&& 31)))) (ty := .int) (C := RX5) (T := TX5) (N := 13) hx hb hts inG_X5 tyX5 tyX5_ok nmX5 hown hK hP hD hS 0 rfl rfl 7 (by decide +kernel) (hts _ fl_X5_49) (fun _ h9 => h9) rfl (by decide +kernel) rfl rfl (Nat.le_of_ble_eq_true rfl) dX5_meetGlass_338 ?_
        clear hP hD hS
        intro H locs hP hD hS
        refine g5_rs [(a_k, (oc5 a_h a_j a_pt e_ln e_se e_lh ((e_br * (10 - k_d)) / 10) (e_we ||| (1 <<< (k_n &&& 31))) e_me e_ce (e_wy ^^^ 2) (e_ho - k_l) e_ov)), (a_h, (oc1 e_wa e_le e_st e_fo e_lc a_l a_g a_b a_s a_p a_w e_gb a_bb)), (a_g, (oc6 6 5 a_gn e_g)), (a_gn, (arI G 30 f_g)), (a_p, (oc6 8 5 a_pn e_p)), (a_pn, (arI G 40 f_p)), (a_j, (oc2 a_as a_sk)), (a_as, (arI G 8 f_as)), (a_sk, (arJ G 50 f_sk)), (a_l, (arW G 6 f_l))] hP hD ?_
        clear hP hD
        intro hP hD
        refine lv_aload_n hx hb dX5_meetGlass_341 rfl (lv_at hl 0 rfl) ?_
        refine W.eq (g2 := F0 m 342 ls [.ref a_k]) rfl ?_
        refine lv_iconst (v := 0) hx hb dX5_meetGlass_342 (by decide +kernel) ?_
        refine va_put (D := G.1) (ci := 5) (v := .int 0) (ty := .boolean) (C := RX5) (T := TX5) (N := 13) hx hb hts inG_X5 tyX5 tyX5_ok nmX5 hown hK hP hD hS 0 rfl rfl 12 (by decide +kernel) (hts _ fl_X5_56) (fun _ h9 => h9) rfl (by decide +kernel) rfl rfl (Nat.le_of_ble_eq_true rfl) dX5_meetGlass_343 ?_
        clear hP hD hS
        intro H locs hP hD hS
        refine g5_rs [(a_k, (oc5 a_h a_j a_pt e_ln e_se e_lh ((e_br * (10 - k_d)) / 10) (e_we ||| (1 <<< (k_n &&& 31))) e_me e_ce (e_wy ^^^ 2) (e_ho - k_l) 0)), (a_h, (oc1 e_wa e_le e_st e_fo e_lc a_l a_g a_b a_s a_p a_w e_gb a_bb)), (a_g, (oc6 6 5 a_gn e_g)), (a_gn, (arI G 30 f_g)), (a_p, (oc6 8 5 a_pn e_p)), (a_pn, (arI G 40 f_p)), (a_j, (oc2 a_as a_sk)), (a_as, (arI G 8 f_as)), (a_sk, (arJ G 50 f_sk)), (a_l, (arW G 6 f_l))] hP hD ?_
        clear hP hD
        intro hP hD
        exact kk 346 dX5_meetGlass_346 ((e_br * (10 - k_d)) / 10) (e_we ||| (1 <<< (k_n &&& 31))) e_me (e_wy ^^^ 2) (e_ho - k_l) 0 f_as f_sk ls H locs (hP.sub [0, 1, 2, 3, 4, 5, 6, 7, 8, 9] rfl) (hD.sub [0, 1, 2, 3, 4, 5, 6, 7, 8, 9] (by decide +kernel) rfl) hS (⟨by omega, by omega⟩) (⟨by omega, by omega⟩) (⟨by omega, by omega⟩) (⟨by have zc_o_v : (0 : Int32).toInt = 0 := (by decide +kernel); omega, by have zc_o_v : (0 : Int32).toInt = 0 := (by decide +kernel); omega⟩)
      ·
        have i_6 : k_s.toInt = 1 := g5_neN (a := k_s.toInt) (b := 1) rfl (by decide +kernel) c_6
        refine lv_iconst (v := 3) hx hb dX5_meetGlass_310 (by decide +kernel) ?_
        refine lv_aload_n hx hb dX5_meetGlass_311 rfl (lv_at hl 0 rfl) ?_
        refine va_get (D := G.1) (ci := 5) (v := .int e_wy) (C := RX5) (T := TX5) (N := 13) hx hb hts inG_X5 hown hK hP 0 rfl rfl 10 (by decide +kernel) (hts _ fl_X5_30) (fun _ h9 => h9) rfl dX5_meetGlass_312 ?_
        refine lv_isub hx hb dX5_meetGlass_315 ?_
        have t_8 : (3 - e_wy).toInt = 3 - e_wy.toInt := g5_isub (a := 3) (b := e_wy.toInt) (by decide +kernel) (by rfl) (by omega) (by omega)
        refine W.eq (g2 := F0 m 316 ls [.int (3 - e_wy), .ref a_k]) rfl ?_
        refine lv_goto (tgt := 325) hx hb dX5_meetGlass_316 (by decide +kernel) ?_
        refine va_put (D := G.1) (ci := 5) (v := .int (3 - e_wy)) (ty := .int) (C := RX5) (T := TX5) (N := 13) hx hb hts inG_X5 tyX5 tyX5_ok nmX5 hown hK hP hD hS 0 rfl rfl 10 (by decide +kernel) (hts _ fl_X5_30) (fun _ h9 => h9) rfl (by decide +kernel) rfl rfl (Nat.le_of_ble_eq_true rfl) dX5_meetGlass_325 ?_
        clear hP hD hS
        intro H locs hP hD hS
        refine g5_rs [(a_k, (oc5 a_h a_j a_pt e_ln e_se e_lh ((e_br * (10 - k_d)) / 10) e_we e_me e_ce (3 - e_wy) (e_ho - k_l) e_ov)), (a_h, (oc1 e_wa e_le e_st e_fo e_lc a_l a_g a_b a_s a_p a_w e_gb a_bb)), (a_g, (oc6 6 5 a_gn e_g)), (a_gn, (arI G 30 f_g)), (a_p, (oc6 8 5 a_pn e_p)), (a_pn, (arI G 40 f_p)), (a_j, (oc2 a_as a_sk)), (a_as, (arI G 8 f_as)), (a_sk, (arJ G 50 f_sk)), (a_l, (arW G 6 f_l))] hP hD ?_
        clear hP hD
        intro hP hD
        refine lv_aload_n hx hb dX5_meetGlass_328 rfl (lv_at hl 0 rfl) ?_
        refine lv_dup hx hb dX5_meetGlass_329 rfl ?_
        refine va_get (D := G.1) (ci := 5) (v := .int e_we) (C := RX5) (T := TX5) (N := 13) hx hb hts inG_X5 hown hK hP 0 rfl rfl 7 (by decide +kernel) (hts _ fl_X5_49) (fun _ h9 => h9) rfl dX5_meetGlass_330 ?_
        refine W.eq (g2 := F0 m 333 ls [.int e_we, .ref a_k]) rfl ?_
        refine lv_iconst (v := 1) hx hb dX5_meetGlass_333 (by decide +kernel) ?_
        refine lv_iload hx hb dX5_meetGlass_334 (lv_at hl 3 rfl) ?_
        refine lv_ishl hx hb dX5_meetGlass_336 ?_
        refine lv_ior hx hb dX5_meetGlass_337 ?_
        refine va_put (D := G.1) (ci := 5) (v := .int (e_we ||| (1 <<< (k_n &&& 31)))) (ty := .int) (C := RX5) (T := TX5) (N := 13) hx hb hts inG_X5 tyX5 tyX5_ok nmX5 hown hK hP hD hS 0 rfl rfl 7 (by decide +kernel) (hts _ fl_X5_49) (fun _ h9 => h9) rfl (by decide +kernel) rfl rfl (Nat.le_of_ble_eq_true rfl) dX5_meetGlass_338 ?_
        clear hP hD hS
        intro H locs hP hD hS
        refine g5_rs [(a_k, (oc5 a_h a_j a_pt e_ln e_se e_lh ((e_br * (10 - k_d)) / 10) (e_we ||| (1 <<< (k_n &&& 31))) e_me e_ce (3 - e_wy) (e_ho - k_l) e_ov)), (a_h, (oc1 e_wa e_le e_st e_fo e_lc a_l a_g a_b a_s a_p a_w e_gb a_bb)), (a_g, (oc6 6 5 a_gn e_g)), (a_gn, (arI G 30 f_g)), (a_p, (oc6 8 5 a_pn e_p)), (a_pn, (arI G 40 f_p)), (a_j, (oc2 a_as a_sk)), (a_as, (arI G 8 f_as)), (a_sk, (arJ G 50 f_sk)), (a_l, (arW G 6 f_l))] hP hD ?_
        clear hP hD
        intro hP hD
        refine W.eq (g2 := F0 m 341 ls []) rfl ?_
        refine lv_aload_n hx hb dX5_meetGlass_341 rfl (lv_at hl 0 rfl) ?_
        refine lv_iconst (v := 0) hx hb dX5_meetGlass_342 (by decide +kernel) ?_
        refine va_put (D := G.1) (ci := 5) (v := .int 0) (ty := .boolean) (C := RX5) (T := TX5) (N := 13) hx hb hts inG_X5 tyX5 tyX5_ok nmX5 hown hK hP hD hS 0 rfl rfl 12 (by decide +kernel) (hts _ fl_X5_56) (fun _ h9 => h9) rfl (by decide +kernel) rfl rfl (Nat.le_of_ble_eq_true rfl) dX5_meetGlass_343 ?_
        clear hP hD hS
        intro H locs hP hD hS
        refine g5_rs [(a_k, (oc5 a_h a_j a_pt e_ln e_se e_lh ((e_br * (10 - k_d)) / 10) (e_we ||| (1 <<< (k_n &&& 31))) e_me e_ce (3 - e_wy) (e_ho - k_l) 0)), (a_h, (oc1 e_wa e_le e_st e_fo e_lc a_l a_g a_b a_s a_p a_w e_gb a_bb)), (a_g, (oc6 6 5 a_gn e_g)), (a_gn, (arI G 30 f_g)), (a_p, (oc6 8 5 a_pn e_p)), (a_pn, (arI G 40 f_p)), (a_j, (oc2 a_as a_sk)), (a_as, (arI G 8 f_as)), (a_sk, (arJ G 50 f_sk)), (a_l, (arW G 6 f_l))] hP hD ?_
        clear hP hD
        intro hP hD
        exact kk 346 dX5_meetGlass_346 ((e_br * (10 - k_d)) / 10) (e_we ||| (1 <<< (k_n &&& 31))) e_me (3 - e_wy) (e_ho - k_l) 0 f_as f_sk ls H locs (hP.sub [0, 1, 2, 3, 4, 5, 6, 7, 8, 9] rfl) (hD.sub [0, 1, 2, 3, 4, 5, 6, 7, 8, 9] (by decide +kernel) rfl) hS (⟨by omega, by omega⟩) (⟨by omega, by omega⟩) (⟨by omega, by omega⟩) (⟨by have zc_o_v : (0 : Int32).toInt = 0 := (by decide +kernel); omega, by have zc_o_v : (0 : Int32).toInt = 0 := (by decide +kernel); omega⟩)
    ·
      have i_5 : k_s.toInt = 0 := g5_neN (a := k_s.toInt) (b := 0) rfl (by decide +kernel) c_5
      refine lv_aload_n hx hb dX5_meetGlass_295 rfl (lv_at hl 0 rfl) ?_
      refine va_get (D := G.1) (ci := 5) (v := .int e_wy) (C := RX5) (T := TX5) (N := 13) hx hb hts inG_X5 hown hK hP 0 rfl rfl 10 (by decide +kernel) (hts _ fl_X5_30) (fun _ h9 => h9) rfl dX5_meetGlass_296 ?_
      refine lv_iconst (v := 1) hx hb dX5_meetGlass_299 (by decide +kernel) ?_
      refine lv_ixor hx hb dX5_meetGlass_300 ?_
      have hx_9 := (g_xor (w := e_wy) (by omega) (by omega)).1
      refine W.eq (g2 := F0 m 301 ls [.int (e_wy ^^^ 1), .ref a_k]) rfl ?_
      refine lv_goto (tgt := 325) hx hb dX5_meetGlass_301 (by decide +kernel) ?_
      refine va_put (D := G.1) (ci := 5) (v := .int (e_wy ^^^ 1)) (ty := .int) (C := RX5) (T := TX5) (N := 13) hx hb hts inG_X5 tyX5 tyX5_ok nmX5 hown hK hP hD hS 0 rfl rfl 10 (by decide +kernel) (hts _ fl_X5_30) (fun _ h9 => h9) rfl (by decide +kernel) rfl rfl (Nat.le_of_ble_eq_true rfl) dX5_meetGlass_325 ?_
      clear hP hD hS
      intro H locs hP hD hS
      refine g5_rs [(a_k, (oc5 a_h a_j a_pt e_ln e_se e_lh ((e_br * (10 - k_d)) / 10) e_we e_me e_ce (e_wy ^^^ 1) (e_ho - k_l) e_ov)), (a_h, (oc1 e_wa e_le e_st e_fo e_lc a_l a_g a_b a_s a_p a_w e_gb a_bb)), (a_g, (oc6 6 5 a_gn e_g)), (a_gn, (arI G 30 f_g)), (a_p, (oc6 8 5 a_pn e_p)), (a_pn, (arI G 40 f_p)), (a_j, (oc2 a_as a_sk)), (a_as, (arI G 8 f_as)), (a_sk, (arJ G 50 f_sk)), (a_l, (arW G 6 f_l))] hP hD ?_
      clear hP hD
      intro hP hD
      refine lv_aload_n hx hb dX5_meetGlass_328 rfl (lv_at hl 0 rfl) ?_
      refine lv_dup hx hb dX5_meetGlass_329 rfl ?_
      refine va_get (D := G.1) (ci := 5) (v := .int e_we) (C := RX5) (T := TX5) (N := 13) hx hb hts inG_X5 hown hK hP 0 rfl rfl 7 (by decide +kernel) (hts _ fl_X5_49) (fun _ h9 => h9) rfl dX5_meetGlass_330 ?_
      refine W.eq (g2 := F0 m 333 ls [.int e_we, .ref a_k]) rfl ?_
      refine lv_iconst (v := 1) hx hb dX5_meetGlass_333 (by decide +kernel) ?_
      refine lv_iload hx hb dX5_meetGlass_334 (lv_at hl 3 rfl) ?_
      refine lv_ishl hx hb dX5_meetGlass_336 ?_
      refine lv_ior hx hb dX5_meetGlass_337 ?_
      refine va_put (D := G.1) (ci := 5) (v := .int (e_we ||| (1 <<< (k_n &&& 31)))) (ty := .int) (C := RX5) (T := TX5) (N := 13) hx hb hts inG_X5 tyX5 tyX5_ok nmX5 hown hK hP hD hS 0 rfl rfl 7 (by decide +kernel) (hts _ fl_X5_49) (fun _ h9 => h9) rfl (by decide +kernel) rfl rfl (Nat.le_of_ble_eq_true rfl) dX5_meetGlass_338 ?_
      clear hP hD hS
      intro H locs hP hD hS
      refine g5_rs [(a_k, (oc5 a_h a_j a_pt e_ln e_se e_lh ((e_br * (10 - k_d)) / 10) (e_we ||| (1 <<< (k_n &&& 31))) e_me e_ce (e_wy ^^^ 1) (e_ho - k_l) e_ov)), (a_h, (oc1 e_wa e_le e_st e_fo e_lc a_l a_g a_b a_s a_p a_w e_gb a_bb)), (a_g, (oc6 6 5 a_gn e_g)), (a_gn, (arI G 30 f_g)), (a_p, (oc6 8 5 a_pn e_p)), (a_pn, (arI G 40 f_p)), (a_j, (oc2 a_as a_sk)), (a_as, (arI G 8 f_as)), (a_sk, (arJ G 50 f_sk)), (a_l, (arW G 6 f_l))] hP hD ?_
      clear hP hD
      intro hP hD
      refine W.eq (g2 := F0 m 341 ls []) rfl ?_
      refine lv_aload_n hx hb dX5_meetGlass_341 rfl (lv_at hl 0 rfl) ?_
      refine lv_iconst (v := 0) hx hb dX5_meetGlass_342 (by decide +kernel) ?_
      refine va_put (D := G.1) (ci := 5) (v := .int 0) (ty := .boolean) (C := RX5) (T := TX5) (N := 13) hx hb hts inG_X5 tyX5 tyX5_ok nmX5 hown hK hP hD hS 0 rfl rfl 12 (by decide +kernel) (hts _ fl_X5_56) (fun _ h9 => h9) rfl (by decide +kernel) rfl rfl (Nat.le_of_ble_eq_true rfl) dX5_meetGlass_343 ?_
      clear hP hD hS
      intro H locs hP hD hS
      refine g5_rs [(a_k, (oc5 a_h a_j a_pt e_ln e_se e_lh ((e_br * (10 - k_d)) / 10) (e_we ||| (1 <<< (k_n &&& 31))) e_me e_ce (e_wy ^^^ 1) (e_ho - k_l) 0)), (a_h, (oc1 e_wa e_le e_st e_fo e_lc a_l a_g a_b a_s a_p a_w e_gb a_bb)), (a_g, (oc6 6 5 a_gn e_g)), (a_gn, (arI G 30 f_g)), (a_p, (oc6 8 5 a_pn e_p)), (a_pn, (arI G 40 f_p)), (a_j, (oc2 a_as a_sk)), (a_as, (arI G 8 f_as)), (a_sk, (arJ G 50 f_sk)), (a_l, (arW G 6 f_l))] hP hD ?_
      clear hP hD
      intro hP hD
      exact kk 346 dX5_meetGlass_346 ((e_br * (10 - k_d)) / 10) (e_we ||| (1 <<< (k_n &&& 31))) e_me (e_wy ^^^ 1) (e_ho - k_l) 0 f_as f_sk ls H locs (hP.sub [0, 1, 2, 3, 4, 5, 6, 7, 8, 9] rfl) (hD.sub [0, 1, 2, 3, 4, 5, 6, 7, 8, 9] (by decide +kernel) rfl) hS (⟨by omega, by omega⟩) (⟨by omega, by omega⟩) (⟨by omega, by omega⟩) (⟨by have zc_o_v : (0 : Int32).toInt = 0 := (by decide +kernel); omega, by have zc_o_v : (0 : Int32).toInt = 0 := (by decide +kernel); omega⟩)
  ·
    have i_3 : ((e_br * (10 - k_d)) / 10).toInt < e_le.toInt := g5_geN (a := ((e_br * (10 - k_d)) / 10).toInt) (b := e_le.toInt) rfl rfl c_3
    exact kk 277 dX5_meetGlass_277 ((e_br * (10 - k_d)) / 10) e_we e_me e_wy e_ho e_ov f_as f_sk ls H locs (hP.sub [0, 1, 2, 3, 4, 5, 6, 7, 8, 9] rfl) (hD.sub [0, 1, 2, 3, 4, 5, 6, 7, 8, 9] (by decide +kernel) rfl) hS (⟨by omega, by omega⟩) (⟨by omega, by omega⟩) (⟨by omega, by omega⟩) (⟨by omega, by omega⟩)
set_option maxHeartbeats 4000000 in
set_option maxRecDepth 100000 in
theorem k_mggN3 {p : Program} {l : Launch} {e : Env} {s : State} {m : MethodId} {args : Array Value} {below : List Frame} {meth : Method} {c : Code} {Q : State → Prop} {A : Nat → Prop} {H : Heap} {locs : List Loc} {ls : Array Slot} (G : g5_G) (a_k a_h a_g a_gn a_p a_pn a_j a_as a_sk a_l a_pt a_b a_s a_w a_bb : Nat) (e_ln : Int32) (e_se : Int32) (e_lh : Int32) (e_br : Int32) (e_we : Int32) (e_me : Int32) (e_ce : Int32) (e_wy : Int32) (e_ho : Int32) (e_ov : Int32) (e_le : Int32) (e_st : Int32) (e_fo : Int32) (e_lc : Int32) (e_wa : Int64) (e_gb : Int64) (e_g : Int32) (f_g : Nat → Int32) (e_p : Int32) (f_p : Nat → Int32) (f_as : Nat → Int32) (f_sk : Nat → Int64) (f_l : Nat → Option Nat) (k_r : Int32) (k_n : Int32) (k_s : Int32) (k_l : Int32) (hx : p.tables.exec = Jvm.exec) (hb : c.code = cX5_meetGlass) (hml : c.maxLocals = 9) (hown : s.vm.findClass RX5 = some m.cls) (hts : ∀ w ∈ tblG, w.before args s = true) (hK : va_K G.1 vwCl (T5 G) s) (hN : g5_N s) (hT : g5_S A s s.heap) (hA : ∀ q : Nat, s.heap.size ≤ q → A q) (hP : va_P G.1 vwCl [(a_k, (oc5 a_h a_j a_pt e_ln e_se e_lh e_br e_we e_me e_ce e_wy e_ho e_ov)), (a_h, (oc1 e_wa e_le e_st e_fo e_lc a_l a_g a_b a_s a_p a_w e_gb a_bb)), (a_g, (oc6 6 5 a_gn e_g)), (a_gn, (arI G 30 f_g)), (a_p, (oc6 8 5 a_pn e_p)), (a_pn, (arI G 40 f_p)), (a_j, (oc2 a_as a_sk)), (a_as, (arI G 8 f_as)), (a_sk, (arJ G 50 f_sk)), (a_l, (arW G 6 f_l))] H) (hD : va_D A [(a_k, (oc5 a_h a_j a_pt e_ln e_se e_lh e_br e_we e_me e_ce e_wy e_ho e_ov)), (a_h, (oc1 e_wa e_le e_st e_fo e_lc a_l a_g a_b a_s a_p a_w e_gb a_bb)), (a_g, (oc6 6 5 a_gn e_g)), (a_gn, (arI G 30 f_g)), (a_p, (oc6 8 5 a_pn e_p)), (a_pn, (arI G 40 f_p)), (a_j, (oc2 a_as a_sk)), (a_as, (arI G 8 f_as)), (a_sk, (arJ G 50 f_sk)), (a_l, (arW G 6 f_l))]) (hS : va_S A s.heap H locs) (hl : lv_has ls 9 [(0, .ref a_k), (2, .ref a_g), (3, .int k_r), (4, .int k_n), (5, .int k_s), (6, .null), (7, .int k_l)]) (h_e_br : 0 ≤ e_br.toInt ∧ e_br.toInt ≤ 1000000) (h_e_ce : 0 ≤ e_ce.toInt ∧ e_ce.toInt ≤ 63) (h_e_wy : 0 ≤ e_wy.toInt ∧ e_wy.toInt ≤ 3) (h_e_ho : 0 ≤ e_ho.toInt ∧ e_ho.toInt ≤ 23) (h_e_ov : 0 ≤ e_ov.toInt ∧ e_ov.toInt ≤ 1) (h_e_g : 0 ≤ e_g.toInt ∧ e_g.toInt ≤ 6) (h_e_p : 0 ≤ e_p.toInt ∧ e_p.toInt ≤ 8) (h_k_r : 0 ≤ k_r.toInt ∧ k_r.toInt ≤ 7) (h_k_s : 0 ≤ k_s.toInt ∧ k_s.toInt ≤ 5) (h_k_l : 0 ≤ k_l.toInt ∧ k_l.toInt ≤ 23) (e_gk : gOK f_g e_g.toInt) (e_pk : gOK f_p e_p.toInt) (e_f : e_fo.toInt < 0 ∨ e_lc.toInt ≤ e_fo.toInt) (e_r : k_r.toInt < e_g.toInt) (kk : ∀ (pc1 : Nat), decode cX5_meetGlass pc1 = .ok (.return_, 1) → ∀ (o_b : Int32) (o_w : Int32) (o_m : Int32) (o_y : Int32) (o_h : Int32) (o_v : Int32) (o_a : Nat → Int32) (o_k : Nat → Int64) (ls : Array Slot) (H : Heap) (locs : List Loc), va_P G.1 vwCl [(a_k, (oc5 a_h a_j a_pt e_ln e_se e_lh o_b o_w o_m e_ce o_y o_h o_v)), (a_h, (oc1 e_wa e_le e_st e_fo e_lc a_l a_g a_b a_s a_p a_w e_gb a_bb)), (a_g, (oc6 6 5 a_gn e_g)), (a_gn, (arI G 30 f_g)), (a_p, (oc6 8 5 a_pn e_p)), (a_pn, (arI G 40 f_p)), (a_j, (oc2 a_as a_sk)), (a_as, (arI G 8 o_a)), (a_sk, (arJ G 50 o_k)), (a_l, (arW G 6 f_l))] H → va_D A [(a_k, (oc5 a_h a_j a_pt e_ln e_se e_lh o_b o_w o_m e_ce o_y o_h o_v)), (a_h, (oc1 e_wa e_le e_st e_fo e_lc a_l a_g a_b a_s a_p a_w e_gb a_bb)), (a_g, (oc6 6 5 a_gn e_g)), (a_gn, (arI G 30 f_g)), (a_p, (oc6 8 5 a_pn e_p)), (a_pn, (arI G 40 f_p)), (a_j, (oc2 a_as a_sk)), (a_as, (arI G 8 o_a)), (a_sk, (arJ G 50 o_k)), (a_l, (arW G 6 f_l))] → va_S A s.heap H locs → (0 ≤ o_b.toInt ∧ o_b.toInt ≤ 1000000) → (0 ≤ o_y.toInt ∧ o_y.toInt ≤ 3) → (0 ≤ o_h.toInt ∧ o_h.toInt ≤ 23) → (0 ≤ o_v.toInt ∧ o_v.toInt ≤ 1) → W p l e ({ frames := 12, cells := 0, slots := 0, locals := 500 } : Room) s m args below meth c H locs 0 0 Q (F0 m pc1 ls [])) : W p l e ({ frames := 12, cells := 0, slots := 0, locals := 500 } : Room) s m args below meth c H locs 0 0 Q (F0 m 203 ls []) := by
  refine lv_iload hx hb dX5_meetGlass_203 (lv_at hl 6 rfl) ?_
  refine lv_aload_n hx hb dX5_meetGlass_205 rfl (lv_at hl 0 rfl) ?_
  refine va_get (D := G.1) (ci := 5) (v := .int e_ho) (C := RX5) (T := TX5) (N := 13) hx hb hts inG_X5 hown hK hP 0 rfl rfl 11 (by decide +kernel) (hts _ fl_X5_33) (fun _ h9 => h9) rfl dX5_meetGlass_206 ?_
  refine lv_icmp_le (tgt := 213) hx hb dX5_meetGlass_209 (by decide +kernel) (fun c_1 => ?_) (fun c_1 => ?_)
  ·
    have i_1 : k_l.toInt ≤ e_ho.toInt := g5_le (a := k_l.toInt) (b := e_ho.toInt) rfl rfl c_1
    refine lv_aload_n hx hb dX5_meetGlass_213 rfl (lv_at hl 0 rfl) ?_
    refine va_get (D := G.1) (ci := 5) (v := .ref a_j) (C := RX5) (T := TX5) (N := 13) hx hb hts inG_X5 hown hK hP 0 rfl rfl 1 (by decide +kernel) (hts _ fl_X5_12) (fun _ h9 => h9) rfl dX5_meetGlass_214 ?_
    refine lv_aloadN hx hb dX5_meetGlass_217 (lv_at hl 5 rfl) ?_
    refine lv_iconst (v := 1) hx hb dX5_meetGlass_219 (by decide +kernel) ?_
    refine W.eq (g2 := F0 m 220 ls [.int 1, .null, .ref a_j]) rfl ?_
    obtain ⟨hPc, hDc, hFc⟩ := g5_sub3 (wc := [(a_j, (oc2 a_as a_sk)), (a_as, (arI G 8 f_as)), (a_sk, (arJ G 50 f_sk))]) hP hD hS hA [6, 7, 8] (by decide +kernel) rfl
    refine va_calli (va_runV (As := [.null, .int 1]) (rest := []) ⟨hx, hb, hml, hown, hts⟩ (j_isHeldN l G a_j a_as a_sk H.size 1 f_as f_sk) (cwV 2 hts gV_X5_124 rfl rfl rfl hv_X2_isHeld ⟨Nat.le_of_ble_eq_true rfl, Nat.le_of_ble_eq_true rfl⟩) (g5_preV hPc hK hDc hN hT hS hFc (ci := 2) (q0 := 0) rfl rfl) rfl rfl hl.1 rfl (lv_room (Nat.le_of_ble_eq_true rfl)) dX5_meetGlass_220 ⟨Nat.le_of_ble_eq_true rfl, Nat.le_of_ble_eq_true rfl⟩) hS (fun q _ h => hFc q h) hFc (fun r u t H locs ht hvm hw hB hz1 hk1 hS => ?_)
    obtain ⟨hP1, hD1⟩ := hB
    have hP1 := g5_ht ht hP1
    obtain ⟨rfl, rfl⟩ := hw
    have hJ9 := va_join (wr := [(a_k, (oc5 a_h a_j a_pt e_ln e_se e_lh e_br e_we e_me e_ce e_wy e_ho e_ov)), (a_h, (oc1 e_wa e_le e_st e_fo e_lc a_l a_g a_b a_s a_p a_w e_gb a_bb)), (a_g, (oc6 6 5 a_gn e_g)), (a_gn, (arI G 30 f_g)), (a_p, (oc6 8 5 a_pn e_p)), (a_pn, (arI G 40 f_p)), (a_l, (arW G 6 f_l))]) hP hD [6, 7, 8] [0, 1, 2, 3, 4, 5, 9] rfl rfl (by decide +kernel) (by decide +kernel) hk1 hFc hP1 hD1
    clear hP hD hPc hDc hFc ht hvm hz1 hk1 hP1 hD1
    obtain ⟨hP, hD⟩ := hJ9
    refine g5_rs [(a_k, (oc5 a_h a_j a_pt e_ln e_se e_lh e_br e_we e_me e_ce e_wy e_ho e_ov)), (a_h, (oc1 e_wa e_le e_st e_fo e_lc a_l a_g a_b a_s a_p a_w e_gb a_bb)), (a_g, (oc6 6 5 a_gn e_g)), (a_gn, (arI G 30 f_g)), (a_p, (oc6 8 5 a_pn e_p)), (a_pn, (arI G 40 f_p)), (a_l, (arW G 6 f_l)), (a_j, (oc2 a_as a_sk)), (a_as, (arI G 8 f_as)), (a_sk, (arJ G 50 f_sk))] hP hD ?_
    clear hP hD
    intro hP hD
    refine lv_if_eq (tgt := 238) hx hb dX5_meetGlass_223 (by decide +kernel) (fun c_2 => ?_) (fun c_2 => ?_)
    ·
      refine lv_aload_n hx hb dX5_meetGlass_238 rfl (lv_at hl 1 rfl) ?_
      refine lv_iload_n hx hb dX5_meetGlass_239 rfl (lv_at hl 2 rfl) ?_
      refine lv_iconst (v := 3) hx hb dX5_meetGlass_240 (by decide +kernel) ?_
      obtain ⟨hPc, hDc, hFc⟩ := g5_sub3 (wc := [(a_g, (oc6 6 5 a_gn e_g)), (a_gn, (arI G 30 f_g))]) hP hD hS hA [2, 3] (by decide +kernel) rfl
      refine va_calli (va_runV (As := [.int k_r, .int 3]) (rest := []) ⟨hx, hb, hml, hown, hts⟩ (t_get_G l G a_g a_gn H.size e_g k_r 3 f_g ⟨by omega, by omega⟩) (cwV 2 hts gV_X5_107 rfl rfl rfl hv_X6_get ⟨Nat.le_of_ble_eq_true rfl, Nat.le_of_ble_eq_true rfl⟩) (g5_preV hPc hK hDc hN hT hS hFc (ci := 6) (q0 := 0) rfl rfl) rfl rfl hl.1 rfl (lv_room (Nat.le_of_ble_eq_true rfl)) dX5_meetGlass_241 ⟨Nat.le_of_ble_eq_true rfl, Nat.le_of_ble_eq_true rfl⟩) hS (fun q _ h => hFc q h) hFc (fun r u t H locs ht hvm hw hB hz1 hk1 hS => ?_)
      obtain ⟨hP1, hD1⟩ := hB
      have hP1 := g5_ht ht hP1
      obtain ⟨z4, (i_3 : z4 = tget f_g e_g.toInt 5 k_r.toInt (3 : Int32).toInt), y5, rfl⟩ := hw
      have hJ9 := va_join (wr := [(a_k, (oc5 a_h a_j a_pt e_ln e_se e_lh e_br e_we e_me e_ce e_wy e_ho e_ov)), (a_h, (oc1 e_wa e_le e_st e_fo e_lc a_l a_g a_b a_s a_p a_w e_gb a_bb)), (a_p, (oc6 8 5 a_pn e_p)), (a_pn, (arI G 40 f_p)), (a_l, (arW G 6 f_l)), (a_j, (oc2 a_as a_sk)), (a_as, (arI G 8 f_as)), (a_sk, (arJ G 50 f_sk))]) hP hD [2, 3] [0, 1, 4, 5, 6, 7, 8, 9] rfl rfl (by decide +kernel) (by decide +kernel) hk1 hFc hP1 hD1
      clear hP hD hPc hDc hFc ht hvm hz1 hk1 hP1 hD1
      obtain ⟨hP, hD⟩ := hJ9
      refine g5_rs [(a_k, (oc5 a_h a_j a_pt e_ln e_se e_lh e_br e_we e_me e_ce e_wy e_ho e_ov)), (a_h, (oc1 e_wa e_le e_st e_fo e_lc a_l a_g a_b a_s a_p a_w e_gb a_bb)), (a_p, (oc6 8 5 a_pn e_p)), (a_pn, (arI G 40 f_p)), (a_l, (arW G 6 f_l)), (a_j, (oc2 a_as a_sk)), (a_as, (arI G 8 f_as)), (a_sk, (arJ G 50 f_sk)), (a_g, (oc6 6 5 a_gn e_g)), (a_gn, (arI G 30 f_g))] hP hD ?_
      clear hP hD
      intro hP hD
      refine g5_ti (v := z4) y5 ?_
      have hg_6 : 0 ≤ z4.toInt ∧ z4.toInt ≤ 10 := by rw [i_3]; exact (e_gk k_r.toInt (by omega) (by omega)).2.2.2
      refine W.eq (g2 := F0 m 244 ls [.int z4]) rfl ?_
      refine lv_istore (lv' := [(8, .int z4), (0, .ref a_k), (2, .ref a_g), (3, .int k_r), (4, .int k_n), (5, .int k_s), (6, .null), (7, .int k_l)]) hx hb dX5_meetGlass_244 hl (by decide +kernel) rfl ?_
      clear hl
      intro ls hl
      exact k_mggN4 G a_k a_h a_g a_gn a_p a_pn a_j a_as a_sk a_l a_pt a_b a_s a_w a_bb e_ln e_se e_lh e_br e_we e_me e_ce e_wy e_ho e_ov e_le e_st e_fo e_lc e_wa e_gb e_g f_g e_p f_p f_as f_sk f_l k_r k_n k_s k_l z4 hx hb hml hown hts hK hN hT hA (hP.sub [0, 1, 8, 9, 2, 3, 5, 6, 7, 4] rfl) (hD.sub [0, 1, 8, 9, 2, 3, 5, 6, 7, 4] (by decide +kernel) rfl) hS (lv_sub hl [1, 2, 3, 4, 5, 7, 0] rfl) ⟨by omega, by omega⟩ ⟨by omega, by omega⟩ ⟨by omega, by omega⟩ ⟨by omega, by omega⟩ ⟨by omega, by omega⟩ ⟨by omega, by omega⟩ ⟨by omega, by omega⟩ ⟨by omega, by omega⟩ ⟨by omega, by omega⟩ ⟨by omega, by omega⟩ ⟨by omega, by omega⟩ (by omega) kk
    ·
      exact absurd c_2 (by decide +kernel)
  ·
    have i_1 : k_l.toInt > e_ho.toInt := g5_leN (a := k_l.toInt) (b := e_ho.toInt) rfl rfl c_1
    exact kk 212 dX5_meetGlass_212 e_br e_we e_me e_wy e_ho e_ov f_as f_sk ls H locs (hP.sub [0, 1, 2, 3, 4, 5, 6, 7, 8, 9] rfl) (hD.sub [0, 1, 2, 3, 4, 5, 6, 7, 8, 9] (by decide +kernel) rfl) hS (⟨by omega, by omega⟩) (⟨by omega, by omega⟩) (⟨by omega, by omega⟩) (⟨by omega, by omega⟩)
set_option maxHeartbeats 4000000 in
set_option maxRecDepth 100000 in
theorem k_mggN2 {p : Program} {l : Launch} {e : Env} {s : State} {m : MethodId} {args : Array Value} {below : List Frame} {meth : Method} {c : Code} {Q : State → Prop} {A : Nat → Prop} {H : Heap} {locs : List Loc} {ls : Array Slot} (G : g5_G) (a_k a_h a_g a_gn a_p a_pn a_j a_as a_sk a_l a_pt a_b a_s a_w a_bb : Nat) (e_ln : Int32) (e_se : Int32) (e_lh : Int32) (e_br : Int32) (e_we : Int32) (e_me : Int32) (e_ce : Int32) (e_wy : Int32) (e_ho : Int32) (e_ov : Int32) (e_le : Int32) (e_st : Int32) (e_fo : Int32) (e_lc : Int32) (e_wa : Int64) (e_gb : Int64) (e_g : Int32) (f_g : Nat → Int32) (e_p : Int32) (f_p : Nat → Int32) (f_as : Nat → Int32) (f_sk : Nat → Int64) (f_l : Nat → Option Nat) (k_r : Int32) (k_n : Int32) (k_s : Int32) (hx : p.tables.exec = Jvm.exec) (hb : c.code = cX5_meetGlass) (hml : c.maxLocals = 9) (hown : s.vm.findClass RX5 = some m.cls) (hts : ∀ w ∈ tblG, w.before args s = true) (hK : va_K G.1 vwCl (T5 G) s) (hN : g5_N s) (hT : g5_S A s s.heap) (hA : ∀ q : Nat, s.heap.size ≤ q → A q) (hP : va_P G.1 vwCl [(a_k, (oc5 a_h a_j a_pt e_ln e_se e_lh e_br e_we e_me e_ce e_wy e_ho e_ov)), (a_h, (oc1 e_wa e_le e_st e_fo e_lc a_l a_g a_b a_s a_p a_w e_gb a_bb)), (a_g, (oc6 6 5 a_gn e_g)), (a_gn, (arI G 30 f_g)), (a_p, (oc6 8 5 a_pn e_p)), (a_pn, (arI G 40 f_p)), (a_j, (oc2 a_as a_sk)), (a_as, (arI G 8 f_as)), (a_sk, (arJ G 50 f_sk)), (a_l, (arW G 6 f_l))] H) (hD : va_D A [(a_k, (oc5 a_h a_j a_pt e_ln e_se e_lh e_br e_we e_me e_ce e_wy e_ho e_ov)), (a_h, (oc1 e_wa e_le e_st e_fo e_lc a_l a_g a_b a_s a_p a_w e_gb a_bb)), (a_g, (oc6 6 5 a_gn e_g)), (a_gn, (arI G 30 f_g)), (a_p, (oc6 8 5 a_pn e_p)), (a_pn, (arI G 40 f_p)), (a_j, (oc2 a_as a_sk)), (a_as, (arI G 8 f_as)), (a_sk, (arJ G 50 f_sk)), (a_l, (arW G 6 f_l))]) (hS : va_S A s.heap H locs) (hl : lv_has ls 9 [(0, .ref a_k), (2, .ref a_g), (3, .int k_r), (4, .int k_n), (5, .int k_s), (6, .null)]) (h_e_br : 0 ≤ e_br.toInt ∧ e_br.toInt ≤ 1000000) (h_e_ce : 0 ≤ e_ce.toInt ∧ e_ce.toInt ≤ 63) (h_e_wy : 0 ≤ e_wy.toInt ∧ e_wy.toInt ≤ 3) (h_e_ho : 0 ≤ e_ho.toInt ∧ e_ho.toInt ≤ 23) (h_e_ov : 0 ≤ e_ov.toInt ∧ e_ov.toInt ≤ 1) (h_e_g : 0 ≤ e_g.toInt ∧ e_g.toInt ≤ 6) (h_e_p : 0 ≤ e_p.toInt ∧ e_p.toInt ≤ 8) (h_k_r : 0 ≤ k_r.toInt ∧ k_r.toInt ≤ 7) (h_k_s : 0 ≤ k_s.toInt ∧ k_s.toInt ≤ 5) (e_gk : gOK f_g e_g.toInt) (e_pk : gOK f_p e_p.toInt) (e_f : e_fo.toInt < 0 ∨ e_lc.toInt ≤ e_fo.toInt) (e_r : k_r.toInt < e_g.toInt) (kk : ∀ (pc1 : Nat), decode cX5_meetGlass pc1 = .ok (.return_, 1) → ∀ (o_b : Int32) (o_w : Int32) (o_m : Int32) (o_y : Int32) (o_h : Int32) (o_v : Int32) (o_a : Nat → Int32) (o_k : Nat → Int64) (ls : Array Slot) (H : Heap) (locs : List Loc), va_P G.1 vwCl [(a_k, (oc5 a_h a_j a_pt e_ln e_se e_lh o_b o_w o_m e_ce o_y o_h o_v)), (a_h, (oc1 e_wa e_le e_st e_fo e_lc a_l a_g a_b a_s a_p a_w e_gb a_bb)), (a_g, (oc6 6 5 a_gn e_g)), (a_gn, (arI G 30 f_g)), (a_p, (oc6 8 5 a_pn e_p)), (a_pn, (arI G 40 f_p)), (a_j, (oc2 a_as a_sk)), (a_as, (arI G 8 o_a)), (a_sk, (arJ G 50 o_k)), (a_l, (arW G 6 f_l))] H → va_D A [(a_k, (oc5 a_h a_j a_pt e_ln e_se e_lh o_b o_w o_m e_ce o_y o_h o_v)), (a_h, (oc1 e_wa e_le e_st e_fo e_lc a_l a_g a_b a_s a_p a_w e_gb a_bb)), (a_g, (oc6 6 5 a_gn e_g)), (a_gn, (arI G 30 f_g)), (a_p, (oc6 8 5 a_pn e_p)), (a_pn, (arI G 40 f_p)), (a_j, (oc2 a_as a_sk)), (a_as, (arI G 8 o_a)), (a_sk, (arJ G 50 o_k)), (a_l, (arW G 6 f_l))] → va_S A s.heap H locs → (0 ≤ o_b.toInt ∧ o_b.toInt ≤ 1000000) → (0 ≤ o_y.toInt ∧ o_y.toInt ≤ 3) → (0 ≤ o_h.toInt ∧ o_h.toInt ≤ 23) → (0 ≤ o_v.toInt ∧ o_v.toInt ≤ 1) → W p l e ({ frames := 12, cells := 0, slots := 0, locals := 500 } : Room) s m args below meth c H locs 0 0 Q (F0 m pc1 ls [])) : W p l e ({ frames := 12, cells := 0, slots := 0, locals := 500 } : Room) s m args below meth c H locs 0 0 Q (F0 m 170 ls []) := by
  refine lv_aload_n hx hb dX5_meetGlass_170 rfl (lv_at hl 0 rfl) ?_
  refine va_get (D := G.1) (ci := 5) (v := .ref a_j) (C := RX5) (T := TX5) (N := 13) hx hb hts inG_X5 hown hK hP 0 rfl rfl 1 (by decide +kernel) (hts _ fl_X5_12) (fun _ h9 => h9) rfl dX5_meetGlass_171 ?_
  refine lv_aloadN hx hb dX5_meetGlass_174 (lv_at hl 5 rfl) ?_
  refine lv_iconst (v := 0) hx hb dX5_meetGlass_176 (by decide +kernel) ?_
  refine W.eq (g2 := F0 m 177 ls [.int 0, .null, .ref a_j]) rfl ?_
  obtain ⟨hPc, hDc, hFc⟩ := g5_sub3 (wc := [(a_j, (oc2 a_as a_sk)), (a_as, (arI G 8 f_as)), (a_sk, (arJ G 50 f_sk))]) hP hD hS hA [6, 7, 8] (by decide +kernel) rfl
  refine va_calli (va_runV (As := [.null, .int 0]) (rest := []) ⟨hx, hb, hml, hown, hts⟩ (j_isHeldN l G a_j a_as a_sk H.size 0 f_as f_sk) (cwV 2 hts gV_X5_124 rfl rfl rfl hv_X2_isHeld ⟨Nat.le_of_ble_eq_true rfl, Nat.le_of_ble_eq_true rfl⟩) (g5_preV hPc hK hDc hN hT hS hFc (ci := 2) (q0 := 0) rfl rfl) rfl rfl hl.1 rfl (lv_room (Nat.le_of_ble_eq_true rfl)) dX5_meetGlass_177 ⟨Nat.le_of_ble_eq_true rfl, Nat.le_of_ble_eq_true rfl⟩) hS (fun q _ h => hFc q h) hFc (fun r u t H locs ht hvm hw hB hz1 hk1 hS => ?_)
  obtain ⟨hP1, hD1⟩ := hB
  have hP1 := g5_ht ht hP1
  obtain ⟨rfl, rfl⟩ := hw
  have hJ9 := va_join (wr := [(a_k, (oc5 a_h a_j a_pt e_ln e_se e_lh e_br e_we e_me e_ce e_wy e_ho e_ov)), (a_h, (oc1 e_wa e_le e_st e_fo e_lc a_l a_g a_b a_s a_p a_w e_gb a_bb)), (a_g, (oc6 6 5 a_gn e_g)), (a_gn, (arI G 30 f_g)), (a_p, (oc6 8 5 a_pn e_p)), (a_pn, (arI G 40 f_p)), (a_l, (arW G 6 f_l))]) hP hD [6, 7, 8] [0, 1, 2, 3, 4, 5, 9] rfl rfl (by decide +kernel) (by decide +kernel) hk1 hFc hP1 hD1
  clear hP hD hPc hDc hFc ht hvm hz1 hk1 hP1 hD1
  obtain ⟨hP, hD⟩ := hJ9
  refine g5_rs [(a_k, (oc5 a_h a_j a_pt e_ln e_se e_lh e_br e_we e_me e_ce e_wy e_ho e_ov)), (a_h, (oc1 e_wa e_le e_st e_fo e_lc a_l a_g a_b a_s a_p a_w e_gb a_bb)), (a_g, (oc6 6 5 a_gn e_g)), (a_gn, (arI G 30 f_g)), (a_p, (oc6 8 5 a_pn e_p)), (a_pn, (arI G 40 f_p)), (a_l, (arW G 6 f_l)), (a_j, (oc2 a_as a_sk)), (a_as, (arI G 8 f_as)), (a_sk, (arJ G 50 f_sk))] hP hD ?_
  clear hP hD
  intro hP hD
  refine lv_if_eq (tgt := 195) hx hb dX5_meetGlass_180 (by decide +kernel) (fun c_1 => ?_) (fun c_1 => ?_)
  ·
    refine lv_aload_n hx hb dX5_meetGlass_195 rfl (lv_at hl 1 rfl) ?_
    refine lv_iload_n hx hb dX5_meetGlass_196 rfl (lv_at hl 2 rfl) ?_
    refine lv_iconst (v := 2) hx hb dX5_meetGlass_197 (by decide +kernel) ?_
    obtain ⟨hPc, hDc, hFc⟩ := g5_sub3 (wc := [(a_g, (oc6 6 5 a_gn e_g)), (a_gn, (arI G 30 f_g))]) hP hD hS hA [2, 3] (by decide +kernel) rfl
    refine va_calli (va_runV (As := [.int k_r, .int 2]) (rest := []) ⟨hx, hb, hml, hown, hts⟩ (t_get_G l G a_g a_gn H.size e_g k_r 2 f_g ⟨by omega, by omega⟩) (cwV 2 hts gV_X5_107 rfl rfl rfl hv_X6_get ⟨Nat.le_of_ble_eq_true rfl, Nat.le_of_ble_eq_true rfl⟩) (g5_preV hPc hK hDc hN hT hS hFc (ci := 6) (q0 := 0) rfl rfl) rfl rfl hl.1 rfl (lv_room (Nat.le_of_ble_eq_true rfl)) dX5_meetGlass_198 ⟨Nat.le_of_ble_eq_true rfl, Nat.le_of_ble_eq_true rfl⟩) hS (fun q _ h => hFc q h) hFc (fun r u t H locs ht hvm hw hB hz1 hk1 hS => ?_)
    obtain ⟨hP1, hD1⟩ := hB
    have hP1 := g5_ht ht hP1
    obtain ⟨z3, (i_2 : z3 = tget f_g e_g.toInt 5 k_r.toInt (2 : Int32).toInt), y4, rfl⟩ := hw
    have hJ9 := va_join (wr := [(a_k, (oc5 a_h a_j a_pt e_ln e_se e_lh e_br e_we e_me e_ce e_wy e_ho e_ov)), (a_h, (oc1 e_wa e_le e_st e_fo e_lc a_l a_g a_b a_s a_p a_w e_gb a_bb)), (a_p, (oc6 8 5 a_pn e_p)), (a_pn, (arI G 40 f_p)), (a_l, (arW G 6 f_l)), (a_j, (oc2 a_as a_sk)), (a_as, (arI G 8 f_as)), (a_sk, (arJ G 50 f_sk))]) hP hD [2, 3] [0, 1, 4, 5, 6, 7, 8, 9] rfl rfl (by decide +kernel) (by decide +kernel) hk1 hFc hP1 hD1
    clear hP hD hPc hDc hFc ht hvm hz1 hk1 hP1 hD1
    obtain ⟨hP, hD⟩ := hJ9
    refine g5_rs [(a_k, (oc5 a_h a_j a_pt e_ln e_se e_lh e_br e_we e_me e_ce e_wy e_ho e_ov)), (a_h, (oc1 e_wa e_le e_st e_fo e_lc a_l a_g a_b a_s a_p a_w e_gb a_bb)), (a_p, (oc6 8 5 a_pn e_p)), (a_pn, (arI G 40 f_p)), (a_l, (arW G 6 f_l)), (a_j, (oc2 a_as a_sk)), (a_as, (arI G 8 f_as)), (a_sk, (arJ G 50 f_sk)), (a_g, (oc6 6 5 a_gn e_g)), (a_gn, (arI G 30 f_g))] hP hD ?_
    clear hP hD
    intro hP hD
    refine g5_ti (v := z3) y4 ?_
    have hg_5 : 0 ≤ z3.toInt ∧ z3.toInt ≤ 23 := by rw [i_2]; exact (e_gk k_r.toInt (by omega) (by omega)).2.2.1
    refine W.eq (g2 := F0 m 201 ls [.int z3]) rfl ?_
    refine lv_istore (lv' := [(7, .int z3), (0, .ref a_k), (2, .ref a_g), (3, .int k_r), (4, .int k_n), (5, .int k_s), (6, .null)]) hx hb dX5_meetGlass_201 hl (by decide +kernel) rfl ?_
    clear hl
    intro ls hl
    exact k_mggN3 G a_k a_h a_g a_gn a_p a_pn a_j a_as a_sk a_l a_pt a_b a_s a_w a_bb e_ln e_se e_lh e_br e_we e_me e_ce e_wy e_ho e_ov e_le e_st e_fo e_lc e_wa e_gb e_g f_g e_p f_p f_as f_sk f_l k_r k_n k_s z3 hx hb hml hown hts hK hN hT hA (hP.sub [0, 1, 8, 9, 2, 3, 5, 6, 7, 4] rfl) (hD.sub [0, 1, 8, 9, 2, 3, 5, 6, 7, 4] (by decide +kernel) rfl) hS (lv_sub hl [1, 2, 3, 4, 5, 6, 0] rfl) ⟨by omega, by omega⟩ ⟨by omega, by omega⟩ ⟨by omega, by omega⟩ ⟨by omega, by omega⟩ ⟨by omega, by omega⟩ ⟨by omega, by omega⟩ ⟨by omega, by omega⟩ ⟨by omega, by omega⟩ ⟨by omega, by omega⟩ ⟨by omega, by omega⟩ (e_gk) (e_pk) (e_f) (e_r) kk
  ·
    exact absurd c_1 (by decide +kernel)
theorem fl_X5_95 : Cond.fieldLink RX5 95 "LateGlass$Look" "met" "I" ∈ tblG := tg 262 (by decide +kernel) (by decide +kernel)
set_option maxHeartbeats 4000000 in
set_option maxRecDepth 100000 in
theorem k_mggN1 {p : Program} {l : Launch} {e : Env} {s : State} {m : MethodId} {args : Array Value} {below : List Frame} {meth : Method} {c : Code} {Q : State → Prop} {A : Nat → Prop} {H : Heap} {locs : List Loc} {ls : Array Slot} (G : g5_G) (a_k a_h a_g a_gn a_p a_pn a_j a_as a_sk a_l a_pt a_b a_s a_w a_bb : Nat) (e_ln : Int32) (e_se : Int32) (e_lh : Int32) (e_br : Int32) (e_we : Int32) (e_me : Int32) (e_ce : Int32) (e_wy : Int32) (e_ho : Int32) (e_ov : Int32) (e_le : Int32) (e_st : Int32) (e_fo : Int32) (e_lc : Int32) (e_wa : Int64) (e_gb : Int64) (e_g : Int32) (f_g : Nat → Int32) (e_p : Int32) (f_p : Nat → Int32) (f_as : Nat → Int32) (f_sk : Nat → Int64) (f_l : Nat → Option Nat) (k_r : Int32) (k_n : Int32) (hx : p.tables.exec = Jvm.exec) (hb : c.code = cX5_meetGlass) (hml : c.maxLocals = 9) (hown : s.vm.findClass RX5 = some m.cls) (hts : ∀ w ∈ tblG, w.before args s = true) (hK : va_K G.1 vwCl (T5 G) s) (hN : g5_N s) (hT : g5_S A s s.heap) (hA : ∀ q : Nat, s.heap.size ≤ q → A q) (hP : va_P G.1 vwCl [(a_k, (oc5 a_h a_j a_pt e_ln e_se e_lh e_br e_we e_me e_ce e_wy e_ho e_ov)), (a_h, (oc1 e_wa e_le e_st e_fo e_lc a_l a_g a_b a_s a_p a_w e_gb a_bb)), (a_g, (oc6 6 5 a_gn e_g)), (a_gn, (arI G 30 f_g)), (a_p, (oc6 8 5 a_pn e_p)), (a_pn, (arI G 40 f_p)), (a_j, (oc2 a_as a_sk)), (a_as, (arI G 8 f_as)), (a_sk, (arJ G 50 f_sk)), (a_l, (arW G 6 f_l))] H) (hD : va_D A [(a_k, (oc5 a_h a_j a_pt e_ln e_se e_lh e_br e_we e_me e_ce e_wy e_ho e_ov)), (a_h, (oc1 e_wa e_le e_st e_fo e_lc a_l a_g a_b a_s a_p a_w e_gb a_bb)), (a_g, (oc6 6 5 a_gn e_g)), (a_gn, (arI G 30 f_g)), (a_p, (oc6 8 5 a_pn e_p)), (a_pn, (arI G 40 f_p)), (a_j, (oc2 a_as a_sk)), (a_as, (arI G 8 f_as)), (a_sk, (arJ G 50 f_sk)), (a_l, (arW G 6 f_l))]) (hS : va_S A s.heap H locs) (hl : lv_has ls 9 [(0, .ref a_k), (2, .ref a_g), (3, .int k_r), (4, .int k_n)]) (h_e_br : 0 ≤ e_br.toInt ∧ e_br.toInt ≤ 1000000) (h_e_ce : 0 ≤ e_ce.toInt ∧ e_ce.toInt ≤ 63) (h_e_wy : 0 ≤ e_wy.toInt ∧ e_wy.toInt ≤ 3) (h_e_ho : 0 ≤ e_ho.toInt ∧ e_ho.toInt ≤ 23) (h_e_ov : 0 ≤ e_ov.toInt ∧ e_ov.toInt ≤ 1) (h_e_g : 0 ≤ e_g.toInt ∧ e_g.toInt ≤ 6) (h_e_p : 0 ≤ e_p.toInt ∧ e_p.toInt ≤ 8) (h_k_r : 0 ≤ k_r.toInt ∧ k_r.toInt ≤ 7) (e_gk : gOK f_g e_g.toInt) (e_pk : gOK f_p e_p.toInt) (e_f : e_fo.toInt < 0 ∨ e_lc.toInt ≤ e_fo.toInt) (e_r : k_r.toInt < e_g.toInt) (kk : ∀ (pc1 : Nat), decode cX5_meetGlass pc1 = .ok (.return_, 1) → ∀ (o_b : Int32) (o_w : Int32) (o_m : Int32) (o_y : Int32) (o_h : Int32) (o_v : Int32) (o_a : Nat → Int32) (o_k : Nat → Int64) (ls : Array Slot) (H : Heap) (locs : List Loc), va_P G.1 vwCl [(a_k, (oc5 a_h a_j a_pt e_ln e_se e_lh o_b o_w o_m e_ce o_y o_h o_v)), (a_h, (oc1 e_wa e_le e_st e_fo e_lc a_l a_g a_b a_s a_p a_w e_gb a_bb)), (a_g, (oc6 6 5 a_gn e_g)), (a_gn, (arI G 30 f_g)), (a_p, (oc6 8 5 a_pn e_p)), (a_pn, (arI G 40 f_p)), (a_j, (oc2 a_as a_sk)), (a_as, (arI G 8 o_a)), (a_sk, (arJ G 50 o_k)), (a_l, (arW G 6 f_l))] H → va_D A [(a_k, (oc5 a_h a_j a_pt e_ln e_se e_lh o_b o_w o_m e_ce o_y o_h o_v)), (a_h, (oc1 e_wa e_le e_st e_fo e_lc a_l a_g a_b a_s a_p a_w e_gb a_bb)), (a_g, (oc6 6 5 a_gn e_g)), (a_gn, (arI G 30 f_g)), (a_p, (oc6 8 5 a_pn e_p)), (a_pn, (arI G 40 f_p)), (a_j, (oc2 a_as a_sk)), (a_as, (arI G 8 o_a)), (a_sk, (arJ G 50 o_k)), (a_l, (arW G 6 f_l))] → va_S A s.heap H locs → (0 ≤ o_b.toInt ∧ o_b.toInt ≤ 1000000) → (0 ≤ o_y.toInt ∧ o_y.toInt ≤ 3) → (0 ≤ o_h.toInt ∧ o_h.toInt ≤ 23) → (0 ≤ o_v.toInt ∧ o_v.toInt ≤ 1) → W p l e ({ frames := 12, cells := 0, slots := 0, locals := 500 } : Room) s m args below meth c H locs 0 0 Q (F0 m pc1 ls [])) : W p l e ({ frames := 12, cells := 0, slots := 0, locals := 500 } : Room) s m args below meth c H locs 0 0 Q (F0 m 84 ls []) := by
  refine lv_aload_n hx hb dX5_meetGlass_84 rfl (lv_at hl 1 rfl) ?_
  refine lv_iload_n hx hb dX5_meetGlass_85 rfl (lv_at hl 2 rfl) ?_
  refine lv_iconst (v := 1) hx hb dX5_meetGlass_86 (by decide +kernel) ?_
  obtain ⟨hPc, hDc, hFc⟩ := g5_sub3 (wc := [(a_g, (oc6 6 5 a_gn e_g)), (a_gn, (arI G 30 f_g))]) hP hD hS hA [2, 3] (by decide +kernel) rfl
  refine va_calli (va_runV (As := [.int k_r, .int 1]) (rest := []) ⟨hx, hb, hml, hown, hts⟩ (t_get_G l G a_g a_gn H.size e_g k_r 1 f_g ⟨by omega, by omega⟩) (cwV 2 hts gV_X5_107 rfl rfl rfl hv_X6_get ⟨Nat.le_of_ble_eq_true rfl, Nat.le_of_ble_eq_true rfl⟩) (g5_preV hPc hK hDc hN hT hS hFc (ci := 6) (q0 := 0) rfl rfl) rfl rfl hl.1 rfl (lv_room (Nat.le_of_ble_eq_true rfl)) dX5_meetGlass_87 ⟨Nat.le_of_ble_eq_true rfl, Nat.le_of_ble_eq_true rfl⟩) hS (fun q _ h => hFc q h) hFc (fun r u t H locs ht hvm hw hB hz1 hk1 hS => ?_)
  obtain ⟨hP1, hD1⟩ := hB
  have hP1 := g5_ht ht hP1
  obtain ⟨z2, (i_1 : z2 = tget f_g e_g.toInt 5 k_r.toInt (1 : Int32).toInt), y3, rfl⟩ := hw
  have hJ9 := va_join (wr := [(a_k, (oc5 a_h a_j a_pt e_ln e_se e_lh e_br e_we e_me e_ce e_wy e_ho e_ov)), (a_h, (oc1 e_wa e_le e_st e_fo e_lc a_l a_g a_b a_s a_p a_w e_gb a_bb)), (a_p, (oc6 8 5 a_pn e_p)), (a_pn, (arI G 40 f_p)), (a_j, (oc2 a_as a_sk)), (a_as, (arI G 8 f_as)), (a_sk, (arJ G 50 f_sk)), (a_l, (arW G 6 f_l))]) hP hD [2, 3] [0, 1, 4, 5, 6, 7, 8, 9] rfl rfl (by decide +kernel) (by decide +kernel) hk1 hFc hP1 hD1
  clear hP hD hPc hDc hFc ht hvm hz1 hk1 hP1 hD1
  obtain ⟨hP, hD⟩ := hJ9
  refine g5_rs [(a_k, (oc5 a_h a_j a_pt e_ln e_se e_lh e_br e_we e_me e_ce e_wy e_ho e_ov)), (a_h, (oc1 e_wa e_le e_st e_fo e_lc a_l a_g a_b a_s a_p a_w e_gb a_bb)), (a_p, (oc6 8 5 a_pn e_p)), (a_pn, (arI G 40 f_p)), (a_j, (oc2 a_as a_sk)), (a_as, (arI G 8 f_as)), (a_sk, (arJ G 50 f_sk)), (a_l, (arW G 6 f_l)), (a_g, (oc6 6 5 a_gn e_g)), (a_gn, (arI G 30 f_g))] hP hD ?_
  clear hP hD
  intro hP hD
  refine g5_ti (v := z2) y3 ?_
  have hg_4 : 0 ≤ z2.toInt ∧ z2.toInt ≤ 5 := by rw [i_1]; exact (e_gk k_r.toInt (by omega) (by omega)).2.1
  refine W.eq (g2 := F0 m 90 ls [.int z2]) rfl ?_
  refine lv_istore (lv' := [(5, .int z2), (0, .ref a_k), (2, .ref a_g), (3, .int k_r), (4, .int k_n)]) hx hb dX5_meetGlass_90 hl (by decide +kernel) rfl ?_
  clear hl
  intro ls hl
  refine lv_aload_n hx hb dX5_meetGlass_92 rfl (lv_at hl 1 rfl) ?_
  refine lv_dup hx hb dX5_meetGlass_93 rfl ?_
  refine va_get (D := G.1) (ci := 5) (v := .int e_me) (C := RX5) (T := TX5) (N := 13) hx hb hts inG_X5 hown hK hP 0 rfl rfl 8 (by decide +kernel) (hts _ fl_X5_95) (fun _ h9 => h9) rfl dX5_meetGlass_94 ?_
  refine lv_iconst (v := 1) hx hb dX5_meetGlass_97 (by decide +kernel) ?_
  refine W.eq (g2 := F0 m 98 ls [.int 1, .int e_me, .ref a_k]) rfl ?_
  refine lv_iload hx hb dX5_meetGlass_98 (lv_at hl 4 rfl) ?_
  refine lv_ishl hx hb dX5_meetGlass_100 ?_
  refine lv_ior hx hb dX5_meetGlass_101 ?_
  refine va_put (D := G.1) (ci := 5) (v := .int (e_me ||| (1 <<< (k_n &&& 31)))) (ty := .int) (C := RX5) (T := TX5) (N := 13) hx hb hts inG_X5 tyX5 tyX5_ok nmX5 hown hK hP hD hS 0 rfl rfl 8 (by decide +kernel) (hts _ fl_X5_95) (fun _ h9 => h9) rfl (by decide +kernel) rfl rfl (Nat.le_of_ble_eq_true rfl) dX5_meetGlass_102 ?_
  clear hP hD hS
  intro H locs hP hD hS
  refine g5_rs [(a_k, (oc5 a_h a_j a_pt e_ln e_se e_lh e_br e_we (e_me ||| (1 <<< (k_n &&& 31))) e_ce e_wy e_ho e_ov)), (a_h, (oc1 e_wa e_le e_st e_fo e_lc a_l a_g a_b a_s a_p a_w e_gb a_bb)), (a_p, (oc6 8 5 a_pn e_p)), (a_pn, (arI G 40 f_p)), (a_j, (oc2 a_as a_sk)), (a_as, (arI G 8 f_as)), (a_sk, (arJ G 50 f_sk)), (a_l, (arW G 6 f_l)), (a_g, (oc6 6 5 a_gn e_g)), (a_gn, (arI G 30 f_g))] hP hD ?_
  clear hP hD
  intro hP hD
  refine lv_aload_n hx hb dX5_meetGlass_105 rfl (lv_at hl 1 rfl) ?_
  refine W.eq (g2 := F0 m 106 ls [.ref a_k]) rfl ?_
  refine va_get (D := G.1) (ci := 5) (v := .ref a_h) (C := RX5) (T := TX5) (N := 13) hx hb hts inG_X5 hown hK hP 0 rfl rfl 0 (by decide +kernel) (hts _ fl_X5_22) (fun _ h9 => h9) rfl dX5_meetGlass_106 ?_
  obtain ⟨hPc, hDc, hFc⟩ := g5_sub3 (wc := [(a_h, (oc1 e_wa e_le e_st e_fo e_lc a_l a_g a_b a_s a_p a_w e_gb a_bb)), (a_l, (arW G 6 f_l))]) hP hD hS hA [1, 7] (by decide +kernel) rfl
  refine va_callq (va_runV (As := []) (rest := []) ⟨hx, hb, hml, hown, hts⟩ (h_lawN l G a_h a_l a_g a_b a_s a_p a_w a_bb H.size e_le e_st e_fo e_lc e_wa e_gb f_l (e_f)) (cwV 0 hts gV_X5_113 rfl rfl rfl hv_X1_lawInForce ⟨Nat.le_of_ble_eq_true rfl, Nat.le_of_ble_eq_true rfl⟩) (g5_preV hPc hK hDc hN hT hS hFc (ci := 1) (q0 := 0) rfl rfl) rfl rfl hl.1 rfl (lv_room (Nat.le_of_ble_eq_true rfl)) dX5_meetGlass_109 ⟨Nat.le_of_ble_eq_true rfl, Nat.le_of_ble_eq_true rfl⟩) hS (fun q _ h => hFc q h) hFc (fun r u t H locs ht hvm hw hB hz1 hk1 hS => ?_)
  obtain ⟨hP1, hD1⟩ := hB
  have hP1 := g5_ht ht hP1
  obtain ⟨rfl, rfl⟩ := hw
  have hJ9 := va_join (wr := [(a_k, (oc5 a_h a_j a_pt e_ln e_se e_lh e_br e_we (e_me ||| (1 <<< (k_n &&& 31))) e_ce e_wy e_ho e_ov)), (a_p, (oc6 8 5 a_pn e_p)), (a_pn, (arI G 40 f_p)), (a_j, (oc2 a_as a_sk)), (a_as, (arI G 8 f_as)), (a_sk, (arJ G 50 f_sk)), (a_g, (oc6 6 5 a_gn e_g)), (a_gn, (arI G 30 f_g))]) hP hD [1, 7] [0, 2, 3, 4, 5, 6, 8, 9] rfl rfl (by decide +kernel) (by decide +kernel) hk1 hFc hP1 hD1
  clear hP hD hPc hDc hFc ht hvm hz1 hk1 hP1 hD1
  obtain ⟨hP, hD⟩ := hJ9
  refine g5_rs [(a_k, (oc5 a_h a_j a_pt e_ln e_se e_lh e_br e_we (e_me ||| (1 <<< (k_n &&& 31))) e_ce e_wy e_ho e_ov)), (a_p, (oc6 8 5 a_pn e_p)), (a_pn, (arI G 40 f_p)), (a_j, (oc2 a_as a_sk)), (a_as, (arI G 8 f_as)), (a_sk, (arJ G 50 f_sk)), (a_g, (oc6 6 5 a_gn e_g)), (a_gn, (arI G 30 f_g)), (a_h, (oc1 e_wa e_le e_st e_fo e_lc a_l a_g a_b a_s a_p a_w e_gb a_bb)), (a_l, (arW G 6 f_l))] hP hD ?_
  clear hP hD
  intro hP hD
  refine g5_tv (v := .null) rfl ?_
  refine lv_astoreN (lv' := [(6, .null), (5, .int z2), (0, .ref a_k), (2, .ref a_g), (3, .int k_r), (4, .int k_n)]) hx hb dX5_meetGlass_112 hl (by decide +kernel) rfl ?_
  clear hl
  intro ls hl
  refine lv_aload_n hx hb dX5_meetGlass_114 rfl (lv_at hl 2 rfl) ?_
  refine lv_iload hx hb dX5_meetGlass_115 (lv_at hl 5 rfl) ?_
  refine W.eq (g2 := F0 m 117 ls [.int k_n, .ref a_k]) rfl ?_
  refine lv_iconst (v := (-1)) hx hb dX5_meetGlass_117 (by decide +kernel) ?_
  obtain ⟨hPc, hDc, hFc⟩ := g5_sub3 (wc := [(a_k, (oc5 a_h a_j a_pt e_ln e_se e_lh e_br e_we (e_me ||| (1 <<< (k_n &&& 31))) e_ce e_wy e_ho e_ov)), (a_j, (oc2 a_as a_sk)), (a_as, (arI G 8 f_as))]) hP hD hS hA [0, 3, 4] (by decide +kernel) rfl
  refine va_callv (va_runV (As := [.int k_n, .int (-1)]) (rest := []) ⟨hx, hb, hml, hown, hts⟩ (k_ask l G a_k a_j a_as a_h a_pt a_sk H.size e_ln e_se e_lh e_br e_we (e_me ||| (1 <<< (k_n &&& 31))) e_ce e_wy e_ho e_ov k_n (-1) f_as ⟨by omega, by omega⟩ ⟨by omega, by omega⟩ ⟨by omega, by omega⟩ ⟨by omega, by omega⟩ ⟨by omega, by omega⟩) (cwV 2 hts gV_X5_120 rfl rfl rfl hv_X5_ask ⟨Nat.le_of_ble_eq_true rfl, Nat.le_of_ble_eq_true rfl⟩) (g5_preV hPc hK hDc hN hT hS hFc (ci := 5) (q0 := 0) rfl rfl) rfl rfl hl.1 rfl (lv_room (Nat.le_of_ble_eq_true rfl)) dX5_meetGlass_118 ⟨Nat.le_of_ble_eq_true rfl, Nat.le_of_ble_eq_true rfl⟩) hS (fun q _ h => hFc q h) hFc (fun u t H locs ht hvm hw hB hz1 hk1 hS => ?_)
  obtain ⟨hP1, hD1⟩ := hB
  have hP1 := g5_ht ht hP1
  obtain ⟨z5, rfl⟩ := hw
  have hJ9 := va_join (wr := [(a_p, (oc6 8 5 a_pn e_p)), (a_pn, (arI G 40 f_p)), (a_sk, (arJ G 50 f_sk)), (a_g, (oc6 6 5 a_gn e_g)), (a_gn, (arI G 30 f_g)), (a_h, (oc1 e_wa e_le e_st e_fo e_lc a_l a_g a_b a_s a_p a_w e_gb a_bb)), (a_l, (arW G 6 f_l))]) hP hD [0, 3, 4] [1, 2, 5, 6, 7, 8, 9] rfl rfl (by decide +kernel) (by decide +kernel) hk1 hFc hP1 hD1
  clear hP hD hPc hDc hFc ht hvm hz1 hk1 hP1 hD1
  obtain ⟨hP, hD⟩ := hJ9
  refine g5_rs [(a_p, (oc6 8 5 a_pn e_p)), (a_pn, (arI G 40 f_p)), (a_sk, (arJ G 50 f_sk)), (a_g, (oc6 6 5 a_gn e_g)), (a_gn, (arI G 30 f_g)), (a_h, (oc1 e_wa e_le e_st e_fo e_lc a_l a_g a_b a_s a_p a_w e_gb a_bb)), (a_l, (arW G 6 f_l)), (a_k, (oc5 a_h a_j a_pt e_ln e_se e_lh e_br e_we (e_me ||| (1 <<< (k_n &&& 31))) e_ce e_wy e_ho e_ov)), (a_j, (oc2 a_as a_sk)), (a_as, (arI G 8 z5))] hP hD ?_
  clear hP hD
  intro hP hD
  refine lv_aload_n hx hb dX5_meetGlass_121 rfl (lv_at hl 3 rfl) ?_
  refine lv_iload_n hx hb dX5_meetGlass_122 rfl (lv_at hl 4 rfl) ?_
  refine lv_iconst (v := 4) hx hb dX5_meetGlass_123 (by decide +kernel) ?_
  refine W.eq (g2 := F0 m 124 ls [.int 4, .int k_r, .ref a_g]) rfl ?_
  obtain ⟨hPc, hDc, hFc⟩ := g5_sub3 (wc := [(a_g, (oc6 6 5 a_gn e_g)), (a_gn, (arI G 30 f_g))]) hP hD hS hA [3, 4] (by decide +kernel) rfl
  refine va_calli (va_runV (As := [.int k_r, .int 4]) (rest := []) ⟨hx, hb, hml, hown, hts⟩ (t_get_G l G a_g a_gn H.size e_g k_r 4 f_g ⟨by omega, by omega⟩) (cwV 2 hts gV_X5_107 rfl rfl rfl hv_X6_get ⟨Nat.le_of_ble_eq_true rfl, Nat.le_of_ble_eq_true rfl⟩) (g5_preV hPc hK hDc hN hT hS hFc (ci := 6) (q0 := 0) rfl rfl) rfl rfl hl.1 rfl (lv_room (Nat.le_of_ble_eq_true rfl)) dX5_meetGlass_124 ⟨Nat.le_of_ble_eq_true rfl, Nat.le_of_ble_eq_true rfl⟩) hS (fun q _ h => hFc q h) hFc (fun r u t H locs ht hvm hw hB hz1 hk1 hS => ?_)
  obtain ⟨hP1, hD1⟩ := hB
  have hP1 := g5_ht ht hP1
  obtain ⟨z7, (i_6 : z7 = tget f_g e_g.toInt 5 k_r.toInt (4 : Int32).toInt), y8, rfl⟩ := hw
  have hJ9 := va_join (wr := [(a_p, (oc6 8 5 a_pn e_p)), (a_pn, (arI G 40 f_p)), (a_sk, (arJ G 50 f_sk)), (a_h, (oc1 e_wa e_le e_st e_fo e_lc a_l a_g a_b a_s a_p a_w e_gb a_bb)), (a_l, (arW G 6 f_l)), (a_k, (oc5 a_h a_j a_pt e_ln e_se e_lh e_br e_we (e_me ||| (1 <<< (k_n &&& 31))) e_ce e_wy e_ho e_ov)), (a_j, (oc2 a_as a_sk)), (a_as, (arI G 8 z5))]) hP hD [3, 4] [0, 1, 2, 5, 6, 7, 8, 9] rfl rfl (by decide +kernel) (by decide +kernel) hk1 hFc hP1 hD1
  clear hP hD hPc hDc hFc ht hvm hz1 hk1 hP1 hD1
  obtain ⟨hP, hD⟩ := hJ9
  refine g5_rs [(a_p, (oc6 8 5 a_pn e_p)), (a_pn, (arI G 40 f_p)), (a_sk, (arJ G 50 f_sk)), (a_h, (oc1 e_wa e_le e_st e_fo e_lc a_l a_g a_b a_s a_p a_w e_gb a_bb)), (a_l, (arW G 6 f_l)), (a_k, (oc5 a_h a_j a_pt e_ln e_se e_lh e_br e_we (e_me ||| (1 <<< (k_n &&& 31))) e_ce e_wy e_ho e_ov)), (a_j, (oc2 a_as a_sk)), (a_as, (arI G 8 z5)), (a_g, (oc6 6 5 a_gn e_g)), (a_gn, (arI G 30 f_g))] hP hD ?_
  clear hP hD
  intro hP hD
  refine g5_ti (v := z7) y8 ?_
  refine lv_aload_n hx hb dX5_meetGlass_127 rfl (lv_at hl 2 rfl) ?_
  refine va_get (D := G.1) (ci := 5) (v := .int e_ho) (C := RX5) (T := TX5) (N := 13) hx hb hts inG_X5 hown hK hP 5 rfl rfl 11 (by decide +kernel) (hts _ fl_X5_33) (fun _ h9 => h9) rfl dX5_meetGlass_128 ?_
  refine lv_ishr hx hb dX5_meetGlass_131 ?_
  refine lv_iconst (v := 1) hx hb dX5_meetGlass_132 (by decide +kernel) ?_
  refine W.eq (g2 := F0 m 133 ls [.int 1, .int (z7 >>> (e_ho &&& 31))]) rfl ?_
  refine lv_iand hx hb dX5_meetGlass_133 ?_
  refine lv_if_ne (tgt := 169) hx hb dX5_meetGlass_134 (by decide +kernel) (fun c_9 => ?_) (fun c_9 => ?_)
  ·
    have n_9 : gNe (((z7 >>> (e_ho &&& 31)) &&& 1).toInt) (0) := g5_ne (a := ((z7 >>> (e_ho &&& 31)) &&& 1).toInt) (b := 0) rfl (by decide +kernel) c_9
    exact kk 169 dX5_meetGlass_169 e_br e_we (e_me ||| (1 <<< (k_n &&& 31))) e_wy e_ho e_ov z5 f_sk ls H locs (hP.sub [5, 3, 8, 9, 0, 1, 6, 7, 2, 4] rfl) (hD.sub [5, 3, 8, 9, 0, 1, 6, 7, 2, 4] (by decide +kernel) rfl) hS (⟨by omega, by omega⟩) (⟨by omega, by omega⟩) (⟨by omega, by omega⟩) (⟨by omega, by omega⟩)
  ·
    have i_9 : ((z7 >>> (e_ho &&& 31)) &&& 1).toInt = 0 := g5_neN (a := ((z7 >>> (e_ho &&& 31)) &&& 1).toInt) (b := 0) rfl (by decide +kernel) c_9
    refine lv_aload_n hx hb dX5_meetGlass_137 rfl (lv_at hl 2 rfl) ?_
    refine va_get (D := G.1) (ci := 5) (v := .ref a_j) (C := RX5) (T := TX5) (N := 13) hx hb hts inG_X5 hown hK hP 5 rfl rfl 1 (by decide +kernel) (hts _ fl_X5_12) (fun _ h9 => h9) rfl dX5_meetGlass_138 ?_
    refine lv_aloadN hx hb dX5_meetGlass_141 (lv_at hl 0 rfl) ?_
    refine lv_iconst (v := 2) hx hb dX5_meetGlass_143 (by decide +kernel) ?_
    refine W.eq (g2 := F0 m 144 ls [.int 2, .null, .ref a_j]) rfl ?_
    obtain ⟨hPc, hDc, hFc⟩ := g5_sub3 (wc := [(a_j, (oc2 a_as a_sk)), (a_as, (arI G 8 z5)), (a_sk, (arJ G 50 f_sk))]) hP hD hS hA [6, 7, 2] (by decide +kernel) rfl
    refine va_calli (va_runV (As := [.null, .int 2]) (rest := []) ⟨hx, hb, hml, hown, hts⟩ (j_isHeldN l G a_j a_as a_sk H.size 2 z5 f_sk) (cwV 2 hts gV_X5_124 rfl rfl rfl hv_X2_isHeld ⟨Nat.le_of_ble_eq_true rfl, Nat.le_of_ble_eq_true rfl⟩) (g5_preV hPc hK hDc hN hT hS hFc (ci := 2) (q0 := 0) rfl rfl) rfl rfl hl.1 rfl (lv_room (Nat.le_of_ble_eq_true rfl)) dX5_meetGlass_144 ⟨Nat.le_of_ble_eq_true rfl, Nat.le_of_ble_eq_true rfl⟩) hS (fun q _ h => hFc q h) hFc (fun r u t H locs ht hvm hw hB hz1 hk1 hS => ?_)
    obtain ⟨hP1, hD1⟩ := hB
    have hP1 := g5_ht ht hP1
    obtain ⟨rfl, rfl⟩ := hw
    have hJ9 := va_join (wr := [(a_p, (oc6 8 5 a_pn e_p)), (a_pn, (arI G 40 f_p)), (a_h, (oc1 e_wa e_le e_st e_fo e_lc a_l a_g a_b a_s a_p a_w e_gb a_bb)), (a_l, (arW G 6 f_l)), (a_k, (oc5 a_h a_j a_pt e_ln e_se e_lh e_br e_we (e_me ||| (1 <<< (k_n &&& 31))) e_ce e_wy e_ho e_ov)), (a_g, (oc6 6 5 a_gn e_g)), (a_gn, (arI G 30 f_g))]) hP hD [6, 7, 2] [0, 1, 3, 4, 5, 8, 9] rfl rfl (by decide +kernel) (by decide +kernel) hk1 hFc hP1 hD1
    clear hP hD hPc hDc hFc ht hvm hz1 hk1 hP1 hD1
    obtain ⟨hP, hD⟩ := hJ9
    refine g5_rs [(a_p, (oc6 8 5 a_pn e_p)), (a_pn, (arI G 40 f_p)), (a_h, (oc1 e_wa e_le e_st e_fo e_lc a_l a_g a_b a_s a_p a_w e_gb a_bb)), (a_l, (arW G 6 f_l)), (a_k, (oc5 a_h a_j a_pt e_ln e_se e_lh e_br e_we (e_me ||| (1 <<< (k_n &&& 31))) e_ce e_wy e_ho e_ov)), (a_g, (oc6 6 5 a_gn e_g)), (a_gn, (arI G 30 f_g)), (a_j, (oc2 a_as a_sk)), (a_as, (arI G 8 z5)), (a_sk, (arJ G 50 f_sk))] hP hD ?_
    clear hP hD
    intro hP hD
    refine lv_if_ne (tgt := 169) hx hb dX5_meetGlass_147 (by decide +kernel) (fun c_10 => ?_) (fun c_10 => ?_)
    ·
      exact absurd c_10 (by decide +kernel)
    ·
      refine lv_iload hx hb dX5_meetGlass_150 (lv_at hl 1 rfl) ?_
      refine lv_iconst (v := 2) hx hb dX5_meetGlass_152 (by decide +kernel) ?_
      refine lv_icmp_lt (tgt := 170) hx hb dX5_meetGlass_153 (by decide +kernel) (fun c_11 => ?_) (fun c_11 => ?_)
      ·
        have i_11 : z2.toInt < 2 := g5_lt (a := z2.toInt) (b := 2) rfl (by decide +kernel) c_11
        exact k_mggN2 G a_k a_h a_g a_gn a_p a_pn a_j a_as a_sk a_l a_pt a_b a_s a_w a_bb e_ln e_se e_lh e_br e_we (e_me ||| (1 <<< (k_n &&& 31))) e_ce e_wy e_ho e_ov e_le e_st e_fo e_lc e_wa e_gb e_g f_g e_p f_p z5 f_sk f_l k_r k_n z2 hx hb hml hown hts hK hN hT hA (hP.sub [4, 2, 5, 6, 0, 1, 7, 8, 9, 3] rfl) (hD.sub [4, 2, 5, 6, 0, 1, 7, 8, 9, 3] (by decide +kernel) rfl) hS (lv_sub hl [2, 3, 4, 5, 1, 0] rfl) ⟨by omega, by omega⟩ ⟨by omega, by omega⟩ ⟨by omega, by omega⟩ ⟨by omega, by omega⟩ ⟨by omega, by omega⟩ ⟨by omega, by omega⟩ ⟨by omega, by omega⟩ ⟨by omega, by omega⟩ ⟨by omega, by omega⟩ (e_gk) (e_pk) (e_f) (e_r) kk
      ·
        have i_11 : z2.toInt ≥ 2 := g5_ltN (a := z2.toInt) (b := 2) rfl (by decide +kernel) c_11
        refine lv_iload hx hb dX5_meetGlass_156 (lv_at hl 1 rfl) ?_
        refine lv_iconst (v := 2) hx hb dX5_meetGlass_158 (by decide +kernel) ?_
        refine lv_isub hx hb dX5_meetGlass_159 ?_
        have t_12 : (z2 - 2).toInt = z2.toInt - 2 := g5_isub (a := z2.toInt) (b := 2) (by rfl) (by decide +kernel) (by omega) (by omega)
        refine lv_aload_n hx hb dX5_meetGlass_160 rfl (lv_at hl 2 rfl) ?_
        refine W.eq (g2 := F0 m 161 ls [.ref a_k, .int (z2 - 2)]) rfl ?_
        refine va_get (D := G.1) (ci := 5) (v := .int e_wy) (C := RX5) (T := TX5) (N := 13) hx hb hts inG_X5 hown hK hP 4 rfl rfl 10 (by decide +kernel) (hts _ fl_X5_30) (fun _ h9 => h9) rfl dX5_meetGlass_161 ?_
        refine lv_iconst (v := 2) hx hb dX5_meetGlass_164 (by decide +kernel) ?_
        refine lv_ixor hx hb dX5_meetGlass_165 ?_
        have hx_13 := (g_xor (w := e_wy) (by omega) (by omega)).2
        refine lv_icmp_eq (tgt := 170) hx hb dX5_meetGlass_166 (by decide +kernel) (fun c_14 => ?_) (fun c_14 => ?_)
        ·
          have i_14 : (z2.toInt - 2) = (e_wy ^^^ 2).toInt := by have z := g5_eq (a := (z2 - 2).toInt) (b := (e_wy ^^^ 2).toInt) (by rfl) (by rfl) c_14; omega
          exact k_mggN2 G a_k a_h a_g a_gn a_p a_pn a_j a_as a_sk a_l a_pt a_b a_s a_w a_bb e_ln e_se e_lh e_br e_we (e_me ||| (1 <<< (k_n &&& 31))) e_ce e_wy e_ho e_ov e_le e_st e_fo e_lc e_wa e_gb e_g f_g e_p f_p z5 f_sk f_l k_r k_n z2 hx hb hml hown hts hK hN hT hA (hP.sub [4, 2, 5, 6, 0, 1, 7, 8, 9, 3] rfl) (hD.sub [4, 2, 5, 6, 0, 1, 7, 8, 9, 3] (by decide +kernel) rfl) hS (lv_sub hl [2, 3, 4, 5, 1, 0] rfl) ⟨by omega, by omega⟩ ⟨by omega, by omega⟩ ⟨by omega, by omega⟩ ⟨by omega, by omega⟩ ⟨by omega, by omega⟩ ⟨by omega, by omega⟩ ⟨by omega, by omega⟩ ⟨by omega, by omega⟩ ⟨by omega, by omega⟩ (e_gk) (e_pk) (e_f) (e_r) kk
        ·
          have n_14 : gNe ((z2.toInt - 2)) ((e_wy ^^^ 2).toInt) := by have z := g5_eqN (a := (z2 - 2).toInt) (b := (e_wy ^^^ 2).toInt) (by rfl) (by rfl) c_14; unfold gNe; omega
          exact kk 169 dX5_meetGlass_169 e_br e_we (e_me ||| (1 <<< (k_n &&& 31))) e_wy e_ho e_ov z5 f_sk ls H locs (hP.sub [4, 2, 5, 6, 0, 1, 7, 8, 9, 3] rfl) (hD.sub [4, 2, 5, 6, 0, 1, 7, 8, 9, 3] (by decide +kernel) rfl) hS (⟨by omega, by omega⟩) (⟨by omega, by omega⟩) (⟨by omega, by omega⟩) (⟨by omega, by omega⟩)
set_option maxHeartbeats 4000000 in
set_option maxRecDepth 100000 in
theorem k_mgpN4 {p : Program} {l : Launch} {e : Env} {s : State} {m : MethodId} {args : Array Value} {below : List Frame} {meth : Method} {c : Code} {Q : State → Prop} {A : Nat → Prop} {H : Heap} {locs : List Loc} {ls : Array Slot} (G : g5_G) (a_k a_h a_g a_gn a_p a_pn a_j a_as a_sk a_l a_pt a_b a_s a_w a_bb : Nat) (e_ln : Int32) (e_se : Int32) (e_lh : Int32) (e_br : Int32) (e_we : Int32) (e_me : Int32) (e_ce : Int32) (e_wy : Int32) (e_ho : Int32) (e_ov : Int32) (e_le : Int32) (e_st : Int32) (e_fo : Int32) (e_lc : Int32) (e_wa : Int64) (e_gb : Int64) (e_g : Int32) (f_g : Nat → Int32) (e_p : Int32) (f_p : Nat → Int32) (f_as : Nat → Int32) (f_sk : Nat → Int64) (f_l : Nat → Option Nat) (k_r : Int32) (k_n : Int32) (k_s : Int32) (k_l : Int32) (k_d : Int32) (hx : p.tables.exec = Jvm.exec) (hb : c.code = cX5_meetGlass) (hml : c.maxLocals = 9) (hown : s.vm.findClass RX5 = some m.cls) (hts : ∀ w ∈ tblG, w.before args s = true) (hK : va_K G.1 vwCl (T5 G) s) (hN : g5_N s) (hT : g5_S A s s.heap) (hA : ∀ q : Nat, s.heap.size ≤ q → A q) (hP : va_P G.1 vwCl [(a_k, (oc5 a_h a_j a_pt e_ln e_se e_lh e_br e_we e_me e_ce e_wy e_ho e_ov)), (a_h, (oc1 e_wa e_le e_st e_fo e_lc a_l a_g a_b a_s a_p a_w e_gb a_bb)), (a_g, (oc6 6 5 a_gn e_g)), (a_gn, (arI G 30 f_g)), (a_p, (oc6 8 5 a_pn e_p)), (a_pn, (arI G 40 f_p)), (a_j, (oc2 a_as a_sk)), (a_as, (arI G 8 f_as)), (a_sk, (arJ G 50 f_sk)), (a_l, (arW G 6 f_l))] H) (hD : va_D A [(a_k, (oc5 a_h a_j a_pt e_ln e_se e_lh e_br e_we e_me e_ce e_wy e_ho e_ov)), (a_h, (oc1 e_wa e_le e_st e_fo e_lc a_l a_g a_b a_s a_p a_w e_gb a_bb)), (a_g, (oc6 6 5 a_gn e_g)), (a_gn, (arI G 30 f_g)), (a_p, (oc6 8 5 a_pn e_p)), (a_pn, (arI G 40 f_p)), (a_j, (oc2 a_as a_sk)), (a_as, (arI G 8 f_as)), (a_sk, (arJ G 50 f_sk)), (a_l, (arW G 6 f_l))]) (hS : va_S A s.heap H locs) (hl : lv_has ls 9 [(0, .ref a_k), (2, .ref a_p), (3, .int k_r), (4, .int k_n), (5, .int k_s), (7, .int k_l), (8, .int k_d)]) (h_e_br : 0 ≤ e_br.toInt ∧ e_br.toInt ≤ 1000000) (h_e_ce : 0 ≤ e_ce.toInt ∧ e_ce.toInt ≤ 63) (h_e_wy : 0 ≤ e_wy.toInt ∧ e_wy.toInt ≤ 3) (h_e_ho : 0 ≤ e_ho.toInt ∧ e_ho.toInt ≤ 23) (h_e_ov : 0 ≤ e_ov.toInt ∧ e_ov.toInt ≤ 1) (h_e_g : 0 ≤ e_g.toInt ∧ e_g.toInt ≤ 6) (h_e_p : 0 ≤ e_p.toInt ∧ e_p.toInt ≤ 8) (h_k_r : 0 ≤ k_r.toInt ∧ k_r.toInt ≤ 7) (h_k_s : 0 ≤ k_s.toInt ∧ k_s.toInt ≤ 5) (h_k_l : 0 ≤ k_l.toInt ∧ k_l.toInt ≤ 23) (h_k_d : 0 ≤ k_d.toInt ∧ k_d.toInt ≤ 10) (e_lt : k_l.toInt ≤ e_ho.toInt) (kk : ∀ (pc1 : Nat), decode cX5_meetGlass pc1 = .ok (.return_, 1) → ∀ (o_b : Int32) (o_w : Int32) (o_m : Int32) (o_y : Int32) (o_h : Int32) (o_v : Int32) (o_a : Nat → Int32) (o_k : Nat → Int64) (ls : Array Slot) (H : Heap) (locs : List Loc), va_P G.1 vwCl [(a_k, (oc5 a_h a_j a_pt e_ln e_se e_lh o_b o_w o_m e_ce o_y o_h o_v)), (a_h, (oc1 e_wa e_le e_st e_fo e_lc a_l a_g a_b a_s a_p a_w e_gb a_bb)), (a_g, (oc6 6 5 a_gn e_g)), (a_gn, (arI G 30 f_g)), (a_p, (oc6 8 5 a_pn e_p)), (a_pn, (arI G 40 f_p)), (a_j, (oc2 a_as a_sk)), (a_as, (arI G 8 o_a)), (a_sk, (arJ G 50 o_k)), (a_l, (arW G 6 f_l))] H → va_D A [(a_k, (oc5 a_h a_j a_pt e_ln e_se e_lh o_b o_w o_m e_ce o_y o_h o_v)), (a_h, (oc1 e_wa e_le e_st e_fo e_lc a_l a_g a_b a_s a_p a_w e_gb a_bb)), (a_g, (oc6 6 5 a_gn e_g)), (a_gn, (arI G 30 f_g)), (a_p, (oc6 8 5 a_pn e_p)), (a_pn, (arI G 40 f_p)), (a_j, (oc2 a_as a_sk)), (a_as, (arI G 8 o_a)), (a_sk, (arJ G 50 o_k)), (a_l, (arW G 6 f_l))] → va_S A s.heap H locs → (0 ≤ o_b.toInt ∧ o_b.toInt ≤ 1000000) → (0 ≤ o_y.toInt ∧ o_y.toInt ≤ 3) → (0 ≤ o_h.toInt ∧ o_h.toInt ≤ 23) → (0 ≤ o_v.toInt ∧ o_v.toInt ≤ 1) → W p l e ({ frames := 12, cells := 0, slots := 0, locals := 500 } : Room) s m args below meth c H locs 0 0 Q (F0 m pc1 ls [])) : W p l e ({ frames := 12, cells := 0, slots := 0, locals := 500 } : Room) s m args below meth c H locs 0 0 Q (F0 m 246 ls []) := by
  refine lv_aload_n hx hb dX5_meetGlass_246 rfl (lv_at hl 0 rfl) ?_
  refine lv_aload_n hx hb dX5_meetGlass_247 rfl (lv_at hl 0 rfl) ?_
  refine va_get (D := G.1) (ci := 5) (v := .int e_br) (C := RX5) (T := TX5) (N := 13) hx hb hts inG_X5 hown hK hP 0 rfl rfl 6 (by decide +kernel) (hts _ fl_X5_46) (fun _ h9 => h9) rfl dX5_meetGlass_248 ?_
  refine lv_bipush (v := 10) hx hb dX5_meetGlass_251 (by decide +kernel) ?_
  refine W.eq (g2 := F0 m 253 ls [.int 10, .int e_br, .ref a_k]) rfl ?_
  refine lv_iload hx hb dX5_meetGlass_253 (lv_at hl 6 rfl) ?_
  refine lv_isub hx hb dX5_meetGlass_255 ?_
  have t_1 : (10 - k_d).toInt = 10 - k_d.toInt := g5_isub (a := 10) (b := k_d.toInt) (by decide +kernel) (by rfl) (by omega) (by omega)
  refine lv_imul hx hb dX5_meetGlass_256 ?_
  refine lv_bipush (v := 10) hx hb dX5_meetGlass_257 (by decide +kernel) ?_
  refine lv_idiv hx hb dX5_meetGlass_259 (by decide +kernel) ?_
  have hb_2 : 0 ≤ ((e_br * (10 - k_d)) / 10).toInt ∧ ((e_br * (10 - k_d)) / 10).toInt ≤ 1000000 := g_dust (by omega) (by omega)
  refine W.eq (g2 := F0 m 260 ls [.int ((e_br * (10 - k_d)) / 10), .ref a_k]) rfl ?_
  refine va_put (D := G.1) (ci := 5) (v := .int ((e_br * (10 - k_d)) / 10)) (ty := .int) (C := RX5) (T := TX5) (N := 13) hx hb hts inG_X5 tyX5 tyX5_ok nmX5 hown hK hP hD hS 0 rfl rfl 6 (by decide +kernel) (hts _ fl_X5_46) (fun _ h9 => h9) rfl (by decide +kernel) rfl rfl (Nat.le_of_ble_eq_true rfl) dX5_meetGlass_260 ?_
  clear hP hD hS
  intro H locs hP hD hS
  refine g5_rs [(a_k, (oc5 a_h a_j a_pt e_ln e_se e_lh ((e_br * (10 - k_d)) / 10) e_we e_me e_ce e_wy e_ho e_ov)), (a_h, (oc1 e_wa e_le e_st e_fo e_lc a_l a_g a_b a_s a_p a_w e_gb a_bb)), (a_g, (oc6 6 5 a_gn e_g)), (a_gn, (arI G 30 f_g)), (a_p, (oc6 8 5 a_pn e_p)), (a_pn, (arI G 40 f_p)), (a_j, (oc2 a_as a_sk)), (a_as, (arI G 8 f_as)), (a_sk, (arJ G 50 f_sk)), (a_l, (arW G 6 f_l))] hP hD ?_
  clear hP hD
  intro hP hD
  refine lv_aload_n hx hb dX5_meetGlass_263 rfl (lv_at hl 0 rfl) ?_
  refine va_get (D := G.1) (ci := 5) (v := .int ((e_br * (10 - k_d)) / 10)) (C := RX5) (T := TX5) (N := 13) hx hb hts inG_X5 hown hK hP 0 rfl rfl 6 (by decide +kernel) (hts _ fl_X5_46) (fun _ h9 => h9) rfl dX5_meetGlass_264 ?_
  refine lv_aload_n hx hb dX5_meetGlass_267 rfl (lv_at hl 0 rfl) ?_
  refine va_get (D := G.1) (ci := 5) (v := .ref a_h) (C := RX5) (T := TX5) (N := 13) hx hb hts inG_X5 hown hK hP 0 rfl rfl 0 (by decide +kernel) (hts _ fl_X5_22) (fun _ h9 => h9) rfl dX5_meetGlass_268 ?_
  refine W.eq (g2 := F0 m 271 ls [.ref a_h, .int ((e_br * (10 - k_d)) / 10)]) rfl ?_
  refine va_get (D := G.1) (ci := 1) (v := .int e_le) (C := RX1) (T := TX1) (N := 13) hx hb hts inG_X1 hown hK hP 1 rfl rfl 1 (by decide +kernel) (hts _ fl_X5_138) (fun _ h9 => h9) rfl dX5_meetGlass_271 ?_
  refine lv_icmp_ge (tgt := 278) hx hb dX5_meetGlass_274 (by decide +kernel) (fun c_3 => ?_) (fun c_3 => ?_)
  ·
    have i_3 : ((e_br * (10 - k_d)) / 10).toInt ≥ e_le.toInt := g5_ge (a := ((e_br * (10 - k_d)) / 10).toInt) (b := e_le.toInt) rfl rfl c_3
    refine lv_aload_n hx hb dX5_meetGlass_278 rfl (lv_at hl 0 rfl) ?_
    refine lv_dup hx hb dX5_meetGlass_279 rfl ?_
    refine va_get (D := G.1) (ci := 5) (v := .int e_ho) (C := RX5) (T := TX5) (N := 13) hx hb hts inG_X5 hown hK hP 0 rfl rfl 11 (by decide +kernel) (hts _ fl_X5_33) (fun _ h9 => h9) rfl dX5_meetGlass_280 ?_
    refine lv_iload hx hb dX5_meetGlass_283 (lv_at hl 5 rfl) ?_
    refine W.eq (g2 := F0 m 285 ls [.int k_l, .int e_ho, .ref a_k]) rfl ?_
    refine lv_isub hx hb dX5_meetGlass_285 ?_
    have t_4 : (e_ho - k_l).toInt = e_ho.toInt - k_l.toInt := g5_isub (a := e_ho.toInt) (b := k_l.toInt) (by rfl) (by rfl) (by omega) (by omega)
    refine va_put (D := G.1) (ci := 5) (v := .int (e_ho - k_l)) (ty := .int) (C := RX5) (T := TX5) (N := 13) hx hb hts inG_X5 tyX5 tyX5_ok nmX5 hown hK hP hD hS 0 rfl rfl 11 (by decide +kernel) (hts _ fl_X5_33) (fun _ h9 => h9) rfl (by decide +kernel) rfl rfl (Nat.le_of_ble_eq_true rfl) dX5_meetGlass_286 ?_
    clear hP hD hS
    intro H locs hP hD hS
    refine g5_rs [(a_k, (oc5 a_h a_j a_pt e_ln e_se e_lh ((e_br * (10 - k_d)) / 10) e_we e_me e_ce e_wy (e_ho - k_l) e_ov)), (a_h, (oc1 e_wa e_le e_st e_fo e_lc a_l a_g a_b a_s a_p a_w e_gb a_bb)), (a_g, (oc6 6 5 a_gn e_g)), (a_gn, (arI G 30 f_g)), (a_p, (oc6 8 5 a_pn e_p)), (a_pn, (arI G 40 f_p)), (a_j, (oc2 a_as a_sk)), (a_as, (arI G 8 f_as)), (a_sk, (arJ G 50 f_sk)), (a_l, (arW G 6 f_l))] hP hD ?_
    clear hP hD
    intro hP hD
    refine lv_aload_n hx hb dX5_meetGlass_289 rfl (lv_at hl 0 rfl) ?_
    refine lv_iload hx hb dX5_meetGlass_290 (lv_at hl 4 rfl) ?_
    refine lv_if_ne (tgt := 304) hx hb dX5_meetGlass_292 (by decide +kernel) (fun c_5 => ?_) (fun c_5 => ?_)
    ·
      have n_5 : gNe (k_s.toInt) (0) := g5_ne (a := k_s.toInt) (b := 0) rfl (by decide +kernel) c_5
      have i_5 : k_s.toInt ≥ 1 := by have z := g5_ne (a := k_s.toInt) (b := 0) (by rfl) (by decide +kernel) c_5; omega
      refine lv_iload hx hb dX5_meetGlass_304 (lv_at hl 4 rfl) ?_
      refine lv_iconst (v := 1) hx hb dX5_meetGlass_306 (by decide +kernel) ?_
      refine lv_icmp_ne (tgt := 319) hx hb dX5_meetGlass_307 (by decide +kernel) (fun c_6 => ?_) (fun c_6 => ?_)
      ·
        have n_6 : gNe (k_s.toInt) (1) := g5_ne (a := k_s.toInt) (b := 1) rfl (by decide +kernel) c_6
        have i_6 : k_s.toInt ≥ 2 := by have z := g5_ne (a := k_s.toInt) (b := 1) (by rfl) (by decide +kernel) c_6; omega
        refine lv_aload_n hx hb dX5_meetGlass_319 rfl (lv_at hl 0 rfl) ?_
        refine va_get (D := G.1) (ci := 5) (v := .int e_wy) (C := RX5) (T := TX5) (N := 13) hx hb hts inG_X5 hown hK hP 0 rfl rfl 10 (by decide +kernel) (hts _ fl_X5_30) (fun _ h9 => h9) rfl dX5_meetGlass_320 ?_
        refine lv_iconst (v := 2) hx hb dX5_meetGlass_323 (by decide +kernel) ?_
        refine lv_ixor hx hb dX5_meetGlass_324 ?_
        have hx_7 := (g_xor (w := e_wy) (by omega) (by omega)).2
        refine W.eq (g2 := F0 m 325 ls [.int (e_wy ^^^ 2), .ref a_k]) rfl ?_
        refine va_put (D := G.1) (ci := 5) (v := .int (e_wy ^^^ 2)) (ty := .int) (C := RX5) (T := TX5) (N := 13) hx hb hts inG_X5 tyX5 tyX5_ok nmX5 hown hK hP hD hS 0 rfl rfl 10 (by decide +kernel) (hts _ fl_X5_30) (fun _ h9 => h9) rfl (by decide +kernel) rfl rfl (Nat.le_of_ble_eq_true rfl) dX5_meetGlass_325 ?_
        clear hP hD hS
        intro H locs hP hD hS
        refine g5_rs [(a_k, (oc5 a_h a_j a_pt e_ln e_se e_lh ((e_br * (10 - k_d)) / 10) e_we e_me e_ce (e_wy ^^^ 2) (e_ho - k_l) e_ov)), (a_h, (oc1 e_wa e_le e_st e_fo e_lc a_l a_g a_b a_s a_p a_w e_gb a_bb)), (a_g, (oc6 6 5 a_gn e_g)), (a_gn, (arI G 30 f_g)), (a_p, (oc6 8 5 a_pn e_p)), (a_pn, (arI G 40 f_p)), (a_j, (oc2 a_as a_sk)), (a_as, (arI G 8 f_as)), (a_sk, (arJ G 50 f_sk)), (a_l, (arW G 6 f_l))] hP hD ?_
        clear hP hD
        intro hP hD
        refine lv_aload_n hx hb dX5_meetGlass_328 rfl (lv_at hl 0 rfl) ?_
        refine lv_dup hx hb dX5_meetGlass_329 rfl ?_
        refine va_get (D := G.1) (ci := 5) (v := .int e_we) (C := RX5) (T := TX5) (N := 13) hx hb hts inG_X5 hown hK hP 0 rfl rfl 7 (by decide +kernel) (hts _ fl_X5_49) (fun _ h9 => h9) rfl dX5_meetGlass_330 ?_
        refine lv_iconst (v := 1) hx hb dX5_meetGlass_333 (by decide +kernel) ?_
        refine W.eq (g2 := F0 m 334 ls [.int 1, .int e_we, .ref a_k]) rfl ?_
        refine lv_iload hx hb dX5_meetGlass_334 (lv_at hl 3 rfl) ?_
        refine lv_ishl hx hb dX5_meetGlass_336 ?_
        refine lv_ior hx hb dX5_meetGlass_337 ?_
        refine va_put (D := G.1) (ci := 5) (v := .int (e_we ||| (1 <<< (k_n &&& 31)))) (ty := .int) (C := RX5) (T := TX5) (N := 13) hx hb hts inG_X5 tyX5 tyX5_ok nmX5 hown hK hP hD hS 0 rfl rfl 7 (by decide +kernel) (hts _ fl_X5_49) (fun _ h9 => h9) rfl (by decide +kernel) rfl rfl (Nat.le_of_ble_eq_true rfl) dX5_meetGlass_338 ?_
        clear hP hD hS
        intro H locs hP hD hS
        refine g5_rs [(a_k, (oc5 a_h a_j a_pt e_ln e_se e_lh ((e_br * (10 - k_d)) / 10) (e_we ||| (1 <<< (k_n &&& 31))) e_me e_ce (e_wy ^^^ 2) (e_ho - k_l) e_ov)), (a_h, (oc1 e_wa e_le e_st e_fo e_lc a_l a_g a_b a_s a_p a_w e_gb a_bb)), (a_g, (oc6 6 5 a_gn e_g)), (a_gn, (arI G 30 f_g)), (a_p, (oc6 8 5 a_pn e_p)), (a_pn, (arI G 40 f_p)), (a_j, (oc2 a_as a_sk)), (a_as, (arI G 8 f_as)), (a_sk, (arJ G 50 f_sk)), (a_l, (arW G 6 f_l))] hP hD ?_
        clear hP hD
        intro hP hD
        refine lv_aload_n hx hb dX5_meetGlass_341 rfl (lv_at hl 0 rfl) ?_
        refine W.eq (g2 := F0 m 342 ls [.ref a_k]) rfl ?_
        refine lv_iconst (v := 0) hx hb dX5_meetGlass_342 (by decide +kernel) ?_
        refine va_put (D := G.1) (ci := 5) (v := .int 0) (ty := .boolean) (C := RX5) (T := TX5) (N := 13) hx hb hts inG_X5 tyX5 tyX5_ok nmX5 hown hK hP hD hS 0 rfl rfl 12 (by decide +kernel) (hts _ fl_X5_56) (fun _ h9 => h9) rfl (by decide +kernel) rfl rfl (Nat.le_of_ble_eq_true rfl) dX5_meetGlass_343 ?_
        clear hP hD hS
        intro H locs hP hD hS
        refine g5_rs [(a_k, (oc5 a_h a_j a_pt e_ln e_se e_lh ((e_br * (10 - k_d)) / 10) (e_we ||| (1 <<< (k_n &&& 31))) e_me e_ce (e_wy ^^^ 2) (e_ho - k_l) 0)), (a_h, (oc1 e_wa e_le e_st e_fo e_lc a_l a_g a_b a_s a_p a_w e_gb a_bb)), (a_g, (oc6 6 5 a_gn e_g)), (a_gn, (arI G 30 f_g)), (a_p, (oc6 8 5 a_pn e_p)), (a_pn, (arI G 40 f_p)), (a_j, (oc2 a_as a_sk)), (a_as, (arI G 8 f_as)), (a_sk, (arJ G 50 f_sk)), (a_l, (arW G 6 f_l))] hP hD ?_
        clear hP hD
        intro hP hD
        exact kk 346 dX5_meetGlass_346 ((e_br * (10 - k_d)) / 10) (e_we ||| (1 <<< (k_n &&& 31))) e_me (e_wy ^^^ 2) (e_ho - k_l) 0 f_as f_sk ls H locs (hP.sub [0, 1, 2, 3, 4, 5, 6, 7, 8, 9] rfl) (hD.sub [0, 1, 2, 3, 4, 5, 6, 7, 8, 9] (by decide +kernel) rfl) hS (⟨by omega, by omega⟩) (⟨by omega, by omega⟩) (⟨by omega, by omega⟩) (⟨by have zc_o_v : (0 : Int32).toInt = 0 := (by decide +kernel); omega, by have zc_o_v : (0 : Int32).toInt = 0 := (by decide +kernel); omega⟩)
      ·
        have i_6 : k_s.toInt = 1 := g5_neN (a := k_s.toInt) (b := 1) rfl (by decide +kernel) c_6
        refine lv_iconst (v := 3) hx hb dX5_meetGlass_310 (by decide +kernel) ?_
        refine lv_aload_n hx hb dX5_meetGlass_311 rfl (lv_at hl 0 rfl) ?_
        refine va_get (D := G.1) (ci := 5) (v := .int e_wy) (C := RX5) (T := TX5) (N := 13) hx hb hts inG_X5 hown hK hP 0 rfl rfl 10 (by decide +kernel) (hts _ fl_X5_30) (fun _ h9 => h9) rfl dX5_meetGlass_312 ?_
        refine lv_isub hx hb dX5_meetGlass_315 ?_
        have t_8 : (3 - e_wy).toInt = 3 - e_wy.toInt := g5_isub (a := 3) (b := e_wy.toInt) (by decide +kernel) (by rfl) (by omega) (by omega)
        refine W.eq (g2 := F0 m 316 ls [.int (3 - e_wy), .ref a_k]) rfl ?_
        refine lv_goto (tgt := 325) hx hb dX5_meetGlass_316 (by decide +kernel) ?_
        refine va_put (D := G.1) (ci := 5) (v := .int (3 - e_wy)) (ty := .int) (C := RX5) (T := TX5) (N := 13) hx hb hts inG_X5 tyX5 tyX5_ok nmX5 hown hK hP hD hS 0 rfl rfl 10 (by decide +kernel) (hts _ fl_X5_30) (fun _ h9 => h9) rfl (by decide +kernel) rfl rfl (Nat.le_of_ble_eq_true rfl) dX5_meetGlass_325 ?_
        clear hP hD hS
        intro H locs hP hD hS
        refine g5_rs [(a_k, (oc5 a_h a_j a_pt e_ln e_se e_lh ((e_br * (10 - k_d)) / 10) e_we e_me e_ce (3 - e_wy) (e_ho - k_l) e_ov)), (a_h, (oc1 e_wa e_le e_st e_fo e_lc a_l a_g a_b a_s a_p a_w e_gb a_bb)), (a_g, (oc6 6 5 a_gn e_g)), (a_gn, (arI G 30 f_g)), (a_p, (oc6 8 5 a_pn e_p)), (a_pn, (arI G 40 f_p)), (a_j, (oc2 a_as a_sk)), (a_as, (arI G 8 f_as)), (a_sk, (arJ G 50 f_sk)), (a_l, (arW G 6 f_l))] hP hD ?_
        clear hP hD
        intro hP hD
        refine lv_aload_n hx hb dX5_meetGlass_328 rfl (lv_at hl 0 rfl) ?_
        refine lv_dup hx hb dX5_meetGlass_329 rfl ?_
        refine va_get (D := G.1) (ci := 5) (v := .int e_we) (C := RX5) (T := TX5) (N := 13) hx hb hts inG_X5 hown hK hP 0 rfl rfl 7 (by decide +kernel) (hts _ fl_X5_49) (fun _ h9 => h9) rfl dX5_meetGlass_330 ?_
        refine W.eq (g2 := F0 m 333 ls [.int e_we, .ref a_k]) rfl ?_
        refine lv_iconst (v := 1) hx hb dX5_meetGlass_333 (by decide +kernel) ?_
        refine lv_iload hx hb dX5_meetGlass_334 (lv_at hl 3 rfl) ?_
        refine lv_ishl hx hb dX5_meetGlass_336 ?_
        refine lv_ior hx hb dX5_meetGlass_337 ?_
        refine va_put (D := G.1) (ci := 5) (v := .int (e_we ||| (1 <<< (k_n &&& 31)))) (ty := .int) (C := RX5) (T := TX5) (N := 13) hx hb hts inG_X5 tyX5 tyX5_ok nmX5 hown hK hP hD hS 0 rfl rfl 7 (by decide +kernel) (hts _ fl_X5_49) (fun _ h9 => h9) rfl (by decide +kernel) rfl rfl (Nat.le_of_ble_eq_true rfl) dX5_meetGlass_338 ?_
        clear hP hD hS
        intro H locs hP hD hS
        refine g5_rs [(a_k, (oc5 a_h a_j a_pt e_ln e_se e_lh ((e_br * (10 - k_d)) / 10) (e_we ||| (1 <<< (k_n &&& 31))) e_me e_ce (3 - e_wy) (e_ho - k_l) e_ov)), (a_h, (oc1 e_wa e_le e_st e_fo e_lc a_l a_g a_b a_s a_p a_w e_gb a_bb)), (a_g, (oc6 6 5 a_gn e_g)), (a_gn, (arI G 30 f_g)), (a_p, (oc6 8 5 a_pn e_p)), (a_pn, (arI G 40 f_p)), (a_j, (oc2 a_as a_sk)), (a_as, (arI G 8 f_as)), (a_sk, (arJ G 50 f_sk)), (a_l, (arW G 6 f_l))] hP hD ?_
        clear hP hD
        intro hP hD
        refine W.eq (g2 := F0 m 341 ls []) rfl ?_
        refine lv_aload_n hx hb dX5_meetGlass_341 rfl (lv_at hl 0 rfl) ?_
        refine lv_iconst (v := 0) hx hb dX5_meetGlass_342 (by decide +kernel) ?_
        refine va_put (D := G.1) (ci := 5) (v := .int 0) (ty := .boolean) (C := RX5) (T := TX5) (N := 13) hx hb hts inG_X5 tyX5 tyX5_ok nmX5 hown hK hP hD hS 0 rfl rfl 12 (by decide +kernel) (hts _ fl_X5_56) (fun _ h9 => h9) rfl (by decide +kernel) rfl rfl (Nat.le_of_ble_eq_true rfl) dX5_meetGlass_343 ?_
        clear hP hD hS
        intro H locs hP hD hS
        refine g5_rs [(a_k, (oc5 a_h a_j a_pt e_ln e_se e_lh ((e_br * (10 - k_d)) / 10) (e_we ||| (1 <<< (k_n &&& 31))) e_me e_ce (3 - e_wy) (e_ho - k_l) 0)), (a_h, (oc1 e_wa e_le e_st e_fo e_lc a_l a_g a_b a_s a_p a_w e_gb a_bb)), (a_g, (oc6 6 5 a_gn e_g)), (a_gn, (arI G 30 f_g)), (a_p, (oc6 8 5 a_pn e_p)), (a_pn, (arI G 40 f_p)), (a_j, (oc2 a_as a_sk)), (a_as, (arI G 8 f_as)), (a_sk, (arJ G 50 f_sk)), (a_l, (arW G 6 f_l))] hP hD ?_
        clear hP hD
        intro hP hD
        exact kk 346 dX5_meetGlass_346 ((e_br * (10 - k_d)) / 10) (e_we ||| (1 <<< (k_n &&& 31))) e_me (3 - e_wy) (e_ho - k_l) 0 f_as f_sk ls H locs (hP.sub [0, 1, 2, 3, 4, 5, 6, 7, 8, 9] rfl) (hD.sub [0, 1, 2, 3, 4, 5, 6, 7, 8, 9] (by decide +kernel) rfl) hS (⟨by omega, by omega⟩) (⟨by omega, by omega⟩) (⟨by omega, by omega⟩) (⟨by have zc_o_v : (0 : Int32).toInt = 0 := (by decide +kernel); omega, by have zc_o_v : (0 : Int32).toInt = 0 := (by decide +kernel); omega⟩)
    ·
      have i_5 : k_s.toInt = 0 := g5_neN (a := k_s.toInt) (b := 0) rfl (by decide +kernel) c_5
      refine lv_aload_n hx hb dX5_meetGlass_295 rfl (lv_at hl 0 rfl) ?_
      refine va_get (D := G.1) (ci := 5) (v := .int e_wy) (C := RX5) (T := TX5) (N := 13) hx hb hts inG_X5 hown hK hP 0 rfl rfl 10 (by decide +kernel) (hts _ fl_X5_30) (fun _ h9 => h9) rfl dX5_meetGlass_296 ?_
      refine lv_iconst (v := 1) hx hb dX5_meetGlass_299 (by decide +kernel) ?_
      refine lv_ixor hx hb dX5_meetGlass_300 ?_
      have hx_9 := (g_xor (w := e_wy) (by omega) (by omega)).1
      refine W.eq (g2 := F0 m 301 ls [.int (e_wy ^^^ 1), .ref a_k]) rfl ?_
      refine lv_goto (tgt := 325) hx hb dX5_meetGlass_301 (by decide +kernel) ?_
      refine va_put (D := G.1) (ci := 5) (v := .int (e_wy ^^^ 1)) (ty := .int) (C := RX5) (T := TX5) (N := 13) hx hb hts inG_X5 tyX5 tyX5_ok nmX5 hown hK hP hD hS 0 rfl rfl 10 (by decide +kernel) (hts _ fl_X5_30) (fun _ h9 => h9) rfl (by decide +kernel) rfl rfl (Nat.le_of_ble_eq_true rfl) dX5_meetGlass_325 ?_
      clear hP hD hS
      intro H locs hP hD hS
      refine g5_rs [(a_k, (oc5 a_h a_j a_pt e_ln e_se e_lh ((e_br * (10 - k_d)) / 10) e_we e_me e_ce (e_wy ^^^ 1) (e_ho - k_l) e_ov)), (a_h, (oc1 e_wa e_le e_st e_fo e_lc a_l a_g a_b a_s a_p a_w e_gb a_bb)), (a_g, (oc6 6 5 a_gn e_g)), (a_gn, (arI G 30 f_g)), (a_p, (oc6 8 5 a_pn e_p)), (a_pn, (arI G 40 f_p)), (a_j, (oc2 a_as a_sk)), (a_as, (arI G 8 f_as)), (a_sk, (arJ G 50 f_sk)), (a_l, (arW G 6 f_l))] hP hD ?_
      clear hP hD
      intro hP hD
      refine lv_aload_n hx hb dX5_meetGlass_328 rfl (lv_at hl 0 rfl) ?_
      refine lv_dup hx hb dX5_meetGlass_329 rfl ?_
      refine va_get (D := G.1) (ci := 5) (v := .int e_we) (C := RX5) (T := TX5) (N := 13) hx hb hts inG_X5 hown hK hP 0 rfl rfl 7 (by decide +kernel) (hts _ fl_X5_49) (fun _ h9 => h9) rfl dX5_meetGlass_330 ?_
      refine W.eq (g2 := F0 m 333 ls [.int e_we, .ref a_k]) rfl ?_
      refine lv_iconst (v := 1) hx hb dX5_meetGlass_333 (by decide +kernel) ?_
      refine lv_iload hx hb dX5_meetGlass_334 (lv_at hl 3 rfl) ?_
      refine lv_ishl hx hb dX5_meetGlass_336 ?_
      refine lv_ior hx hb dX5_meetGlass_337 ?_
      refine va_put (D := G.1) (ci := 5) (v := .int (e_we ||| (1 <<< (k_n &&& 31)))) (ty := .int) (C := RX5) (T := TX5) (N := 13) hx hb hts inG_X5 tyX5 tyX5_ok nmX5 hown hK hP hD hS 0 rfl rfl 7 (by decide +kernel) (hts _ fl_X5_49) (fun _ h9 => h9) rfl (by decide +kernel) rfl rfl (Nat.le_of_ble_eq_true rfl) dX5_meetGlass_338 ?_
      clear hP hD hS
      intro H locs hP hD hS
      refine g5_rs [(a_k, (oc5 a_h a_j a_pt e_ln e_se e_lh ((e_br * (10 - k_d)) / 10) (e_we ||| (1 <<< (k_n &&& 31))) e_me e_ce (e_wy ^^^ 1) (e_ho - k_l) e_ov)), (a_h, (oc1 e_wa e_le e_st e_fo e_lc a_l a_g a_b a_s a_p a_w e_gb a_bb)), (a_g, (oc6 6 5 a_gn e_g)), (a_gn, (arI G 30 f_g)), (a_p, (oc6 8 5 a_pn e_p)), (a_pn, (arI G 40 f_p)), (a_j, (oc2 a_as a_sk)), (a_as, (arI G 8 f_as)), (a_sk, (arJ G 50 f_sk)), (a_l, (arW G 6 f_l))] hP hD ?_
      clear hP hD
      intro hP hD
      refine W.eq (g2 := F0 m 341 ls []) rfl ?_
      refine lv_aload_n hx hb dX5_meetGlass_341 rfl (lv_at hl 0 rfl) ?_
      refine lv_iconst (v := 0) hx hb dX5_meetGlass_342 (by decide +kernel) ?_
      refine va_put (D := G.1) (ci := 5) (v := .int 0) (ty := .boolean) (C := RX5) (T := TX5) (N := 13) hx hb hts inG_X5 tyX5 tyX5_ok nmX5 hown hK hP hD hS 0 rfl rfl 12 (by decide +kernel) (hts _ fl_X5_56) (fun _ h9 => h9) rfl (by decide +kernel) rfl rfl (Nat.le_of_ble_eq_true rfl) dX5_meetGlass_343 ?_
      clear hP hD hS
      intro H locs hP hD hS
      refine g5_rs [(a_k, (oc5 a_h a_j a_pt e_ln e_se e_lh ((e_br * (10 - k_d)) / 10) (e_we ||| (1 <<< (k_n &&& 31))) e_me e_ce (e_wy ^^^ 1) (e_ho - k_l) 0)), (a_h, (oc1 e_wa e_le e_st e_fo e_lc a_l a_g a_b a_s a_p a_w e_gb a_bb)), (a_g, (oc6 6 5 a_gn e_g)), (a_gn, (arI G 30 f_g)), (a_p, (oc6 8 5 a_pn e_p)), (a_pn, (arI G 40 f_p)), (a_j, (oc2 a_as a_sk)), (a_as, (arI G 8 f_as)), (a_sk, (arJ G 50 f_sk)), (a_l, (arW G 6 f_l))] hP hD ?_
      clear hP hD
      intro hP hD
      exact kk 346 dX5_meetGlass_346 ((e_br * (10 - k_d)) / 10) (e_we ||| (1 <<< (k_n &&& 31))) e_me (e_wy ^^^ 1) (e_ho - k_l) 0 f_as f_sk ls H locs (hP.sub [0, 1, 2, 3, 4, 5, 6, 7, 8, 9] rfl) (hD.sub [0, 1, 2, 3, 4, 5, 6, 7, 8, 9] (by decide +kernel) rfl) hS (⟨by omega, by omega⟩) (⟨by omega, by omega⟩) (⟨by omega, by omega⟩) (⟨by have zc_o_v : (0 : Int32).toInt = 0 := (by decide +kernel); omega, by have zc_o_v : (0 : Int32).toInt = 0 := (by decide +kernel); omega⟩)
  ·
    have i_3 : ((e_br * (10 - k_d)) / 10).toInt < e_le.toInt := g5_geN (a := ((e_br * (10 - k_d)) / 10).toInt) (b := e_le.toInt) rfl rfl c_3
    exact kk 277 dX5_meetGlass_277 ((e_br * (10 - k_d)) / 10) e_we e_me e_wy e_ho e_ov f_as f_sk ls H locs (hP.sub [0, 1, 2, 3, 4, 5, 6, 7, 8, 9] rfl) (hD.sub [0, 1, 2, 3, 4, 5, 6, 7, 8, 9] (by decide +kernel) rfl) hS (⟨by omega, by omega⟩) (⟨by omega, by omega⟩) (⟨by omega, by omega⟩) (⟨by omega, by omega⟩)
set_option maxHeartbeats 4000000 in
set_option maxRecDepth 100000 in
theorem k_mgpN3 {p : Program} {l : Launch} {e : Env} {s : State} {m : MethodId} {args : Array Value} {below : List Frame} {meth : Method} {c : Code} {Q : State → Prop} {A : Nat → Prop} {H : Heap} {locs : List Loc} {ls : Array Slot} (G : g5_G) (a_k a_h a_g a_gn a_p a_pn a_j a_as a_sk a_l a_pt a_b a_s a_w a_bb : Nat) (e_ln : Int32) (e_se : Int32) (e_lh : Int32) (e_br : Int32) (e_we : Int32) (e_me : Int32) (e_ce : Int32) (e_wy : Int32) (e_ho : Int32) (e_ov : Int32) (e_le : Int32) (e_st : Int32) (e_fo : Int32) (e_lc : Int32) (e_wa : Int64) (e_gb : Int64) (e_g : Int32) (f_g : Nat → Int32) (e_p : Int32) (f_p : Nat → Int32) (f_as : Nat → Int32) (f_sk : Nat → Int64) (f_l : Nat → Option Nat) (k_r : Int32) (k_n : Int32) (k_s : Int32) (k_l : Int32) (hx : p.tables.exec = Jvm.exec) (hb : c.code = cX5_meetGlass) (hml : c.maxLocals = 9) (hown : s.vm.findClass RX5 = some m.cls) (hts : ∀ w ∈ tblG, w.before args s = true) (hK : va_K G.1 vwCl (T5 G) s) (hN : g5_N s) (hT : g5_S A s s.heap) (hA : ∀ q : Nat, s.heap.size ≤ q → A q) (hP : va_P G.1 vwCl [(a_k, (oc5 a_h a_j a_pt e_ln e_se e_lh e_br e_we e_me e_ce e_wy e_ho e_ov)), (a_h, (oc1 e_wa e_le e_st e_fo e_lc a_l a_g a_b a_s a_p a_w e_gb a_bb)), (a_g, (oc6 6 5 a_gn e_g)), (a_gn, (arI G 30 f_g)), (a_p, (oc6 8 5 a_pn e_p)), (a_pn, (arI G 40 f_p)), (a_j, (oc2 a_as a_sk)), (a_as, (arI G 8 f_as)), (a_sk, (arJ G 50 f_sk)), (a_l, (arW G 6 f_l))] H) (hD : va_D A [(a_k, (oc5 a_h a_j a_pt e_ln e_se e_lh e_br e_we e_me e_ce e_wy e_ho e_ov)), (a_h, (oc1 e_wa e_le e_st e_fo e_lc a_l a_g a_b a_s a_p a_w e_gb a_bb)), (a_g, (oc6 6 5 a_gn e_g)), (a_gn, (arI G 30 f_g)), (a_p, (oc6 8 5 a_pn e_p)), (a_pn, (arI G 40 f_p)), (a_j, (oc2 a_as a_sk)), (a_as, (arI G 8 f_as)), (a_sk, (arJ G 50 f_sk)), (a_l, (arW G 6 f_l))]) (hS : va_S A s.heap H locs) (hl : lv_has ls 9 [(0, .ref a_k), (2, .ref a_p), (3, .int k_r), (4, .int k_n), (5, .int k_s), (6, .null), (7, .int k_l)]) (h_e_br : 0 ≤ e_br.toInt ∧ e_br.toInt ≤ 1000000) (h_e_ce : 0 ≤ e_ce.toInt ∧ e_ce.toInt ≤ 63) (h_e_wy : 0 ≤ e_wy.toInt ∧ e_wy.toInt ≤ 3) (h_e_ho : 0 ≤ e_ho.toInt ∧ e_ho.toInt ≤ 23) (h_e_ov : 0 ≤ e_ov.toInt ∧ e_ov.toInt ≤ 1) (h_e_g : 0 ≤ e_g.toInt ∧ e_g.toInt ≤ 6) (h_e_p : 0 ≤ e_p.toInt ∧ e_p.toInt ≤ 8) (h_k_r : 0 ≤ k_r.toInt ∧ k_r.toInt ≤ 7) (h_k_s : 0 ≤ k_s.toInt ∧ k_s.toInt ≤ 5) (h_k_l : 0 ≤ k_l.toInt ∧ k_l.toInt ≤ 23) (e_gk : gOK f_g e_g.toInt) (e_pk : gOK f_p e_p.toInt) (e_f : e_fo.toInt < 0 ∨ e_lc.toInt ≤ e_fo.toInt) (e_r : k_r.toInt < e_p.toInt) (kk : ∀ (pc1 : Nat), decode cX5_meetGlass pc1 = .ok (.return_, 1) → ∀ (o_b : Int32) (o_w : Int32) (o_m : Int32) (o_y : Int32) (o_h : Int32) (o_v : Int32) (o_a : Nat → Int32) (o_k : Nat → Int64) (ls : Array Slot) (H : Heap) (locs : List Loc), va_P G.1 vwCl [(a_k, (oc5 a_h a_j a_pt e_ln e_se e_lh o_b o_w o_m e_ce o_y o_h o_v)), (a_h, (oc1 e_wa e_le e_st e_fo e_lc a_l a_g a_b a_s a_p a_w e_gb a_bb)), (a_g, (oc6 6 5 a_gn e_g)), (a_gn, (arI G 30 f_g)), (a_p, (oc6 8 5 a_pn e_p)), (a_pn, (arI G 40 f_p)), (a_j, (oc2 a_as a_sk)), (a_as, (arI G 8 o_a)), (a_sk, (arJ G 50 o_k)), (a_l, (arW G 6 f_l))] H → va_D A [(a_k, (oc5 a_h a_j a_pt e_ln e_se e_lh o_b o_w o_m e_ce o_y o_h o_v)), (a_h, (oc1 e_wa e_le e_st e_fo e_lc a_l a_g a_b a_s a_p a_w e_gb a_bb)), (a_g, (oc6 6 5 a_gn e_g)), (a_gn, (arI G 30 f_g)), (a_p, (oc6 8 5 a_pn e_p)), (a_pn, (arI G 40 f_p)), (a_j, (oc2 a_as a_sk)), (a_as, (arI G 8 o_a)), (a_sk, (arJ G 50 o_k)), (a_l, (arW G 6 f_l))] → va_S A s.heap H locs → (0 ≤ o_b.toInt ∧ o_b.toInt ≤ 1000000) → (0 ≤ o_y.toInt ∧ o_y.toInt ≤ 3) → (0 ≤ o_h.toInt ∧ o_h.toInt ≤ 23) → (0 ≤ o_v.toInt ∧ o_v.toInt ≤ 1) → W p l e ({ frames := 12, cells := 0, slots := 0, locals := 500 } : Room) s m args below meth c H locs 0 0 Q (F0 m pc1 ls [])) : W p l e ({ frames := 12, cells := 0, slots := 0, locals := 500 } : Room) s m args below meth c H locs 0 0 Q (F0 m 203 ls []) := by
  refine lv_iload hx hb dX5_meetGlass_203 (lv_at hl 6 rfl) ?_
  refine lv_aload_n hx hb dX5_meetGlass_205 rfl (lv_at hl 0 rfl) ?_
  refine va_get (D := G.1) (ci := 5) (v := .int e_ho) (C := RX5) (T := TX5) (N := 13) hx hb hts inG_X5 hown hK hP 0 rfl rfl 11 (by decide +kernel) (hts _ fl_X5_33) (fun _ h9 => h9) rfl dX5_meetGlass_206 ?_
  refine lv_icmp_le (tgt := 213) hx hb dX5_meetGlass_209 (by decide +kernel) (fun c_1 => ?_) (fun c_1 => ?_)
  ·
    have i_1 : k_l.toInt ≤ e_ho.toInt := g5_le (a := k_l.toInt) (b := e_ho.toInt) rfl rfl c_1
    refine lv_aload_n hx hb dX5_meetGlass_213 rfl (lv_at hl 0 rfl) ?_
    refine va_get (D := G.1) (ci := 5) (v := .ref a_j) (C := RX5) (T := TX5) (N := 13) hx hb hts inG_X5 hown hK hP 0 rfl rfl 1 (by decide +kernel) (hts _ fl_X5_12) (fun _ h9 => h9) rfl dX5_meetGlass_214 ?_
    refine lv_aloadN hx hb dX5_meetGlass_217 (lv_at hl 5 rfl) ?_
    refine lv_iconst (v := 1) hx hb dX5_meetGlass_219 (by decide +kernel) ?_
    refine W.eq (g2 := F0 m 220 ls [.int 1, .null, .ref a_j]) rfl ?_
    obtain ⟨hPc, hDc, hFc⟩ := g5_sub3 (wc := [(a_j, (oc2 a_as a_sk)), (a_as, (arI G 8 f_as)), (a_sk, (arJ G 50 f_sk))]) hP hD hS hA [6, 7, 8] (by decide +kernel) rfl
    refine va_calli (va_runV (As := [.null, .int 1]) (rest := []) ⟨hx, hb, hml, hown, hts⟩ (j_isHeldN l G a_j a_as a_sk H.size 1 f_as f_sk) (cwV 2 hts gV_X5_124 rfl rfl rfl hv_X2_isHeld ⟨Nat.le_of_ble_eq_true rfl, Nat.le_of_ble_eq_true rfl⟩) (g5_preV hPc hK hDc hN hT hS hFc (ci := 2) (q0 := 0) rfl rfl) rfl rfl hl.1 rfl (lv_room (Nat.le_of_ble_eq_true rfl)) dX5_meetGlass_220 ⟨Nat.le_of_ble_eq_true rfl, Nat.le_of_ble_eq_true rfl⟩) hS (fun q _ h => hFc q h) hFc (fun r u t H locs ht hvm hw hB hz1 hk1 hS => ?_)
    obtain ⟨hP1, hD1⟩ := hB
    have hP1 := g5_ht ht hP1
    obtain ⟨rfl, rfl⟩ := hw
    have hJ9 := va_join (wr := [(a_k, (oc5 a_h a_j a_pt e_ln e_se e_lh e_br e_we e_me e_ce e_wy e_ho e_ov)), (a_h, (oc1 e_wa e_le e_st e_fo e_lc a_l a_g a_b a_s a_p a_w e_gb a_bb)), (a_g, (oc6 6 5 a_gn e_g)), (a_gn, (arI G 30 f_g)), (a_p, (oc6 8 5 a_pn e_p)), (a_pn, (arI G 40 f_p)), (a_l, (arW G 6 f_l))]) hP hD [6, 7, 8] [0, 1, 2, 3, 4, 5, 9] rfl rfl (by decide +kernel) (by decide +kernel) hk1 hFc hP1 hD1
    clear hP hD hPc hDc hFc ht hvm hz1 hk1 hP1 hD1
    obtain ⟨hP, hD⟩ := hJ9
    refine g5_rs [(a_k, (oc5 a_h a_j a_pt e_ln e_se e_lh e_br e_we e_me e_ce e_wy e_ho e_ov)), (a_h, (oc1 e_wa e_le e_st e_fo e_lc a_l a_g a_b a_s a_p a_w e_gb a_bb)), (a_g, (oc6 6 5 a_gn e_g)), (a_gn, (arI G 30 f_g)), (a_p, (oc6 8 5 a_pn e_p)), (a_pn, (arI G 40 f_p)), (a_l, (arW G 6 f_l)), (a_j, (oc2 a_as a_sk)), (a_as, (arI G 8 f_as)), (a_sk, (arJ G 50 f_sk))] hP hD ?_
    clear hP hD
    intro hP hD
    refine lv_if_eq (tgt := 238) hx hb dX5_meetGlass_223 (by decide +kernel) (fun c_2 => ?_) (fun c_2 => ?_)
    ·
      refine lv_aload_n hx hb dX5_meetGlass_238 rfl (lv_at hl 1 rfl) ?_
      refine lv_iload_n hx hb dX5_meetGlass_239 rfl (lv_at hl 2 rfl) ?_
      refine lv_iconst (v := 3) hx hb dX5_meetGlass_240 (by decide +kernel) ?_
      obtain ⟨hPc, hDc, hFc⟩ := g5_sub3 (wc := [(a_p, (oc6 8 5 a_pn e_p)), (a_pn, (arI G 40 f_p))]) hP hD hS hA [4, 5] (by decide +kernel) rfl
      refine va_calli (va_runV (As := [.int k_r, .int 3]) (rest := []) ⟨hx, hb, hml, hown, hts⟩ (t_get_P l G a_p a_pn H.size e_p k_r 3 f_p ⟨by omega, by omega⟩) (cwV 2 hts gV_X5_107 rfl rfl rfl hv_X6_get ⟨Nat.le_of_ble_eq_true rfl, Nat.le_of_ble_eq_true rfl⟩) (g5_preV hPc hK hDc hN hT hS hFc (ci := 6) (q0 := 0) rfl rfl) rfl rfl hl.1 rfl (lv_room (Nat.le_of_ble_eq_true rfl)) dX5_meetGlass_241 ⟨Nat.le_of_ble_eq_true rfl, Nat.le_of_ble_eq_true rfl⟩) hS (fun q _ h => hFc q h) hFc (fun r u t H locs ht hvm hw hB hz1 hk1 hS => ?_)
      obtain ⟨hP1, hD1⟩ := hB
      have hP1 := g5_ht ht hP1
      obtain ⟨z4, (i_3 : z4 = tget f_p e_p.toInt 5 k_r.toInt (3 : Int32).toInt), y5, rfl⟩ := hw
      have hJ9 := va_join (wr := [(a_k, (oc5 a_h a_j a_pt e_ln e_se e_lh e_br e_we e_me e_ce e_wy e_ho e_ov)), (a_h, (oc1 e_wa e_le e_st e_fo e_lc a_l a_g a_b a_s a_p a_w e_gb a_bb)), (a_g, (oc6 6 5 a_gn e_g)), (a_gn, (arI G 30 f_g)), (a_l, (arW G 6 f_l)), (a_j, (oc2 a_as a_sk)), (a_as, (arI G 8 f_as)), (a_sk, (arJ G 50 f_sk))]) hP hD [4, 5] [0, 1, 2, 3, 6, 7, 8, 9] rfl rfl (by decide +kernel) (by decide +kernel) hk1 hFc hP1 hD1
      clear hP hD hPc hDc hFc ht hvm hz1 hk1 hP1 hD1
      obtain ⟨hP, hD⟩ := hJ9
      refine g5_rs [(a_k, (oc5 a_h a_j a_pt e_ln e_se e_lh e_br e_we e_me e_ce e_wy e_ho e_ov)), (a_h, (oc1 e_wa e_le e_st e_fo e_lc a_l a_g a_b a_s a_p a_w e_gb a_bb)), (a_g, (oc6 6 5 a_gn e_g)), (a_gn, (arI G 30 f_g)), (a_l, (arW G 6 f_l)), (a_j, (oc2 a_as a_sk)), (a_as, (arI G 8 f_as)), (a_sk, (arJ G 50 f_sk)), (a_p, (oc6 8 5 a_pn e_p)), (a_pn, (arI G 40 f_p))] hP hD ?_
      clear hP hD
      intro hP hD
      refine g5_ti (v := z4) y5 ?_
      have hg_6 : 0 ≤ z4.toInt ∧ z4.toInt ≤ 10 := by rw [i_3]; exact (e_pk k_r.toInt (by omega) (by omega)).2.2.2
      refine W.eq (g2 := F0 m 244 ls [.int z4]) rfl ?_
      refine lv_istore (lv' := [(8, .int z4), (0, .ref a_k), (2, .ref a_p), (3, .int k_r), (4, .int k_n), (5, .int k_s), (6, .null), (7, .int k_l)]) hx hb dX5_meetGlass_244 hl (by decide +kernel) rfl ?_
      clear hl
      intro ls hl
      exact k_mgpN4 G a_k a_h a_g a_gn a_p a_pn a_j a_as a_sk a_l a_pt a_b a_s a_w a_bb e_ln e_se e_lh e_br e_we e_me e_ce e_wy e_ho e_ov e_le e_st e_fo e_lc e_wa e_gb e_g f_g e_p f_p f_as f_sk f_l k_r k_n k_s k_l z4 hx hb hml hown hts hK hN hT hA (hP.sub [0, 1, 2, 3, 8, 9, 5, 6, 7, 4] rfl) (hD.sub [0, 1, 2, 3, 8, 9, 5, 6, 7, 4] (by decide +kernel) rfl) hS (lv_sub hl [1, 2, 3, 4, 5, 7, 0] rfl) ⟨by omega, by omega⟩ ⟨by omega, by omega⟩ ⟨by omega, by omega⟩ ⟨by omega, by omega⟩ ⟨by omega, by omega⟩ ⟨by omega, by omega⟩ ⟨by omega, by omega⟩ ⟨by omega, by omega⟩ ⟨by omega, by omega⟩ ⟨by omega, by omega⟩ ⟨by omega, by omega⟩ (by omega) kk
    ·
      exact absurd c_2 (by decide +kernel)
  ·
    have i_1 : k_l.toInt > e_ho.toInt := g5_leN (a := k_l.toInt) (b := e_ho.toInt) rfl rfl c_1
    exact kk 212 dX5_meetGlass_212 e_br e_we e_me e_wy e_ho e_ov f_as f_sk ls H locs (hP.sub [0, 1, 2, 3, 4, 5, 6, 7, 8, 9] rfl) (hD.sub [0, 1, 2, 3, 4, 5, 6, 7, 8, 9] (by decide +kernel) rfl) hS (⟨by omega, by omega⟩) (⟨by omega, by omega⟩) (⟨by omega, by omega⟩) (⟨by omega, by omega⟩)
set_option maxHeartbeats 4000000 in
set_option maxRecDepth 100000 in
theorem k_mgpN2 {p : Program} {l : Launch} {e : Env} {s : State} {m : MethodId} {args : Array Value} {below : List Frame} {meth : Method} {c : Code} {Q : State → Prop} {A : Nat → Prop} {H : Heap} {locs : List Loc} {ls : Array Slot} (G : g5_G) (a_k a_h a_g a_gn a_p a_pn a_j a_as a_sk a_l a_pt a_b a_s a_w a_bb : Nat) (e_ln : Int32) (e_se : Int32) (e_lh : Int32) (e_br : Int32) (e_we : Int32) (e_me : Int32) (e_ce : Int32) (e_wy : Int32) (e_ho : Int32) (e_ov : Int32) (e_le : Int32) (e_st : Int32) (e_fo : Int32) (e_lc : Int32) (e_wa : Int64) (e_gb : Int64) (e_g : Int32) (f_g : Nat → Int32) (e_p : Int32) (f_p : Nat → Int32) (f_as : Nat → Int32) (f_sk : Nat → Int64) (f_l : Nat → Option Nat) (k_r : Int32) (k_n : Int32) (k_s : Int32) (hx : p.tables.exec = Jvm.exec) (hb : c.code = cX5_meetGlass) (hml : c.maxLocals = 9) (hown : s.vm.findClass RX5 = some m.cls) (hts : ∀ w ∈ tblG, w.before args s = true) (hK : va_K G.1 vwCl (T5 G) s) (hN : g5_N s) (hT : g5_S A s s.heap) (hA : ∀ q : Nat, s.heap.size ≤ q → A q) (hP : va_P G.1 vwCl [(a_k, (oc5 a_h a_j a_pt e_ln e_se e_lh e_br e_we e_me e_ce e_wy e_ho e_ov)), (a_h, (oc1 e_wa e_le e_st e_fo e_lc a_l a_g a_b a_s a_p a_w e_gb a_bb)), (a_g, (oc6 6 5 a_gn e_g)), (a_gn, (arI G 30 f_g)), (a_p, (oc6 8 5 a_pn e_p)), (a_pn, (arI G 40 f_p)), (a_j, (oc2 a_as a_sk)), (a_as, (arI G 8 f_as)), (a_sk, (arJ G 50 f_sk)), (a_l, (arW G 6 f_l))] H) (hD : va_D A [(a_k, (oc5 a_h a_j a_pt e_ln e_se e_lh e_br e_we e_me e_ce e_wy e_ho e_ov)), (a_h, (oc1 e_wa e_le e_st e_fo e_lc a_l a_g a_b a_s a_p a_w e_gb a_bb)), (a_g, (oc6 6 5 a_gn e_g)), (a_gn, (arI G 30 f_g)), (a_p, (oc6 8 5 a_pn e_p)), (a_pn, (arI G 40 f_p)), (a_j, (oc2 a_as a_sk)), (a_as, (arI G 8 f_as)), (a_sk, (arJ G 50 f_sk)), (a_l, (arW G 6 f_l))]) (hS : va_S A s.heap H locs) (hl : lv_has ls 9 [(0, .ref a_k), (2, .ref a_p), (3, .int k_r), (4, .int k_n), (5, .int k_s), (6, .null)]) (h_e_br : 0 ≤ e_br.toInt ∧ e_br.toInt ≤ 1000000) (h_e_ce : 0 ≤ e_ce.toInt ∧ e_ce.toInt ≤ 63) (h_e_wy : 0 ≤ e_wy.toInt ∧ e_wy.toInt ≤ 3) (h_e_ho : 0 ≤ e_ho.toInt ∧ e_ho.toInt ≤ 23) (h_e_ov : 0 ≤ e_ov.toInt ∧ e_ov.toInt ≤ 1) (h_e_g : 0 ≤ e_g.toInt ∧ e_g.toInt ≤ 6) (h_e_p : 0 ≤ e_p.toInt ∧ e_p.toInt ≤ 8) (h_k_r : 0 ≤ k_r.toInt ∧ k_r.toInt ≤ 7) (h_k_s : 0 ≤ k_s.toInt ∧ k_s.toInt ≤ 5) (e_gk : gOK f_g e_g.toInt) (e_pk : gOK f_p e_p.toInt) (e_f : e_fo.toInt < 0 ∨ e_lc.toInt ≤ e_fo.toInt) (e_r : k_r.toInt < e_p.toInt) (kk : ∀ (pc1 : Nat), decode cX5_meetGlass pc1 = .ok (.return_, 1) → ∀ (o_b : Int32) (o_w : Int32) (o_m : Int32) (o_y : Int32) (o_h : Int32) (o_v : Int32) (o_a : Nat → Int32) (o_k : Nat → Int64) (ls : Array Slot) (H : Heap) (locs : List Loc), va_P G.1 vwCl [(a_k, (oc5 a_h a_j a_pt e_ln e_se e_lh o_b o_w o_m e_ce o_y o_h o_v)), (a_h, (oc1 e_wa e_le e_st e_fo e_lc a_l a_g a_b a_s a_p a_w e_gb a_bb)), (a_g, (oc6 6 5 a_gn e_g)), (a_gn, (arI G 30 f_g)), (a_p, (oc6 8 5 a_pn e_p)), (a_pn, (arI G 40 f_p)), (a_j, (oc2 a_as a_sk)), (a_as, (arI G 8 o_a)), (a_sk, (arJ G 50 o_k)), (a_l, (arW G 6 f_l))] H → va_D A [(a_k, (oc5 a_h a_j a_pt e_ln e_se e_lh o_b o_w o_m e_ce o_y o_h o_v)), (a_h, (oc1 e_wa e_le e_st e_fo e_lc a_l a_g a_b a_s a_p a_w e_gb a_bb)), (a_g, (oc6 6 5 a_gn e_g)), (a_gn, (arI G 30 f_g)), (a_p, (oc6 8 5 a_pn e_p)), (a_pn, (arI G 40 f_p)), (a_j, (oc2 a_as a_sk)), (a_as, (arI G 8 o_a)), (a_sk, (arJ G 50 o_k)), (a_l, (arW G 6 f_l))] → va_S A s.heap H locs → (0 ≤ o_b.toInt ∧ o_b.toInt ≤ 1000000) → (0 ≤ o_y.toInt ∧ o_y.toInt ≤ 3) → (0 ≤ o_h.toInt ∧ o_h.toInt ≤ 23) → (0 ≤ o_v.toInt ∧ o_v.toInt ≤ 1) → W p l e ({ frames := 12, cells := 0, slots := 0, locals := 500 } : Room) s m args below meth c H locs 0 0 Q (F0 m pc1 ls [])) : W p l e ({ frames := 12, cells := 0, slots := 0, locals := 500 } : Room) s m args below meth c H locs 0 0 Q (F0 m 170 ls []) := by
  refine lv_aload_n hx hb dX5_meetGlass_170 rfl (lv_at hl 0 rfl) ?_
  refine va_get (D := G.1) (ci := 5) (v := .ref a_j) (C := RX5) (T := TX5) (N := 13) hx hb hts inG_X5 hown hK hP 0 rfl rfl 1 (by decide +kernel) (hts _ fl_X5_12) (fun _ h9 => h9) rfl dX5_meetGlass_171 ?_
  refine lv_aloadN hx hb dX5_meetGlass_174 (lv_at hl 5 rfl) ?_
  refine lv_iconst (v := 0) hx hb dX5_meetGlass_176 (by decide +kernel) ?_
  refine W.eq (g2 := F0 m 177 ls [.int 0, .null, .ref a_j]) rfl ?_
  obtain ⟨hPc, hDc, hFc⟩ := g5_sub3 (wc := [(a_j, (oc2 a_as a_sk)), (a_as, (arI G 8 f_as)), (a_sk, (arJ G 50 f_sk))]) hP hD hS hA [6, 7, 8] (by decide +kernel) rfl
  refine va_calli (va_runV (As := [.null, .int 0]) (rest := []) ⟨hx, hb, hml, hown, hts⟩ (j_isHeldN l G a_j a_as a_sk H.size 0 f_as f_sk) (cwV 2 hts gV_X5_124 rfl rfl rfl hv_X2_isHeld ⟨Nat.le_of_ble_eq_true rfl, Nat.le_of_ble_eq_true rfl⟩) (g5_preV hPc hK hDc hN hT hS hFc (ci := 2) (q0 := 0) rfl rfl) rfl rfl hl.1 rfl (lv_room (Nat.le_of_ble_eq_true rfl)) dX5_meetGlass_177 ⟨Nat.le_of_ble_eq_true rfl, Nat.le_of_ble_eq_true rfl⟩) hS (fun q _ h => hFc q h) hFc (fun r u t H locs ht hvm hw hB hz1 hk1 hS => ?_)
  obtain ⟨hP1, hD1⟩ := hB
  have hP1 := g5_ht ht hP1
  obtain ⟨rfl, rfl⟩ := hw
  have hJ9 := va_join (wr := [(a_k, (oc5 a_h a_j a_pt e_ln e_se e_lh e_br e_we e_me e_ce e_wy e_ho e_ov)), (a_h, (oc1 e_wa e_le e_st e_fo e_lc a_l a_g a_b a_s a_p a_w e_gb a_bb)), (a_g, (oc6 6 5 a_gn e_g)), (a_gn, (arI G 30 f_g)), (a_p, (oc6 8 5 a_pn e_p)), (a_pn, (arI G 40 f_p)), (a_l, (arW G 6 f_l))]) hP hD [6, 7, 8] [0, 1, 2, 3, 4, 5, 9] rfl rfl (by decide +kernel) (by decide +kernel) hk1 hFc hP1 hD1
  clear hP hD hPc hDc hFc ht hvm hz1 hk1 hP1 hD1
  obtain ⟨hP, hD⟩ := hJ9
  refine g5_rs [(a_k, (oc5 a_h a_j a_pt e_ln e_se e_lh e_br e_we e_me e_ce e_wy e_ho e_ov)), (a_h, (oc1 e_wa e_le e_st e_fo e_lc a_l a_g a_b a_s a_p a_w e_gb a_bb)), (a_g, (oc6 6 5 a_gn e_g)), (a_gn, (arI G 30 f_g)), (a_p, (oc6 8 5 a_pn e_p)), (a_pn, (arI G 40 f_p)), (a_l, (arW G 6 f_l)), (a_j, (oc2 a_as a_sk)), (a_as, (arI G 8 f_as)), (a_sk, (arJ G 50 f_sk))] hP hD ?_
  clear hP hD
  intro hP hD
  refine lv_if_eq (tgt := 195) hx hb dX5_meetGlass_180 (by decide +kernel) (fun c_1 => ?_) (fun c_1 => ?_)
  ·
    refine lv_aload_n hx hb dX5_meetGlass_195 rfl (lv_at hl 1 rfl) ?_
    refine lv_iload_n hx hb dX5_meetGlass_196 rfl (lv_at hl 2 rfl) ?_
    refine lv_iconst (v := 2) hx hb dX5_meetGlass_197 (by decide +kernel) ?_
    obtain ⟨hPc, hDc, hFc⟩ := g5_sub3 (wc := [(a_p, (oc6 8 5 a_pn e_p)), (a_pn, (arI G 40 f_p))]) hP hD hS hA [4, 5] (by decide +kernel) rfl
    refine va_calli (va_runV (As := [.int k_r, .int 2]) (rest := []) ⟨hx, hb, hml, hown, hts⟩ (t_get_P l G a_p a_pn H.size e_p k_r 2 f_p ⟨by omega, by omega⟩) (cwV 2 hts gV_X5_107 rfl rfl rfl hv_X6_get ⟨Nat.le_of_ble_eq_true rfl, Nat.le_of_ble_eq_true rfl⟩) (g5_preV hPc hK hDc hN hT hS hFc (ci := 6) (q0 := 0) rfl rfl) rfl rfl hl.1 rfl (lv_room (Nat.le_of_ble_eq_true rfl)) dX5_meetGlass_198 ⟨Nat.le_of_ble_eq_true rfl, Nat.le_of_ble_eq_true rfl⟩) hS (fun q _ h => hFc q h) hFc (fun r u t H locs ht hvm hw hB hz1 hk1 hS => ?_)
    obtain ⟨hP1, hD1⟩ := hB
    have hP1 := g5_ht ht hP1
    obtain ⟨z3, (i_2 : z3 = tget f_p e_p.toInt 5 k_r.toInt (2 : Int32).toInt), y4, rfl⟩ := hw
    have hJ9 := va_join (wr := [(a_k, (oc5 a_h a_j a_pt e_ln e_se e_lh e_br e_we e_me e_ce e_wy e_ho e_ov)), (a_h, (oc1 e_wa e_le e_st e_fo e_lc a_l a_g a_b a_s a_p a_w e_gb a_bb)), (a_g, (oc6 6 5 a_gn e_g)), (a_gn, (arI G 30 f_g)), (a_l, (arW G 6 f_l)), (a_j, (oc2 a_as a_sk)), (a_as, (arI G 8 f_as)), (a_sk, (arJ G 50 f_sk))]) hP hD [4, 5] [0, 1, 2, 3, 6, 7, 8, 9] rfl rfl (by decide +kernel) (by decide +kernel) hk1 hFc hP1 hD1
    clear hP hD hPc hDc hFc ht hvm hz1 hk1 hP1 hD1
    obtain ⟨hP, hD⟩ := hJ9
    refine g5_rs [(a_k, (oc5 a_h a_j a_pt e_ln e_se e_lh e_br e_we e_me e_ce e_wy e_ho e_ov)), (a_h, (oc1 e_wa e_le e_st e_fo e_lc a_l a_g a_b a_s a_p a_w e_gb a_bb)), (a_g, (oc6 6 5 a_gn e_g)), (a_gn, (arI G 30 f_g)), (a_l, (arW G 6 f_l)), (a_j, (oc2 a_as a_sk)), (a_as, (arI G 8 f_as)), (a_sk, (arJ G 50 f_sk)), (a_p, (oc6 8 5 a_pn e_p)), (a_pn, (arI G 40 f_p))] hP hD ?_
    clear hP hD
    intro hP hD
    refine g5_ti (v := z3) y4 ?_
    have hg_5 : 0 ≤ z3.toInt ∧ z3.toInt ≤ 23 := by rw [i_2]; exact (e_pk k_r.toInt (by omega) (by omega)).2.2.1
    refine W.eq (g2 := F0 m 201 ls [.int z3]) rfl ?_
    refine lv_istore (lv' := [(7, .int z3), (0, .ref a_k), (2, .ref a_p), (3, .int k_r), (4, .int k_n), (5, .int k_s), (6, .null)]) hx hb dX5_meetGlass_201 hl (by decide +kernel) rfl ?_
    clear hl
    intro ls hl
    exact k_mgpN3 G a_k a_h a_g a_gn a_p a_pn a_j a_as a_sk a_l a_pt a_b a_s a_w a_bb e_ln e_se e_lh e_br e_we e_me e_ce e_wy e_ho e_ov e_le e_st e_fo e_lc e_wa e_gb e_g f_g e_p f_p f_as f_sk f_l k_r k_n k_s z3 hx hb hml hown hts hK hN hT hA (hP.sub [0, 1, 2, 3, 8, 9, 5, 6, 7, 4] rfl) (hD.sub [0, 1, 2, 3, 8, 9, 5, 6, 7, 4] (by decide +kernel) rfl) hS (lv_sub hl [1, 2, 3, 4, 5, 6, 0] rfl) ⟨by omega, by omega⟩ ⟨by omega, by omega⟩ ⟨by omega, by omega⟩ ⟨by omega, by omega⟩ ⟨by omega, by omega⟩ ⟨by omega, by omega⟩ ⟨by omega, by omega⟩ ⟨by omega, by omega⟩ ⟨by omega, by omega⟩ ⟨by omega, by omega⟩ (e_gk) (e_pk) (e_f) (e_r) kk
  ·
    exact absurd c_1 (by decide +kernel)
set_option maxHeartbeats 4000000 in
set_option maxRecDepth 100000 in
theorem k_mgpN1 {p : Program} {l : Launch} {e : Env} {s : State} {m : MethodId} {args : Array Value} {below : List Frame} {meth : Method} {c : Code} {Q : State → Prop} {A : Nat → Prop} {H : Heap} {locs : List Loc} {ls : Array Slot} (G : g5_G) (a_k a_h a_g a_gn a_p a_pn a_j a_as a_sk a_l a_pt a_b a_s a_w a_bb : Nat) (e_ln : Int32) (e_se : Int32) (e_lh : Int32) (e_br : Int32) (e_we : Int32) (e_me : Int32) (e_ce : Int32) (e_wy : Int32) (e_ho : Int32) (e_ov : Int32) (e_le : Int32) (e_st : Int32) (e_fo : Int32) (e_lc : Int32) (e_wa : Int64) (e_gb : Int64) (e_g : Int32) (f_g : Nat → Int32) (e_p : Int32) (f_p : Nat → Int32) (f_as : Nat → Int32) (f_sk : Nat → Int64) (f_l : Nat → Option Nat) (k_r : Int32) (k_n : Int32) (hx : p.tables.exec = Jvm.exec) (hb : c.code = cX5_meetGlass) (hml : c.maxLocals = 9) (hown : s.vm.findClass RX5 = some m.cls) (hts : ∀ w ∈ tblG, w.before args s = true) (hK : va_K G.1 vwCl (T5 G) s) (hN : g5_N s) (hT : g5_S A s s.heap) (hA : ∀ q : Nat, s.heap.size ≤ q → A q) (hP : va_P G.1 vwCl [(a_k, (oc5 a_h a_j a_pt e_ln e_se e_lh e_br e_we e_me e_ce e_wy e_ho e_ov)), (a_h, (oc1 e_wa e_le e_st e_fo e_lc a_l a_g a_b a_s a_p a_w e_gb a_bb)), (a_g, (oc6 6 5 a_gn e_g)), (a_gn, (arI G 30 f_g)), (a_p, (oc6 8 5 a_pn e_p)), (a_pn, (arI G 40 f_p)), (a_j, (oc2 a_as a_sk)), (a_as, (arI G 8 f_as)), (a_sk, (arJ G 50 f_sk)), (a_l, (arW G 6 f_l))] H) (hD : va_D A [(a_k, (oc5 a_h a_j a_pt e_ln e_se e_lh e_br e_we e_me e_ce e_wy e_ho e_ov)), (a_h, (oc1 e_wa e_le e_st e_fo e_lc a_l a_g a_b a_s a_p a_w e_gb a_bb)), (a_g, (oc6 6 5 a_gn e_g)), (a_gn, (arI G 30 f_g)), (a_p, (oc6 8 5 a_pn e_p)), (a_pn, (arI G 40 f_p)), (a_j, (oc2 a_as a_sk)), (a_as, (arI G 8 f_as)), (a_sk, (arJ G 50 f_sk)), (a_l, (arW G 6 f_l))]) (hS : va_S A s.heap H locs) (hl : lv_has ls 9 [(0, .ref a_k), (2, .ref a_p), (3, .int k_r), (4, .int k_n)]) (h_e_br : 0 ≤ e_br.toInt ∧ e_br.toInt ≤ 1000000) (h_e_ce : 0 ≤ e_ce.toInt ∧ e_ce.toInt ≤ 63) (h_e_wy : 0 ≤ e_wy.toInt ∧ e_wy.toInt ≤ 3) (h_e_ho : 0 ≤ e_ho.toInt ∧ e_ho.toInt ≤ 23) (h_e_ov : 0 ≤ e_ov.toInt ∧ e_ov.toInt ≤ 1) (h_e_g : 0 ≤ e_g.toInt ∧ e_g.toInt ≤ 6) (h_e_p : 0 ≤ e_p.toInt ∧ e_p.toInt ≤ 8) (h_k_r : 0 ≤ k_r.toInt ∧ k_r.toInt ≤ 7) (e_gk : gOK f_g e_g.toInt) (e_pk : gOK f_p e_p.toInt) (e_f : e_fo.toInt < 0 ∨ e_lc.toInt ≤ e_fo.toInt) (e_r : k_r.toInt < e_p.toInt) (kk : ∀ (pc1 : Nat), decode cX5_meetGlass pc1 = .ok (.return_, 1) → ∀ (o_b : Int32) (o_w : Int32) (o_m : Int32) (o_y : Int32) (o_h : Int32) (o_v : Int32) (o_a : Nat → Int32) (o_k : Nat → Int64) (ls : Array Slot) (H : Heap) (locs : List Loc), va_P G.1 vwCl [(a_k, (oc5 a_h a_j a_pt e_ln e_se e_lh o_b o_w o_m e_ce o_y o_h o_v)), (a_h, (oc1 e_wa e_le e_st e_fo e_lc a_l a_g a_b a_s a_p a_w e_gb a_bb)), (a_g, (oc6 6 5 a_gn e_g)), (a_gn, (arI G 30 f_g)), (a_p, (oc6 8 5 a_pn e_p)), (a_pn, (arI G 40 f_p)), (a_j, (oc2 a_as a_sk)), (a_as, (arI G 8 o_a)), (a_sk, (arJ G 50 o_k)), (a_l, (arW G 6 f_l))] H → va_D A [(a_k, (oc5 a_h a_j a_pt e_ln e_se e_lh o_b o_w o_m e_ce o_y o_h o_v)), (a_h, (oc1 e_wa e_le e_st e_fo e_lc a_l a_g a_b a_s a_p a_w e_gb a_bb)), (a_g, (oc6 6 5 a_gn e_g)), (a_gn, (arI G 30 f_g)), (a_p, (oc6 8 5 a_pn e_p)), (a_pn, (arI G 40 f_p)), (a_j, (oc2 a_as a_sk)), (a_as, (arI G 8 o_a)), (a_sk, (arJ G 50 o_k)), (a_l, (arW G 6 f_l))] → va_S A s.heap H locs → (0 ≤ o_b.toInt ∧ o_b.toInt ≤ 1000000) → (0 ≤ o_y.toInt ∧ o_y.toInt ≤ 3) → (0 ≤ o_h.toInt ∧ o_h.toInt ≤ 23) → (0 ≤ o_v.toInt ∧ o_v.toInt ≤ 1) → W p l e ({ frames := 12, cells := 0, slots := 0, locals := 500 } : Room) s m args below meth c H locs 0 0 Q (F0 m pc1 ls [])) : W p l e ({ frames := 12, cells := 0, slots := 0, locals := 500 } : Room) s m args below meth c H locs 0 0 Q (F0 m 84 ls []) := by
  refine lv_aload_n hx hb dX5_meetGlass_84 rfl (lv_at hl 1 rfl) ?_
  refine lv_iload_n hx hb dX5_meetGlass_85 rfl (lv_at hl 2 rfl) ?_
  refine lv_iconst (v := 1) hx hb dX5_meetGlass_86 (by decide +kernel) ?_
  obtain ⟨hPc, hDc, hFc⟩ := g5_sub3 (wc := [(a_p, (oc6 8 5 a_pn e_p)), (a_pn, (arI G 40 f_p))]) hP hD hS hA [4, 5] (by decide +kernel) rfl
  refine va_calli (va_runV (As := [.int k_r, .int 1]) (rest := []) ⟨hx, hb, hml, hown, hts⟩ (t_get_P l G a_p a_pn H.size e_p k_r 1 f_p ⟨by omega, by omega⟩) (cwV 2 hts gV_X5_107 rfl rfl rfl hv_X6_get ⟨Nat.le_of_ble_eq_true rfl, Nat.le_of_ble_eq_true rfl⟩) (g5_preV hPc hK hDc hN hT hS hFc (ci := 6) (q0 := 0) rfl rfl) rfl rfl hl.1 rfl (lv_room (Nat.le_of_ble_eq_true rfl)) dX5_meetGlass_87 ⟨Nat.le_of_ble_eq_true rfl, Nat.le_of_ble_eq_true rfl⟩) hS (fun q _ h => hFc q h) hFc (fun r u t H locs ht hvm hw hB hz1 hk1 hS => ?_)
  obtain ⟨hP1, hD1⟩ := hB
  have hP1 := g5_ht ht hP1
  obtain ⟨z2, (i_1 : z2 = tget f_p e_p.toInt 5 k_r.toInt (1 : Int32).toInt), y3, rfl⟩ := hw
  have hJ9 := va_join (wr := [(a_k, (oc5 a_h a_j a_pt e_ln e_se e_lh e_br e_we e_me e_ce e_wy e_ho e_ov)), (a_h, (oc1 e_wa e_le e_st e_fo e_lc a_l a_g a_b a_s a_p a_w e_gb a_bb)), (a_g, (oc6 6 5 a_gn e_g)), (a_gn, (arI G 30 f_g)), (a_j, (oc2 a_as a_sk)), (a_as, (arI G 8 f_as)), (a_sk, (arJ G 50 f_sk)), (a_l, (arW G 6 f_l))]) hP hD [4, 5] [0, 1, 2, 3, 6, 7, 8, 9] rfl rfl (by decide +kernel) (by decide +kernel) hk1 hFc hP1 hD1
  clear hP hD hPc hDc hFc ht hvm hz1 hk1 hP1 hD1
  obtain ⟨hP, hD⟩ := hJ9
  refine g5_rs [(a_k, (oc5 a_h a_j a_pt e_ln e_se e_lh e_br e_we e_me e_ce e_wy e_ho e_ov)), (a_h, (oc1 e_wa e_le e_st e_fo e_lc a_l a_g a_b a_s a_p a_w e_gb a_bb)), (a_g, (oc6 6 5 a_gn e_g)), (a_gn, (arI G 30 f_g)), (a_j, (oc2 a_as a_sk)), (a_as, (arI G 8 f_as)), (a_sk, (arJ G 50 f_sk)), (a_l, (arW G 6 f_l)), (a_p, (oc6 8 5 a_pn e_p)), (a_pn, (arI G 40 f_p))] hP hD ?_
  clear hP hD
  intro hP hD
  refine g5_ti (v := z2) y3 ?_
  have hg_4 : 0 ≤ z2.toInt ∧ z2.toInt ≤ 5 := by rw [i_1]; exact (e_pk k_r.toInt (by omega) (by omega)).2.1
  refine W.eq (g2 := F0 m 90 ls [.int z2]) rfl ?_
  refine lv_istore (lv' := [(5, .int z2), (0, .ref a_k), (2, .ref a_p), (3, .int k_r), (4, .int k_n)]) hx hb dX5_meetGlass_90 hl (by decide +kernel) rfl ?_
  clear hl
  intro ls hl
  refine lv_aload_n hx hb dX5_meetGlass_92 rfl (lv_at hl 1 rfl) ?_
  refine lv_dup hx hb dX5_meetGlass_93 rfl ?_
  refine va_get (D := G.1) (ci := 5) (v := .int e_me) (C := RX5) (T := TX5) (N := 13) hx hb hts inG_X5 hown hK hP 0 rfl rfl 8 (by decide +kernel) (hts _ fl_X5_95) (fun _ h9 => h9) rfl dX5_meetGlass_94 ?_
  refine lv_iconst (v := 1) hx hb dX5_meetGlass_97 (by decide +kernel) ?_
  refine W.eq (g2 := F0 m 98 ls [.int 1, .int e_me, .ref a_k]) rfl ?_
  refine lv_iload hx hb dX5_meetGlass_98 (lv_at hl 4 rfl) ?_
  refine lv_ishl hx hb dX5_meetGlass_100 ?_
  refine lv_ior hx hb dX5_meetGlass_101 ?_
  refine va_put (D := G.1) (ci := 5) (v := .int (e_me ||| (1 <<< (k_n &&& 31)))) (ty := .int) (C := RX5) (T := TX5) (N := 13) hx hb hts inG_X5 tyX5 tyX5_ok nmX5 hown hK hP hD hS 0 rfl rfl 8 (by decide +kernel) (hts _ fl_X5_95) (fun _ h9 => h9) rfl (by decide +kernel) rfl rfl (Nat.le_of_ble_eq_true rfl) dX5_meetGlass_102 ?_
  clear hP hD hS
  intro H locs hP hD hS
  refine g5_rs [(a_k, (oc5 a_h a_j a_pt e_ln e_se e_lh e_br e_we (e_me ||| (1 <<< (k_n &&& 31))) e_ce e_wy e_ho e_ov)), (a_h, (oc1 e_wa e_le e_st e_fo e_lc a_l a_g a_b a_s a_p a_w e_gb a_bb)), (a_g, (oc6 6 5 a_gn e_g)), (a_gn, (arI G 30 f_g)), (a_j, (oc2 a_as a_sk)), (a_as, (arI G 8 f_as)), (a_sk, (arJ G 50 f_sk)), (a_l, (arW G 6 f_l)), (a_p, (oc6 8 5 a_pn e_p)), (a_pn, (arI G 40 f_p))] hP hD ?_
  clear hP hD
  intro hP hD
  refine lv_aload_n hx hb dX5_meetGlass_105 rfl (lv_at hl 1 rfl) ?_
  refine W.eq (g2 := F0 m 106 ls [.ref a_k]) rfl ?_
  refine va_get (D := G.1) (ci := 5) (v := .ref a_h) (C := RX5) (T := TX5) (N := 13) hx hb hts inG_X5 hown hK hP 0 rfl rfl 0 (by decide +kernel) (hts _ fl_X5_22) (fun _ h9 => h9) rfl dX5_meetGlass_106 ?_
  obtain ⟨hPc, hDc, hFc⟩ := g5_sub3 (wc := [(a_h, (oc1 e_wa e_le e_st e_fo e_lc a_l a_g a_b a_s a_p a_w e_gb a_bb)), (a_l, (arW G 6 f_l))]) hP hD hS hA [1, 7] (by decide +kernel) rfl
  refine va_callq (va_runV (As := []) (rest := []) ⟨hx, hb, hml, hown, hts⟩ (h_lawN l G a_h a_l a_g a_b a_s a_p a_w a_bb H.size e_le e_st e_fo e_lc e_wa e_gb f_l (e_f)) (cwV 0 hts gV_X5_113 rfl rfl rfl hv_X1_lawInForce ⟨Nat.le_of_ble_eq_true rfl, Nat.le_of_ble_eq_true rfl⟩) (g5_preV hPc hK hDc hN hT hS hFc (ci := 1) (q0 := 0) rfl rfl) rfl rfl hl.1 rfl (lv_room (Nat.le_of_ble_eq_true rfl)) dX5_meetGlass_109 ⟨Nat.le_of_ble_eq_true rfl, Nat.le_of_ble_eq_true rfl⟩) hS (fun q _ h => hFc q h) hFc (fun r u t H locs ht hvm hw hB hz1 hk1 hS => ?_)
  obtain ⟨hP1, hD1⟩ := hB
  have hP1 := g5_ht ht hP1
  obtain ⟨rfl, rfl⟩ := hw
  have hJ9 := va_join (wr := [(a_k, (oc5 a_h a_j a_pt e_ln e_se e_lh e_br e_we (e_me ||| (1 <<< (k_n &&& 31))) e_ce e_wy e_ho e_ov)), (a_g, (oc6 6 5 a_gn e_g)), (a_gn, (arI G 30 f_g)), (a_j, (oc2 a_as a_sk)), (a_as, (arI G 8 f_as)), (a_sk, (arJ G 50 f_sk)), (a_p, (oc6 8 5 a_pn e_p)), (a_pn, (arI G 40 f_p))]) hP hD [1, 7] [0, 2, 3, 4, 5, 6, 8, 9] rfl rfl (by decide +kernel) (by decide +kernel) hk1 hFc hP1 hD1
  clear hP hD hPc hDc hFc ht hvm hz1 hk1 hP1 hD1
  obtain ⟨hP, hD⟩ := hJ9
  refine g5_rs [(a_k, (oc5 a_h a_j a_pt e_ln e_se e_lh e_br e_we (e_me ||| (1 <<< (k_n &&& 31))) e_ce e_wy e_ho e_ov)), (a_g, (oc6 6 5 a_gn e_g)), (a_gn, (arI G 30 f_g)), (a_j, (oc2 a_as a_sk)), (a_as, (arI G 8 f_as)), (a_sk, (arJ G 50 f_sk)), (a_p, (oc6 8 5 a_pn e_p)), (a_pn, (arI G 40 f_p)), (a_h, (oc1 e_wa e_le e_st e_fo e_lc a_l a_g a_b a_s a_p a_w e_gb a_bb)), (a_l, (arW G 6 f_l))] hP hD ?_
  clear hP hD
  intro hP hD
  refine g5_tv (v := .null) rfl ?_
  refine lv_astoreN (lv' := [(6, .null), (5, .int z2), (0, .ref a_k), (2, .ref a_p), (3, .int k_r), (4, .int k_n)]) hx hb dX5_meetGlass_112 hl (by decide +kernel) rfl ?_
  clear hl
  intro ls hl
  refine lv_aload_n hx hb dX5_meetGlass_114 rfl (lv_at hl 2 rfl) ?_
  refine lv_iload hx hb dX5_meetGlass_115 (lv_at hl 5 rfl) ?_
  refine W.eq (g2 := F0 m 117 ls [.int k_n, .ref a_k]) rfl ?_
  refine lv_iconst (v := (-1)) hx hb dX5_meetGlass_117 (by decide +kernel) ?_
  obtain ⟨hPc, hDc, hFc⟩ := g5_sub3 (wc := [(a_k, (oc5 a_h a_j a_pt e_ln e_se e_lh e_br e_we (e_me ||| (1 <<< (k_n &&& 31))) e_ce e_wy e_ho e_ov)), (a_j, (oc2 a_as a_sk)), (a_as, (arI G 8 f_as))]) hP hD hS hA [0, 3, 4] (by decide +kernel) rfl
  refine va_callv (va_runV (As := [.int k_n, .int (-1)]) (rest := []) ⟨hx, hb, hml, hown, hts⟩ (k_ask l G a_k a_j a_as a_h a_pt a_sk H.size e_ln e_se e_lh e_br e_we (e_me ||| (1 <<< (k_n &&& 31))) e_ce e_wy e_ho e_ov k_n (-1) f_as ⟨by omega, by omega⟩ ⟨by omega, by omega⟩ ⟨by omega, by omega⟩ ⟨by omega, by omega⟩ ⟨by omega, by omega⟩) (cwV 2 hts gV_X5_120 rfl rfl rfl hv_X5_ask ⟨Nat.le_of_ble_eq_true rfl, Nat.le_of_ble_eq_true rfl⟩) (g5_preV hPc hK hDc hN hT hS hFc (ci := 5) (q0 := 0) rfl rfl) rfl rfl hl.1 rfl (lv_room (Nat.le_of_ble_eq_true rfl)) dX5_meetGlass_118 ⟨Nat.le_of_ble_eq_true rfl, Nat.le_of_ble_eq_true rfl⟩) hS (fun q _ h => hFc q h) hFc (fun u t H locs ht hvm hw hB hz1 hk1 hS => ?_)
  obtain ⟨hP1, hD1⟩ := hB
  have hP1 := g5_ht ht hP1
  obtain ⟨z5, rfl⟩ := hw
  have hJ9 := va_join (wr := [(a_g, (oc6 6 5 a_gn e_g)), (a_gn, (arI G 30 f_g)), (a_sk, (arJ G 50 f_sk)), (a_p, (oc6 8 5 a_pn e_p)), (a_pn, (arI G 40 f_p)), (a_h, (oc1 e_wa e_le e_st e_fo e_lc a_l a_g a_b a_s a_p a_w e_gb a_bb)), (a_l, (arW G 6 f_l))]) hP hD [0, 3, 4] [1, 2, 5, 6, 7, 8, 9] rfl rfl (by decide +kernel) (by decide +kernel) hk1 hFc hP1 hD1
  clear hP hD hPc hDc hFc ht hvm hz1 hk1 hP1 hD1
  obtain ⟨hP, hD⟩ := hJ9
  refine g5_rs [(a_g, (oc6 6 5 a_gn e_g)), (a_gn, (arI G 30 f_g)), (a_sk, (arJ G 50 f_sk)), (a_p, (oc6 8 5 a_pn e_p)), (a_pn, (arI G 40 f_p)), (a_h, (oc1 e_wa e_le e_st e_fo e_lc a_l a_g a_b a_s a_p a_w e_gb a_bb)), (a_l, (arW G 6 f_l)), (a_k, (oc5 a_h a_j a_pt e_ln e_se e_lh e_br e_we (e_me ||| (1 <<< (k_n &&& 31))) e_ce e_wy e_ho e_ov)), (a_j, (oc2 a_as a_sk)), (a_as, (arI G 8 z5))] hP hD ?_
  clear hP hD
  intro hP hD
  refine lv_aload_n hx hb dX5_meetGlass_121 rfl (lv_at hl 3 rfl) ?_
  refine lv_iload_n hx hb dX5_meetGlass_122 rfl (lv_at hl 4 rfl) ?_
  refine lv_iconst (v := 4) hx hb dX5_meetGlass_123 (by decide +kernel) ?_
  refine W.eq (g2 := F0 m 124 ls [.int 4, .int k_r, .ref a_p]) rfl ?_
  obtain ⟨hPc, hDc, hFc⟩ := g5_sub3 (wc := [(a_p, (oc6 8 5 a_pn e_p)), (a_pn, (arI G 40 f_p))]) hP hD hS hA [3, 4] (by decide +kernel) rfl
  refine va_calli (va_runV (As := [.int k_r, .int 4]) (rest := []) ⟨hx, hb, hml, hown, hts⟩ (t_get_P l G a_p a_pn H.size e_p k_r 4 f_p ⟨by omega, by omega⟩) (cwV 2 hts gV_X5_107 rfl rfl rfl hv_X6_get ⟨Nat.le_of_ble_eq_true rfl, Nat.le_of_ble_eq_true rfl⟩) (g5_preV hPc hK hDc hN hT hS hFc (ci := 6) (q0 := 0) rfl rfl) rfl rfl hl.1 rfl (lv_room (Nat.le_of_ble_eq_true rfl)) dX5_meetGlass_124 ⟨Nat.le_of_ble_eq_true rfl, Nat.le_of_ble_eq_true rfl⟩) hS (fun q _ h => hFc q h) hFc (fun r u t H locs ht hvm hw hB hz1 hk1 hS => ?_)
  obtain ⟨hP1, hD1⟩ := hB
  have hP1 := g5_ht ht hP1
  obtain ⟨z7, (i_6 : z7 = tget f_p e_p.toInt 5 k_r.toInt (4 : Int32).toInt), y8, rfl⟩ := hw
  have hJ9 := va_join (wr := [(a_g, (oc6 6 5 a_gn e_g)), (a_gn, (arI G 30 f_g)), (a_sk, (arJ G 50 f_sk)), (a_h, (oc1 e_wa e_le e_st e_fo e_lc a_l a_g a_b a_s a_p a_w e_gb a_bb)), (a_l, (arW G 6 f_l)), (a_k, (oc5 a_h a_j a_pt e_ln e_se e_lh e_br e_we (e_me ||| (1 <<< (k_n &&& 31))) e_ce e_wy e_ho e_ov)), (a_j, (oc2 a_as a_sk)), (a_as, (arI G 8 z5))]) hP hD [3, 4] [0, 1, 2, 5, 6, 7, 8, 9] rfl rfl (by decide +kernel) (by decide +kernel) hk1 hFc hP1 hD1
  clear hP hD hPc hDc hFc ht hvm hz1 hk1 hP1 hD1
  obtain ⟨hP, hD⟩ := hJ9
  refine g5_rs [(a_g, (oc6 6 5 a_gn e_g)), (a_gn, (arI G 30 f_g)), (a_sk, (arJ G 50 f_sk)), (a_h, (oc1 e_wa e_le e_st e_fo e_lc a_l a_g a_b a_s a_p a_w e_gb a_bb)), (a_l, (arW G 6 f_l)), (a_k, (oc5 a_h a_j a_pt e_ln e_se e_lh e_br e_we (e_me ||| (1 <<< (k_n &&& 31))) e_ce e_wy e_ho e_ov)), (a_j, (oc2 a_as a_sk)), (a_as, (arI G 8 z5)), (a_p, (oc6 8 5 a_pn e_p)), (a_pn, (arI G 40 f_p))] hP hD ?_
  clear hP hD
  intro hP hD
  refine g5_ti (v := z7) y8 ?_
  refine lv_aload_n hx hb dX5_meetGlass_127 rfl (lv_at hl 2 rfl) ?_
  refine va_get (D := G.1) (ci := 5) (v := .int e_ho) (C := RX5) (T := TX5) (N := 13) hx hb hts inG_X5 hown hK hP 5 rfl rfl 11 (by decide +kernel) (hts _ fl_X5_33) (fun _ h9 => h9) rfl dX5_meetGlass_128 ?_
  refine lv_ishr hx hb dX5_meetGlass_131 ?_
  refine lv_iconst (v := 1) hx hb dX5_meetGlass_132 (by decide +kernel) ?_
  refine W.eq (g2 := F0 m 133 ls [.int 1, .int (z7 >>> (e_ho &&& 31))]) rfl ?_
  refine lv_iand hx hb dX5_meetGlass_133 ?_
  refine lv_if_ne (tgt := 169) hx hb dX5_meetGlass_134 (by decide +kernel) (fun c_9 => ?_) (fun c_9 => ?_)
  ·
    have n_9 : gNe (((z7 >>> (e_ho &&& 31)) &&& 1).toInt) (0) := g5_ne (a := ((z7 >>> (e_ho &&& 31)) &&& 1).toInt) (b := 0) rfl (by decide +kernel) c_9
    exact kk 169 dX5_meetGlass_169 e_br e_we (e_me ||| (1 <<< (k_n &&& 31))) e_wy e_ho e_ov z5 f_sk ls H locs (hP.sub [5, 3, 0, 1, 8, 9, 6, 7, 2, 4] rfl) (hD.sub [5, 3, 0, 1, 8, 9, 6, 7, 2, 4] (by decide +kernel) rfl) hS (⟨by omega, by omega⟩) (⟨by omega, by omega⟩) (⟨by omega, by omega⟩) (⟨by omega, by omega⟩)
  ·
    have i_9 : ((z7 >>> (e_ho &&& 31)) &&& 1).toInt = 0 := g5_neN (a := ((z7 >>> (e_ho &&& 31)) &&& 1).toInt) (b := 0) rfl (by decide +kernel) c_9
    refine lv_aload_n hx hb dX5_meetGlass_137 rfl (lv_at hl 2 rfl) ?_
    refine va_get (D := G.1) (ci := 5) (v := .ref a_j) (C := RX5) (T := TX5) (N := 13) hx hb hts inG_X5 hown hK hP 5 rfl rfl 1 (by decide +kernel) (hts _ fl_X5_12) (fun _ h9 => h9) rfl dX5_meetGlass_138 ?_
    refine lv_aloadN hx hb dX5_meetGlass_141 (lv_at hl 0 rfl) ?_
    refine lv_iconst (v := 2) hx hb dX5_meetGlass_143 (by decide +kernel) ?_
    refine W.eq (g2 := F0 m 144 ls [.int 2, .null, .ref a_j]) rfl ?_
    obtain ⟨hPc, hDc, hFc⟩ := g5_sub3 (wc := [(a_j, (oc2 a_as a_sk)), (a_as, (arI G 8 z5)), (a_sk, (arJ G 50 f_sk))]) hP hD hS hA [6, 7, 2] (by decide +kernel) rfl
    refine va_calli (va_runV (As := [.null, .int 2]) (rest := []) ⟨hx, hb, hml, hown, hts⟩ (j_isHeldN l G a_j a_as a_sk H.size 2 z5 f_sk) (cwV 2 hts gV_X5_124 rfl rfl rfl hv_X2_isHeld ⟨Nat.le_of_ble_eq_true rfl, Nat.le_of_ble_eq_true rfl⟩) (g5_preV hPc hK hDc hN hT hS hFc (ci := 2) (q0 := 0) rfl rfl) rfl rfl hl.1 rfl (lv_room (Nat.le_of_ble_eq_true rfl)) dX5_meetGlass_144 ⟨Nat.le_of_ble_eq_true rfl, Nat.le_of_ble_eq_true rfl⟩) hS (fun q _ h => hFc q h) hFc (fun r u t H locs ht hvm hw hB hz1 hk1 hS => ?_)
    obtain ⟨hP1, hD1⟩ := hB
    have hP1 := g5_ht ht hP1
    obtain ⟨rfl, rfl⟩ := hw
    have hJ9 := va_join (wr := [(a_g, (oc6 6 5 a_gn e_g)), (a_gn, (arI G 30 f_g)), (a_h, (oc1 e_wa e_le e_st e_fo e_lc a_l a_g a_b a_s a_p a_w e_gb a_bb)), (a_l, (arW G 6 f_l)), (a_k, (oc5 a_h a_j a_pt e_ln e_se e_lh e_br e_we (e_me ||| (1 <<< (k_n &&& 31))) e_ce e_wy e_ho e_ov)), (a_p, (oc6 8 5 a_pn e_p)), (a_pn, (arI G 40 f_p))]) hP hD [6, 7, 2] [0, 1, 3, 4, 5, 8, 9] rfl rfl (by decide +kernel) (by decide +kernel) hk1 hFc hP1 hD1
    clear hP hD hPc hDc hFc ht hvm hz1 hk1 hP1 hD1
    obtain ⟨hP, hD⟩ := hJ9
    refine g5_rs [(a_g, (oc6 6 5 a_gn e_g)), (a_gn, (arI G 30 f_g)), (a_h, (oc1 e_wa e_le e_st e_fo e_lc a_l a_g a_b a_s a_p a_w e_gb a_bb)), (a_l, (arW G 6 f_l)), (a_k, (oc5 a_h a_j a_pt e_ln e_se e_lh e_br e_we (e_me ||| (1 <<< (k_n &&& 31))) e_ce e_wy e_ho e_ov)), (a_p, (oc6 8 5 a_pn e_p)), (a_pn, (arI G 40 f_p)), (a_j, (oc2 a_as a_sk)), (a_as, (arI G 8 z5)), (a_sk, (arJ G 50 f_sk))] hP hD ?_
    clear hP hD
    intro hP hD
    refine lv_if_ne (tgt := 169) hx hb dX5_meetGlass_147 (by decide +kernel) (fun c_10 => ?_) (fun c_10 => ?_)
    ·
      exact absurd c_10 (by decide +kernel)
    ·
      refine lv_iload hx hb dX5_meetGlass_150 (lv_at hl 1 rfl) ?_
      refine lv_iconst (v := 2) hx hb dX5_meetGlass_152 (by decide +kernel) ?_
      refine lv_icmp_lt (tgt := 170) hx hb dX5_meetGlass_153 (by decide +kernel) (fun c_11 => ?_) (fun c_11 => ?_)
      ·
        have i_11 : z2.toInt < 2 := g5_lt (a := z2.toInt) (b := 2) rfl (by decide +kernel) c_11
        exact k_mgpN2 G a_k a_h a_g a_gn a_p a_pn a_j a_as a_sk a_l a_pt a_b a_s a_w a_bb e_ln e_se e_lh e_br e_we (e_me ||| (1 <<< (k_n &&& 31))) e_ce e_wy e_ho e_ov e_le e_st e_fo e_lc e_wa e_gb e_g f_g e_p f_p z5 f_sk f_l k_r k_n z2 hx hb hml hown hts hK hN hT hA (hP.sub [4, 2, 0, 1, 5, 6, 7, 8, 9, 3] rfl) (hD.sub [4, 2, 0, 1, 5, 6, 7, 8, 9, 3] (by decide +kernel) rfl) hS (lv_sub hl [2, 3, 4, 5, 1, 0] rfl) ⟨by omega, by omega⟩ ⟨by omega, by omega⟩ ⟨by omega, by omega⟩ ⟨by omega, by omega⟩ ⟨by omega, by omega⟩ ⟨by omega, by omega⟩ ⟨by omega, by omega⟩ ⟨by omega, by omega⟩ ⟨by omega, by omega⟩ (e_gk) (e_pk) (e_f) (e_r) kk
      ·
        have i_11 : z2.toInt ≥ 2 := g5_ltN (a := z2.toInt) (b := 2) rfl (by decide +kernel) c_11
        refine lv_iload hx hb dX5_meetGlass_156 (lv_at hl 1 rfl) ?_
        refine lv_iconst (v := 2) hx hb dX5_meetGlass_158 (by decide +kernel) ?_
        refine lv_isub hx hb dX5_meetGlass_159 ?_
        have t_12 : (z2 - 2).toInt = z2.toInt - 2 := g5_isub (a := z2.toInt) (b := 2) (by rfl) (by decide +kernel) (by omega) (by omega)
        refine lv_aload_n hx hb dX5_meetGlass_160 rfl (lv_at hl 2 rfl) ?_
        refine W.eq (g2 := F0 m 161 ls [.ref a_k, .int (z2 - 2)]) rfl ?_
        refine va_get (D := G.1) (ci := 5) (v := .int e_wy) (C := RX5) (T := TX5) (N := 13) hx hb hts inG_X5 hown hK hP 4 rfl rfl 10 (by decide +kernel) (hts _ fl_X5_30) (fun _ h9 => h9) rfl dX5_meetGlass_161 ?_
        refine lv_iconst (v := 2) hx hb dX5_meetGlass_164 (by decide +kernel) ?_
        refine lv_ixor hx hb dX5_meetGlass_165 ?_
        have hx_13 := (g_xor (w := e_wy) (by omega) (by omega)).2
        refine lv_icmp_eq (tgt := 170) hx hb dX5_meetGlass_166 (by decide +kernel) (fun c_14 => ?_) (fun c_14 => ?_)
        ·
          have i_14 : (z2.toInt - 2) = (e_wy ^^^ 2).toInt := by have z := g5_eq (a := (z2 - 2).toInt) (b := (e_wy ^^^ 2).toInt) (by rfl) (by rfl) c_14; omega
          exact k_mgpN2 G a_k a_h a_g a_gn a_p a_pn a_j a_as a_sk a_l a_pt a_b a_s a_w a_bb e_ln e_se e_lh e_br e_we (e_me ||| (1 <<< (k_n &&& 31))) e_ce e_wy e_ho e_ov e_le e_st e_fo e_lc e_wa e_gb e_g f_g e_p f_p z5 f_sk f_l k_r k_n z2 hx hb hml hown hts hK hN hT hA (hP.sub [4, 2, 0, 1, 5, 6, 7, 8, 9, 3] rfl) (hD.sub [4, 2, 0, 1, 5, 6, 7, 8, 9, 3] (by decide +kernel) rfl) hS (lv_sub hl [2, 3, 4, 5, 1, 0] rfl) ⟨by omega, by omega⟩ ⟨by omega, by omega⟩ ⟨by omega, by omega⟩ ⟨by omega, by omega⟩ ⟨by omega, by omega⟩ ⟨by omega, by omega⟩ ⟨by omega, by omega⟩ ⟨by omega, by omega⟩ ⟨by omega, by omega⟩ (e_gk) (e_pk) (e_f) (e_r) kk
        ·
          have n_14 : gNe ((z2.toInt - 2)) ((e_wy ^^^ 2).toInt) := by have z := g5_eqN (a := (z2 - 2).toInt) (b := (e_wy ^^^ 2).toInt) (by rfl) (by rfl) c_14; unfold gNe; omega
          exact kk 169 dX5_meetGlass_169 e_br e_we (e_me ||| (1 <<< (k_n &&& 31))) e_wy e_ho e_ov z5 f_sk ls H locs (hP.sub [4, 2, 0, 1, 5, 6, 7, 8, 9, 3] rfl) (hD.sub [4, 2, 0, 1, 5, 6, 7, 8, 9, 3] (by decide +kernel) rfl) hS (⟨by omega, by omega⟩) (⟨by omega, by omega⟩) (⟨by omega, by omega⟩) (⟨by omega, by omega⟩)
theorem fl_X5_128 : Cond.fieldLink RX5 128 "LateGlass$House" "glasses" "LLateGlass$Table;" ∈ tblG := tg 172 (by decide +kernel) (by decide +kernel)
theorem ml_X5_131 : Cond.methodLink RX5 131 yX6_find ∈ tblG := tg 859 (by decide +kernel) (by decide +kernel)
theorem gV_X5_131 : GoodIn tblG (wsV RX5 131 RX6 yX6_find (wsG yX6_find cX6_find 4 (some .int))) := tgV ml_X5_131 im_X6_find se_X6_find ini_X6 gW_X6_find
set_option maxHeartbeats 4000000 in
set_option maxRecDepth 100000 in
theorem k_meetGlassN (l : Launch) (G : g5_G) (a_k a_h a_g a_gn a_p a_pn a_j a_as a_sk a_l a_pt a_b a_s a_w a_bb : Nat) (sz : Nat) (e_ln : Int32) (e_se : Int32) (e_lh : Int32) (e_br : Int32) (e_we : Int32) (e_me : Int32) (e_ce : Int32) (e_wy : Int32) (e_ho : Int32) (e_ov : Int32) (e_le : Int32) (e_st : Int32) (e_fo : Int32) (e_lc : Int32) (e_g : Int32) (e_p : Int32) (e_wa : Int64) (e_gb : Int64) (f_g : Nat → Int32) (f_p : Nat → Int32) (f_as : Nat → Int32) (f_sk : Nat → Int64) (f_l : Nat → Option Nat) (h_e_br : 0 ≤ e_br.toInt ∧ e_br.toInt ≤ 1000000) (h_e_ce : 0 ≤ e_ce.toInt ∧ e_ce.toInt ≤ 63) (h_e_wy : 0 ≤ e_wy.toInt ∧ e_wy.toInt ≤ 3) (h_e_ho : 0 ≤ e_ho.toInt ∧ e_ho.toInt ≤ 23) (h_e_ov : 0 ≤ e_ov.toInt ∧ e_ov.toInt ≤ 1) (h_e_g : 0 ≤ e_g.toInt ∧ e_g.toInt ≤ 6) (h_e_p : 0 ≤ e_p.toInt ∧ e_p.toInt ≤ 8) (e_gk : gOK f_g e_g.toInt) (e_pk : gOK f_p e_p.toInt) (e_in : inR f_g e_g.toInt e_ce.toInt ∨ inR f_p e_p.toInt e_ce.toInt) (e_f : e_fo.toInt < 0 ∨ e_lc.toInt ≤ e_fo.toInt) : Met l yX5_meetGlass (wsG yX5_meetGlass cX5_meetGlass 9 none) ({ frames := 12, cells := 0, slots := 0, locals := 500 }) (va_Pc [.ref a_k] (g5_P G [(a_k, (oc5 a_h a_j a_pt e_ln e_se e_lh e_br e_we e_me e_ce e_wy e_ho e_ov)), (a_h, (oc1 e_wa e_le e_st e_fo e_lc a_l a_g a_b a_s a_p a_w e_gb a_bb)), (a_g, (oc6 6 5 a_gn e_g)), (a_gn, (arI G 30 f_g)), (a_p, (oc6 8 5 a_pn e_p)), (a_pn, (arI G 40 f_p)), (a_j, (oc2 a_as a_sk)), (a_as, (arI G 8 f_as)), (a_sk, (arJ G 50 f_sk)), (a_l, (arW G 6 f_l))] sz)) (va_Qv (fun (u : va_W) => (∃ (o_b : Int32) (o_w : Int32) (o_m : Int32) (o_y : Int32) (o_h : Int32) (o_v : Int32) (o_a : Nat → Int32) (o_k : Nat → Int64), (0 ≤ o_b.toInt ∧ o_b.toInt ≤ 1000000) ∧ (0 ≤ o_y.toInt ∧ o_y.toInt ≤ 3) ∧ (0 ≤ o_h.toInt ∧ o_h.toInt ≤ 23) ∧ (0 ≤ o_v.toInt ∧ o_v.toInt ≤ 1) ∧ (u = [(a_k, (oc5 a_h a_j a_pt e_ln e_se e_lh o_b o_w o_m e_ce o_y o_h o_v)), (a_h, (oc1 e_wa e_le e_st e_fo e_lc a_l a_g a_b a_s a_p a_w e_gb a_bb)), (a_g, (oc6 6 5 a_gn e_g)), (a_gn, (arI G 30 f_g)), (a_p, (oc6 8 5 a_pn e_p)), (a_pn, (arI G 40 f_p)), (a_j, (oc2 a_as a_sk)), (a_as, (arI G 8 o_a)), (a_sk, (arJ G 50 o_k)), (a_l, (arW G 6 f_l))]))) (g5_B G (va_A [(a_k, (oc5 a_h a_j a_pt e_ln e_se e_lh e_br e_we e_me e_ce e_wy e_ho e_ov)), (a_h, (oc1 e_wa e_le e_st e_fo e_lc a_l a_g a_b a_s a_p a_w e_gb a_bb)), (a_g, (oc6 6 5 a_gn e_g)), (a_gn, (arI G 30 f_g)), (a_p, (oc6 8 5 a_pn e_p)), (a_pn, (arI G 40 f_p)), (a_j, (oc2 a_as a_sk)), (a_as, (arI G 8 f_as)), (a_sk, (arJ G 50 f_sk)), (a_l, (arW G 6 f_l))] sz)) (va_A [(a_k, (oc5 a_h a_j a_pt e_ln e_se e_lh e_br e_we e_me e_ce e_wy e_ho e_ov)), (a_h, (oc1 e_wa e_le e_st e_fo e_lc a_l a_g a_b a_s a_p a_w e_gb a_bb)), (a_g, (oc6 6 5 a_gn e_g)), (a_gn, (arI G 30 f_g)), (a_p, (oc6 8 5 a_pn e_p)), (a_pn, (arI G 40 f_p)), (a_j, (oc2 a_as a_sk)), (a_as, (arI G 8 f_as)), (a_sk, (arJ G 50 f_sk)), (a_l, (arW G 6 f_l))] sz)) 0 0 (va_A [(a_k, (oc5 a_h a_j a_pt e_ln e_se e_lh e_br e_we e_me e_ce e_wy e_ho e_ov)), (a_h, (oc1 e_wa e_le e_st e_fo e_lc a_l a_g a_b a_s a_p a_w e_gb a_bb)), (a_g, (oc6 6 5 a_gn e_g)), (a_gn, (arI G 30 f_g)), (a_p, (oc6 8 5 a_pn e_p)), (a_pn, (arI G 40 f_p)), (a_j, (oc2 a_as a_sk)), (a_as, (arI G 8 f_as)), (a_sk, (arJ G 50 f_sk)), (a_l, (arW G 6 f_l))] sz) := by
  refine Met.ofW (cc := cX5_meetGlass) (maxL := 9) (ret := none) (by decide +kernel) rfl ?_
  intro p e s m args below meth c s₁ B hml hv
  obtain ⟨rfl, hsz, hP, hK, hD0, hN, hT⟩ := hv
  have hx := B.exec
  have hb := B.bytes
  have hr := B.returns
  have hts : ∀ w ∈ tblG, w.before _ s = true := fun w h => atoms_spec (ws := (wsG yX5_meetGlass cX5_meetGlass 9 none)) B.pre w (List.mem_cons_of_mem _ h)
  have hown : s.vm.findClass RX5 = some m.cls := findClass_of_methodNamed B.named
  have hlocks := B.notSynchronized
  subst hsz
  have hD := hD0.self (sz := s.heap.size)
  generalize hAe : va_A [(a_k, (oc5 a_h a_j a_pt e_ln e_se e_lh e_br e_we e_me e_ce e_wy e_ho e_ov)), (a_h, (oc1 e_wa e_le e_st e_fo e_lc a_l a_g a_b a_s a_p a_w e_gb a_bb)), (a_g, (oc6 6 5 a_gn e_g)), (a_gn, (arI G 30 f_g)), (a_p, (oc6 8 5 a_pn e_p)), (a_pn, (arI G 40 f_p)), (a_j, (oc2 a_as a_sk)), (a_as, (arI G 8 f_as)), (a_sk, (arJ G 50 f_sk)), (a_l, (arW G 6 f_l))] s.heap.size = A at hD hT ⊢
  have hA : ∀ q : Nat, s.heap.size ≤ q → A q := fun q h => by rw [← hAe]; exact Or.inr h
  have hS : va_S A s.heap s.heap [] := va_S.rf
  replace hP : va_P G.1 vwCl [(a_k, (oc5 a_h a_j a_pt e_ln e_se e_lh e_br e_we e_me e_ce e_wy e_ho e_ov)), (a_h, (oc1 e_wa e_le e_st e_fo e_lc a_l a_g a_b a_s a_p a_w e_gb a_bb)), (a_g, (oc6 6 5 a_gn e_g)), (a_gn, (arI G 30 f_g)), (a_p, (oc6 8 5 a_pn e_p)), (a_pn, (arI G 40 f_p)), (a_j, (oc2 a_as a_sk)), (a_as, (arI G 8 f_as)), (a_sk, (arJ G 50 f_sk)), (a_l, (arW G 6 f_l))] s.heap := hP
  have hl := lv_entry ([.ref a_k]) (n := 9) (Nat.le_of_ble_eq_true rfl)
  rw [lg_entry_eq]
  generalize (lg_sl ([.ref a_k]) ++ List.replicate (9 - (lg_sl ([.ref a_k])).length) Slot.unset).toArray = ls at hl ⊢
  replace hl : lv_has ls 9 [(0, .ref a_k)] := hl
  refine lv_aload_n hx hb dX5_meetGlass_0 rfl (lv_at hl 0 rfl) ?_
  refine lv_iconst (v := 1) hx hb dX5_meetGlass_1 (by decide +kernel) ?_
  refine va_put (D := G.1) (ci := 5) (v := .int 1) (ty := .boolean) (C := RX5) (T := TX5) (N := 13) hx hb hts inG_X5 tyX5 tyX5_ok nmX5 hown hK hP hD hS 0 rfl rfl 12 (by decide +kernel) (hts _ fl_X5_56) (fun _ h9 => h9) rfl (by decide +kernel) rfl rfl (Nat.le_of_ble_eq_true rfl) dX5_meetGlass_2 ?_
  clear hP hD hS
  intro H locs hP hD hS
  refine g5_rs [(a_k, (oc5 a_h a_j a_pt e_ln e_se e_lh e_br e_we e_me e_ce e_wy e_ho 1)), (a_h, (oc1 e_wa e_le e_st e_fo e_lc a_l a_g a_b a_s a_p a_w e_gb a_bb)), (a_g, (oc6 6 5 a_gn e_g)), (a_gn, (arI G 30 f_g)), (a_p, (oc6 8 5 a_pn e_p)), (a_pn, (arI G 40 f_p)), (a_j, (oc2 a_as a_sk)), (a_as, (arI G 8 f_as)), (a_sk, (arJ G 50 f_sk)), (a_l, (arW G 6 f_l))] hP hD ?_
  clear hP hD
  intro hP hD
  refine lv_aload_n hx hb dX5_meetGlass_5 rfl (lv_at hl 0 rfl) ?_
  refine W.eq (g2 := F0 m 6 ls [.ref a_k]) rfl ?_
  refine va_get (D := G.1) (ci := 5) (v := .ref a_h) (C := RX5) (T := TX5) (N := 13) hx hb hts inG_X5 hown hK hP 0 rfl rfl 0 (by decide +kernel) (hts _ fl_X5_22) (fun _ h9 => h9) rfl dX5_meetGlass_6 ?_
  refine va_get (D := G.1) (ci := 1) (v := .ref a_g) (C := RX1) (T := TX1) (N := 13) hx hb hts inG_X1 hown hK hP 1 rfl rfl 6 (by decide +kernel) (hts _ fl_X5_128) (fun _ h9 => h9) rfl dX5_meetGlass_9 ?_
  refine lv_iconst (v := 0) hx hb dX5_meetGlass_12 (by decide +kernel) ?_
  refine lv_aload_n hx hb dX5_meetGlass_13 rfl (lv_at hl 0 rfl) ?_
  refine va_get (D := G.1) (ci := 5) (v := .int e_ce) (C := RX5) (T := TX5) (N := 13) hx hb hts inG_X5 hown hK hP 0 rfl rfl 9 (by decide +kernel) (hts _ fl_X5_26) (fun _ h9 => h9) rfl dX5_meetGlass_14 ?_
  refine W.eq (g2 := F0 m 17 ls [.int e_ce, .int 0, .ref a_g]) rfl ?_
  obtain ⟨hPc, hDc, hFc⟩ := g5_sub3 (wc := [(a_g, (oc6 6 5 a_gn e_g)), (a_gn, (arI G 30 f_g))]) hP hD hS hA [2, 3] (by decide +kernel) rfl
  refine va_calli (va_runV (As := [.int 0, .int e_ce]) (rest := []) ⟨hx, hb, hml, hown, hts⟩ (t_find_G l G a_g a_gn H.size e_g 0 e_ce f_g h_e_g) (cwV 2 hts gV_X5_131 rfl rfl rfl hv_X6_find ⟨Nat.le_of_ble_eq_true rfl, Nat.le_of_ble_eq_true rfl⟩) (g5_preV hPc hK hDc hN hT hS hFc (ci := 6) (q0 := 0) rfl rfl) rfl rfl hl.1 rfl (lv_room (Nat.le_of_ble_eq_true rfl)) dX5_meetGlass_17 ⟨Nat.le_of_ble_eq_true rfl, Nat.le_of_ble_eq_true rfl⟩) hS (fun q _ h => hFc q h) hFc (fun r u t H locs ht hvm hw hB hz1 hk1 hS => ?_)
  obtain ⟨hP1, hD1⟩ := hB
  have hP1 := g5_ht ht hP1
  rcases hw with ⟨(i_1 : ∀ r : Int, 0 ≤ r → r < e_g.toInt → tget f_g e_g.toInt 5 r (0 : Int32).toInt ≠ e_ce), rfl, rfl⟩ | ⟨z4, (i_2 : 0 ≤ z4.toInt ∧ z4.toInt < e_g.toInt), (i_3 : tget f_g e_g.toInt 5 z4.toInt (0 : Int32).toInt = e_ce), y5, rfl⟩
  ·
    have hJ9 := va_join (wr := [(a_k, (oc5 a_h a_j a_pt e_ln e_se e_lh e_br e_we e_me e_ce e_wy e_ho 1)), (a_h, (oc1 e_wa e_le e_st e_fo e_lc a_l a_g a_b a_s a_p a_w e_gb a_bb)), (a_p, (oc6 8 5 a_pn e_p)), (a_pn, (arI G 40 f_p)), (a_j, (oc2 a_as a_sk)), (a_as, (arI G 8 f_as)), (a_sk, (arJ G 50 f_sk)), (a_l, (arW G 6 f_l))]) hP hD [2, 3] [0, 1, 4, 5, 6, 7, 8, 9] rfl rfl (by decide +kernel) (by decide +kernel) hk1 hFc hP1 hD1
    clear hP hD hPc hDc hFc ht hvm hz1 hk1 hP1 hD1
    obtain ⟨hP, hD⟩ := hJ9
    refine g5_rs [(a_k, (oc5 a_h a_j a_pt e_ln e_se e_lh e_br e_we e_me e_ce e_wy e_ho 1)), (a_h, (oc1 e_wa e_le e_st e_fo e_lc a_l a_g a_b a_s a_p a_w e_gb a_bb)), (a_p, (oc6 8 5 a_pn e_p)), (a_pn, (arI G 40 f_p)), (a_j, (oc2 a_as a_sk)), (a_as, (arI G 8 f_as)), (a_sk, (arJ G 50 f_sk)), (a_l, (arW G 6 f_l)), (a_g, (oc6 6 5 a_gn e_g)), (a_gn, (arI G 30 f_g))] hP hD ?_
    clear hP hD
    intro hP hD
    refine lv_istore_n (lv' := [(1, .int (-1)), (0, .ref a_k)]) hx hb dX5_meetGlass_20 rfl hl (by decide +kernel) rfl ?_
    clear hl
    intro ls hl
    refine lv_iload_n hx hb dX5_meetGlass_21 rfl (lv_at hl 0 rfl) ?_
    refine lv_iconst (v := (-1)) hx hb dX5_meetGlass_22 (by decide +kernel) ?_
    refine lv_icmp_ne (tgt := 36) hx hb dX5_meetGlass_23 (by decide +kernel) (fun c_6 => ?_) (fun c_6 => ?_)
    ·
      exact absurd c_6 (by decide +kernel)
    ·
      refine lv_aload_n hx hb dX5_meetGlass_26 rfl (lv_at hl 1 rfl) ?_
      refine va_get (D := G.1) (ci := 5) (v := .ref a_h) (C := RX5) (T := TX5) (N := 13) hx hb hts inG_X5 hown hK hP 0 rfl rfl 0 (by decide +kernel) (hts _ fl_X5_22) (fun _ h9 => h9) rfl dX5_meetGlass_27 ?_
      refine va_get (D := G.1) (ci := 1) (v := .ref a_p) (C := RX1) (T := TX1) (N := 13) hx hb hts inG_X1 hown hK hP 1 rfl rfl 9 (by decide +kernel) (hts _ fl_X5_98) (fun _ h9 => h9) rfl dX5_meetGlass_30 ?_
      refine lv_goto (tgt := 43) hx hb dX5_meetGlass_33 (by decide +kernel) ?_
      refine W.eq (g2 := F0 m 43 ls [.ref a_p]) rfl ?_
      refine lv_astore_n (lv' := [(2, .ref a_p), (1, .int (-1)), (0, .ref a_k)]) hx hb dX5_meetGlass_43 rfl hl (by decide +kernel) rfl ?_
      clear hl
      intro ls hl
      refine lv_iload_n hx hb dX5_meetGlass_44 rfl (lv_at hl 1 rfl) ?_
      refine lv_iconst (v := (-1)) hx hb dX5_meetGlass_45 (by decide +kernel) ?_
      refine lv_icmp_ne (tgt := 67) hx hb dX5_meetGlass_46 (by decide +kernel) (fun c_7 => ?_) (fun c_7 => ?_)
      ·
        exact absurd c_7 (by decide +kernel)
      ·
        refine lv_aload_n hx hb dX5_meetGlass_49 rfl (lv_at hl 2 rfl) ?_
        refine va_get (D := G.1) (ci := 5) (v := .ref a_h) (C := RX5) (T := TX5) (N := 13) hx hb hts inG_X5 hown hK hP 0 rfl rfl 0 (by decide +kernel) (hts _ fl_X5_22) (fun _ h9 => h9) rfl dX5_meetGlass_50 ?_
        refine va_get (D := G.1) (ci := 1) (v := .ref a_p) (C := RX1) (T := TX1) (N := 13) hx hb hts inG_X1 hown hK hP 1 rfl rfl 9 (by decide +kernel) (hts _ fl_X5_98) (fun _ h9 => h9) rfl dX5_meetGlass_53 ?_
        refine lv_iconst (v := 0) hx hb dX5_meetGlass_56 (by decide +kernel) ?_
        refine W.eq (g2 := F0 m 57 ls [.int 0, .ref a_p]) rfl ?_
        refine lv_aload_n hx hb dX5_meetGlass_57 rfl (lv_at hl 2 rfl) ?_
        refine va_get (D := G.1) (ci := 5) (v := .int e_ce) (C := RX5) (T := TX5) (N := 13) hx hb hts inG_X5 hown hK hP 0 rfl rfl 9 (by decide +kernel) (hts _ fl_X5_26) (fun _ h9 => h9) rfl dX5_meetGlass_58 ?_
        obtain ⟨hPc, hDc, hFc⟩ := g5_sub3 (wc := [(a_p, (oc6 8 5 a_pn e_p)), (a_pn, (arI G 40 f_p))]) hP hD hS hA [2, 3] (by decide +kernel) rfl
        refine va_calli (va_runV (As := [.int 0, .int e_ce]) (rest := []) ⟨hx, hb, hml, hown, hts⟩ (t_find_P l G a_p a_pn H.size e_p 0 e_ce f_p h_e_p) (cwV 2 hts gV_X5_131 rfl rfl rfl hv_X6_find ⟨Nat.le_of_ble_eq_true rfl, Nat.le_of_ble_eq_true rfl⟩) (g5_preV hPc hK hDc hN hT hS hFc (ci := 6) (q0 := 0) rfl rfl) rfl rfl hl.1 rfl (lv_room (Nat.le_of_ble_eq_true rfl)) dX5_meetGlass_61 ⟨Nat.le_of_ble_eq_true rfl, Nat.le_of_ble_eq_true rfl⟩) hS (fun q _ h => hFc q h) hFc (fun r u t H locs ht hvm hw hB hz1 hk1 hS => ?_)
        obtain ⟨hP1, hD1⟩ := hB
        have hP1 := g5_ht ht hP1
        rcases hw with ⟨(i_8 : ∀ r : Int, 0 ≤ r → r < e_p.toInt → tget f_p e_p.toInt 5 r (0 : Int32).toInt ≠ e_ce), rfl, rfl⟩ | ⟨z11, (i_9 : 0 ≤ z11.toInt ∧ z11.toInt < e_p.toInt), (i_10 : tget f_p e_p.toInt 5 z11.toInt (0 : Int32).toInt = e_ce), y12, rfl⟩
        ·
          have hJ9 := va_join (wr := [(a_k, (oc5 a_h a_j a_pt e_ln e_se e_lh e_br e_we e_me e_ce e_wy e_ho 1)), (a_h, (oc1 e_wa e_le e_st e_fo e_lc a_l a_g a_b a_s a_p a_w e_gb a_bb)), (a_j, (oc2 a_as a_sk)), (a_as, (arI G 8 f_as)), (a_sk, (arJ G 50 f_sk)), (a_l, (arW G 6 f_l)), (a_g, (oc6 6 5 a_gn e_g)), (a_gn, (arI G 30 f_g))]) hP hD [2, 3] [0, 1, 4, 5, 6, 7, 8, 9] rfl rfl (by decide +kernel) (by decide +kernel) hk1 hFc hP1 hD1
          clear hP hD hPc hDc hFc ht hvm hz1 hk1 hP1 hD1
          obtain ⟨hP, hD⟩ := hJ9
          refine g5_rs [(a_k, (oc5 a_h a_j a_pt e_ln e_se e_lh e_br e_we e_me e_ce e_wy e_ho 1)), (a_h, (oc1 e_wa e_le e_st e_fo e_lc a_l a_g a_b a_s a_p a_w e_gb a_bb)), (a_j, (oc2 a_as a_sk)), (a_as, (arI G 8 f_as)), (a_sk, (arJ G 50 f_sk)), (a_l, (arW G 6 f_l)), (a_g, (oc6 6 5 a_gn e_g)), (a_gn, (arI G 30 f_g)), (a_p, (oc6 8 5 a_pn e_p)), (a_pn, (arI G 40 f_p))] hP hD ?_
          clear hP hD
          intro hP hD
          refine lv_goto (tgt := 68) hx hb dX5_meetGlass_64 (by decide +kernel) ?_
          rcases e_in with e_in | e_in
          · exact absurd e_in (g_notin i_1)
          · exact absurd e_in (g_notin i_8)
        ·
          have hJ9 := va_join (wr := [(a_k, (oc5 a_h a_j a_pt e_ln e_se e_lh e_br e_we e_me e_ce e_wy e_ho 1)), (a_h, (oc1 e_wa e_le e_st e_fo e_lc a_l a_g a_b a_s a_p a_w e_gb a_bb)), (a_j, (oc2 a_as a_sk)), (a_as, (arI G 8 f_as)), (a_sk, (arJ G 50 f_sk)), (a_l, (arW G 6 f_l)), (a_g, (oc6 6 5 a_gn e_g)), (a_gn, (arI G 30 f_g))]) hP hD [2, 3] [0, 1, 4, 5, 6, 7, 8, 9] rfl rfl (by decide +kernel) (by decide +kernel) hk1 hFc hP1 hD1
          clear hP hD hPc hDc hFc ht hvm hz1 hk1 hP1 hD1
          obtain ⟨hP, hD⟩ := hJ9
          refine g5_rs [(a_k, (oc5 a_h a_j a_pt e_ln e_se e_lh e_br e_we e_me e_ce e_wy e_ho 1)), (a_h, (oc1 e_wa e_le e_st e_fo e_lc a_l a_g a_b a_s a_p a_w e_gb a_bb)), (a_j, (oc2 a_as a_sk)), (a_as, (arI G 8 f_as)), (a_sk, (arJ G 50 f_sk)), (a_l, (arW G 6 f_l)), (a_g, (oc6 6 5 a_gn e_g)), (a_gn, (arI G 30 f_g)), (a_p, (oc6 8 5 a_pn e_p)), (a_pn, (arI G 40 f_p))] hP hD ?_
          clear hP hD
          intro hP hD
          refine g5_ti (v := z11) y12 ?_
          refine lv_goto (tgt := 68) hx hb dX5_meetGlass_64 (by decide +kernel) ?_
          refine lv_istore_n (lv' := [(3, .int z11), (2, .ref a_p), (1, .int (-1)), (0, .ref a_k)]) hx hb dX5_meetGlass_68 rfl hl (by decide +kernel) rfl ?_
          clear hl
          intro ls hl
          refine lv_iload_n hx hb dX5_meetGlass_69 rfl (lv_at hl 2 rfl) ?_
          refine lv_iconst (v := (-1)) hx hb dX5_meetGlass_70 (by decide +kernel) ?_
          refine W.eq (g2 := F0 m 71 ls [.int (-1), .int (-1)]) rfl ?_
          refine lv_icmp_ne (tgt := 81) hx hb dX5_meetGlass_71 (by decide +kernel) (fun c_13 => ?_) (fun c_13 => ?_)
          ·
            exact absurd c_13 (by decide +kernel)
          ·
            refine lv_bipush (v := 6) hx hb dX5_meetGlass_74 (by decide +kernel) ?_
            refine lv_iload_n hx hb dX5_meetGlass_76 rfl (lv_at hl 0 rfl) ?_
            refine lv_iadd hx hb dX5_meetGlass_77 ?_
            have t_14 : (6 + z11).toInt = 6 + z11.toInt := g5_iadd (a := 6) (b := z11.toInt) (by decide +kernel) (by rfl) (by omega) (by omega)
            refine lv_goto (tgt := 82) hx hb dX5_meetGlass_78 (by decide +kernel) ?_
            refine W.eq (g2 := F0 m 82 ls [.int (6 + z11)]) rfl ?_
            refine lv_istore (lv' := [(4, .int (6 + z11)), (3, .int z11), (2, .ref a_p), (1, .int (-1)), (0, .ref a_k)]) hx hb dX5_meetGlass_82 hl (by decide +kernel) rfl ?_
            clear hl
            intro ls hl
            refine k_mgpN1 G a_k a_h a_g a_gn a_p a_pn a_j a_as a_sk a_l a_pt a_b a_s a_w a_bb e_ln e_se e_lh e_br e_we e_me e_ce e_wy e_ho 1 e_le e_st e_fo e_lc e_wa e_gb e_g f_g e_p f_p f_as f_sk f_l z11 (6 + z11) hx hb hml hown hts hK hN hT hA (hP.sub [0, 1, 6, 7, 8, 9, 2, 3, 4, 5] rfl) (hD.sub [0, 1, 6, 7, 8, 9, 2, 3, 4, 5] (by decide +kernel) rfl) hS (lv_sub hl [4, 2, 1, 0] rfl) ⟨by omega, by omega⟩ ⟨by omega, by omega⟩ ⟨by omega, by omega⟩ ⟨by omega, by omega⟩ ⟨by decide, by decide⟩ ⟨by omega, by omega⟩ ⟨by omega, by omega⟩ ⟨by omega, by omega⟩ (e_gk) (e_pk) (e_f) (by omega) (fun pc1 hd o_b o_w o_m o_y o_h o_v o_a o_k ls H locs hP hD hS i_b i_y i_h i_v => ?_)
            refine g5_rs [(a_k, (oc5 a_h a_j a_pt e_ln e_se e_lh o_b o_w o_m e_ce o_y o_h o_v)), (a_h, (oc1 e_wa e_le e_st e_fo e_lc a_l a_g a_b a_s a_p a_w e_gb a_bb)), (a_g, (oc6 6 5 a_gn e_g)), (a_gn, (arI G 30 f_g)), (a_p, (oc6 8 5 a_pn e_p)), (a_pn, (arI G 40 f_p)), (a_j, (oc2 a_as a_sk)), (a_as, (arI G 8 o_a)), (a_sk, (arJ G 50 o_k)), (a_l, (arW G 6 f_l))] hP hD ?_
            clear hP hD
            intro hP hD
            have i_b : 0 ≤ o_b.toInt ∧ o_b.toInt ≤ 1000000 := i_b
            have i_y : 0 ≤ o_y.toInt ∧ o_y.toInt ≤ 3 := i_y
            have i_h : 0 ≤ o_h.toInt ∧ o_h.toInt ≤ 23 := i_h
            have i_v : 0 ≤ o_v.toInt ∧ o_v.toInt ≤ 1 := i_v
            exact W.vret hx hb hr (fun t ht hW => ⟨⟨[(a_k, (oc5 a_h a_j a_pt e_ln e_se e_lh o_b o_w o_m e_ce o_y o_h o_v)), (a_h, (oc1 e_wa e_le e_st e_fo e_lc a_l a_g a_b a_s a_p a_w e_gb a_bb)), (a_g, (oc6 6 5 a_gn e_g)), (a_gn, (arI G 30 f_g)), (a_p, (oc6 8 5 a_pn e_p)), (a_pn, (arI G 40 f_p)), (a_j, (oc2 a_as a_sk)), (a_as, (arI G 8 o_a)), (a_sk, (arJ G 50 o_k)), (a_l, (arW G 6 f_l))], rfl, ⟨o_b, o_w, o_m, o_y, o_h, o_v, o_a, o_k, ⟨by omega, by omega⟩, ⟨by omega, by omega⟩, ⟨by omega, by omega⟩, ⟨by omega, by omega⟩, rfl⟩, by rw [ht]; exact hP.sub [0, 1, 2, 3, 4, 5, 6, 7, 8, 9] rfl, hD.sub [0, 1, 2, 3, 4, 5, 6, 7, 8, 9] (by decide +kernel) rfl⟩, hS.F ht⟩) hS.2.2 hd
  ·
    have hJ9 := va_join (wr := [(a_k, (oc5 a_h a_j a_pt e_ln e_se e_lh e_br e_we e_me e_ce e_wy e_ho 1)), (a_h, (oc1 e_wa e_le e_st e_fo e_lc a_l a_g a_b a_s a_p a_w e_gb a_bb)), (a_p, (oc6 8 5 a_pn e_p)), (a_pn, (arI G 40 f_p)), (a_j, (oc2 a_as a_sk)), (a_as, (arI G 8 f_as)), (a_sk, (arJ G 50 f_sk)), (a_l, (arW G 6 f_l))]) hP hD [2, 3] [0, 1, 4, 5, 6, 7, 8, 9] rfl rfl (by decide +kernel) (by decide +kernel) hk1 hFc hP1 hD1
    clear hP hD hPc hDc hFc ht hvm hz1 hk1 hP1 hD1
    obtain ⟨hP, hD⟩ := hJ9
    refine g5_rs [(a_k, (oc5 a_h a_j a_pt e_ln e_se e_lh e_br e_we e_me e_ce e_wy e_ho 1)), (a_h, (oc1 e_wa e_le e_st e_fo e_lc a_l a_g a_b a_s a_p a_w e_gb a_bb)), (a_p, (oc6 8 5 a_pn e_p)), (a_pn, (arI G 40 f_p)), (a_j, (oc2 a_as a_sk)), (a_as, (arI G 8 f_as)), (a_sk, (arJ G 50 f_sk)), (a_l, (arW G 6 f_l)), (a_g, (oc6 6 5 a_gn e_g)), (a_gn, (arI G 30 f_g))] hP hD ?_
    clear hP hD
    intro hP hD
    refine g5_ti (v := z4) y5 ?_
    refine lv_istore_n (lv' := [(1, .int z4), (0, .ref a_k)]) hx hb dX5_meetGlass_20 rfl hl (by decide +kernel) rfl ?_
    clear hl
    intro ls hl
    refine lv_iload_n hx hb dX5_meetGlass_21 rfl (lv_at hl 0 rfl) ?_
    refine lv_iconst (v := (-1)) hx hb dX5_meetGlass_22 (by decide +kernel) ?_
    refine lv_icmp_ne (tgt := 36) hx hb dX5_meetGlass_23 (by decide +kernel) (fun c_15 => ?_) (fun c_15 => ?_)
    ·
      have n_15 : gNe (z4.toInt) ((-1)) := g5_ne (a := z4.toInt) (b := (-1)) rfl (by decide +kernel) c_15
      refine lv_aload_n hx hb dX5_meetGlass_36 rfl (lv_at hl 1 rfl) ?_
      refine va_get (D := G.1) (ci := 5) (v := .ref a_h) (C := RX5) (T := TX5) (N := 13) hx hb hts inG_X5 hown hK hP 0 rfl rfl 0 (by decide +kernel) (hts _ fl_X5_22) (fun _ h9 => h9) rfl dX5_meetGlass_37 ?_
      refine va_get (D := G.1) (ci := 1) (v := .ref a_g) (C := RX1) (T := TX1) (N := 13) hx hb hts inG_X1 hown hK hP 1 rfl rfl 6 (by decide +kernel) (hts _ fl_X5_128) (fun _ h9 => h9) rfl dX5_meetGlass_40 ?_
      refine lv_astore_n (lv' := [(2, .ref a_g), (1, .int z4), (0, .ref a_k)]) hx hb dX5_meetGlass_43 rfl hl (by decide +kernel) rfl ?_
      clear hl
      intro ls hl
      refine W.eq (g2 := F0 m 44 ls []) rfl ?_
      refine lv_iload_n hx hb dX5_meetGlass_44 rfl (lv_at hl 1 rfl) ?_
      refine lv_iconst (v := (-1)) hx hb dX5_meetGlass_45 (by decide +kernel) ?_
      refine lv_icmp_ne (tgt := 67) hx hb dX5_meetGlass_46 (by decide +kernel) (fun c_16 => ?_) (fun c_16 => ?_)
      ·
        have n_16 : gNe (z4.toInt) ((-1)) := g5_ne (a := z4.toInt) (b := (-1)) rfl (by decide +kernel) c_16
        refine lv_iload_n hx hb dX5_meetGlass_67 rfl (lv_at hl 1 rfl) ?_
        refine lv_istore_n (lv' := [(3, .int z4), (2, .ref a_g), (1, .int z4), (0, .ref a_k)]) hx hb dX5_meetGlass_68 rfl hl (by decide +kernel) rfl ?_
        clear hl
        intro ls hl
        refine lv_iload_n hx hb dX5_meetGlass_69 rfl (lv_at hl 2 rfl) ?_
        refine lv_iconst (v := (-1)) hx hb dX5_meetGlass_70 (by decide +kernel) ?_
        refine W.eq (g2 := F0 m 71 ls [.int (-1), .int z4]) rfl ?_
        refine lv_icmp_ne (tgt := 81) hx hb dX5_meetGlass_71 (by decide +kernel) (fun c_17 => ?_) (fun c_17 => ?_)
        ·
          have n_17 : gNe (z4.toInt) ((-1)) := g5_ne (a := z4.toInt) (b := (-1)) rfl (by decide +kernel) c_17
          refine lv_iload_n hx hb dX5_meetGlass_81 rfl (lv_at hl 2 rfl) ?_
          refine lv_istore (lv' := [(4, .int z4), (3, .int z4), (2, .ref a_g), (1, .int z4), (0, .ref a_k)]) hx hb dX5_meetGlass_82 hl (by decide +kernel) rfl ?_
          clear hl
          intro ls hl
          refine k_mggN1 G a_k a_h a_g a_gn a_p a_pn a_j a_as a_sk a_l a_pt a_b a_s a_w a_bb e_ln e_se e_lh e_br e_we e_me e_ce e_wy e_ho 1 e_le e_st e_fo e_lc e_wa e_gb e_g f_g e_p f_p f_as f_sk f_l z4 z4 hx hb hml hown hts hK hN hT hA (hP.sub [0, 1, 8, 9, 2, 3, 4, 5, 6, 7] rfl) (hD.sub [0, 1, 8, 9, 2, 3, 4, 5, 6, 7] (by decide +kernel) rfl) hS (lv_sub hl [4, 2, 1, 0] rfl) ⟨by omega, by omega⟩ ⟨by omega, by omega⟩ ⟨by omega, by omega⟩ ⟨by omega, by omega⟩ ⟨by decide, by decide⟩ ⟨by omega, by omega⟩ ⟨by omega, by omega⟩ ⟨by omega, by omega⟩ (e_gk) (e_pk) (e_f) (by omega) (fun pc1 hd o_b o_w o_m o_y o_h o_v o_a o_k ls H locs hP hD hS i_b i_y i_h i_v => ?_)
          refine g5_rs [(a_k, (oc5 a_h a_j a_pt e_ln e_se e_lh o_b o_w o_m e_ce o_y o_h o_v)), (a_h, (oc1 e_wa e_le e_st e_fo e_lc a_l a_g a_b a_s a_p a_w e_gb a_bb)), (a_g, (oc6 6 5 a_gn e_g)), (a_gn, (arI G 30 f_g)), (a_p, (oc6 8 5 a_pn e_p)), (a_pn, (arI G 40 f_p)), (a_j, (oc2 a_as a_sk)), (a_as, (arI G 8 o_a)), (a_sk, (arJ G 50 o_k)), (a_l, (arW G 6 f_l))] hP hD ?_
          clear hP hD
          intro hP hD
          have i_b : 0 ≤ o_b.toInt ∧ o_b.toInt ≤ 1000000 := i_b
          have i_y : 0 ≤ o_y.toInt ∧ o_y.toInt ≤ 3 := i_y
          have i_h : 0 ≤ o_h.toInt ∧ o_h.toInt ≤ 23 := i_h
          have i_v : 0 ≤ o_v.toInt ∧ o_v.toInt ≤ 1 := i_v
          exact W.vret hx hb hr (fun t ht hW => ⟨⟨[(a_k, (oc5 a_h a_j a_pt e_ln e_se e_lh o_b o_w o_m e_ce o_y o_h o_v)), (a_h, (oc1 e_wa e_le e_st e_fo e_lc a_l a_g a_b a_s a_p a_w e_gb a_bb)), (a_g, (oc6 6 5 a_gn e_g)), (a_gn, (arI G 30 f_g)), (a_p, (oc6 8 5 a_pn e_p)), (a_pn, (arI G 40 f_p)), (a_j, (oc2 a_as a_sk)), (a_as, (arI G 8 o_a)), (a_sk, (arJ G 50 o_k)), (a_l, (arW G 6 f_l))], rfl, ⟨o_b, o_w, o_m, o_y, o_h, o_v, o_a, o_k, ⟨by omega, by omega⟩, ⟨by omega, by omega⟩, ⟨by omega, by omega⟩, ⟨by omega, by omega⟩, rfl⟩, by rw [ht]; exact hP.sub [0, 1, 2, 3, 4, 5, 6, 7, 8, 9] rfl, hD.sub [0, 1, 2, 3, 4, 5, 6, 7, 8, 9] (by decide +kernel) rfl⟩, hS.F ht⟩) hS.2.2 hd
        ·
          have i_17 : z4.toInt = (-1) := g5_neN (a := z4.toInt) (b := (-1)) rfl (by decide +kernel) c_17
          omega
      ·
        have i_16 : z4.toInt = (-1) := g5_neN (a := z4.toInt) (b := (-1)) rfl (by decide +kernel) c_16
        omega
    ·
      have i_15 : z4.toInt = (-1) := g5_neN (a := z4.toInt) (b := (-1)) rfl (by decide +kernel) c_15
      omega
set_option maxHeartbeats 4000000 in
set_option maxRecDepth 100000 in
theorem k_mggL4 {p : Program} {l : Launch} {e : Env} {s : State} {m : MethodId} {args : Array Value} {below : List Frame} {meth : Method} {c : Code} {Q : State → Prop} {A : Nat → Prop} {H : Heap} {locs : List Loc} {ls : Array Slot} (G : g5_G) (a_k a_h a_g a_gn a_p a_pn a_j a_as a_sk a_l a_lo a_sr a_cd a_hd a_pt a_b a_s a_w a_bb n_sr n_cd n_hd : Nat) (e_ln : Int32) (e_se : Int32) (e_lh : Int32) (e_br : Int32) (e_we : Int32) (e_me : Int32) (e_ce : Int32) (e_wy : Int32) (e_ho : Int32) (e_ov : Int32) (e_le : Int32) (e_st : Int32) (e_fo : Int32) (e_lc : Int32) (e_wa : Int64) (e_gb : Int64) (e_g : Int32) (f_g : Nat → Int32) (e_p : Int32) (f_p : Nat → Int32) (f_as : Nat → Int32) (f_sk : Nat → Int64) (f_l : Nat → Option Nat) (e_cl : Int32) (f_sr : Nat → Int32) (f_cd : Nat → Int32) (f_hd : Nat → Int32) (k_r : Int32) (k_n : Int32) (k_s : Int32) (k_l : Int32) (k_d : Int32) (hx : p.tables.exec = Jvm.exec) (hb : c.code = cX5_meetGlass) (hml : c.maxLocals = 9) (hown : s.vm.findClass RX5 = some m.cls) (hts : ∀ w ∈ tblG, w.before args s = true) (hK : va_K G.1 vwCl (T5 G) s) (hN : g5_N s) (hT : g5_S A s s.heap) (hA : ∀ q : Nat, s.heap.size ≤ q → A q) (hP : va_P G.1 vwCl [(a_k, (oc5 a_h a_j a_pt e_ln e_se e_lh e_br e_we e_me e_ce e_wy e_ho e_ov)), (a_h, (oc1 e_wa e_le e_st e_fo e_lc a_l a_g a_b a_s a_p a_w e_gb a_bb)), (a_g, (oc6 6 5 a_gn e_g)), (a_gn, (arI G 30 f_g)), (a_p, (oc6 8 5 a_pn e_p)), (a_pn, (arI G 40 f_p)), (a_j, (oc2 a_as a_sk)), (a_as, (arI G 8 f_as)), (a_sk, (arJ G 50 f_sk)), (a_l, (arW G 6 f_l)), (a_lo, (oc3 e_cl a_hd a_sr a_cd)), (a_sr, (arI G n_sr f_sr)), (a_cd, (arI G n_cd f_cd)), (a_hd, (arI G n_hd f_hd))] H) (hD : va_D A [(a_k, (oc5 a_h a_j a_pt e_ln e_se e_lh e_br e_we e_me e_ce e_wy e_ho e_ov)), (a_h, (oc1 e_wa e_le e_st e_fo e_lc a_l a_g a_b a_s a_p a_w e_gb a_bb)), (a_g, (oc6 6 5 a_gn e_g)), (a_gn, (arI G 30 f_g)), (a_p, (oc6 8 5 a_pn e_p)), (a_pn, (arI G 40 f_p)), (a_j, (oc2 a_as a_sk)), (a_as, (arI G 8 f_as)), (a_sk, (arJ G 50 f_sk)), (a_l, (arW G 6 f_l)), (a_lo, (oc3 e_cl a_hd a_sr a_cd)), (a_sr, (arI G n_sr f_sr)), (a_cd, (arI G n_cd f_cd)), (a_hd, (arI G n_hd f_hd))]) (hS : va_S A s.heap H locs) (hl : lv_has ls 9 [(0, .ref a_k), (2, .ref a_g), (3, .int k_r), (4, .int k_n), (5, .int k_s), (7, .int k_l), (8, .int k_d)]) (h_e_br : 0 ≤ e_br.toInt ∧ e_br.toInt ≤ 1000000) (h_e_ce : 0 ≤ e_ce.toInt ∧ e_ce.toInt ≤ 63) (h_e_wy : 0 ≤ e_wy.toInt ∧ e_wy.toInt ≤ 3) (h_e_ho : 0 ≤ e_ho.toInt ∧ e_ho.toInt ≤ 23) (h_e_ov : 0 ≤ e_ov.toInt ∧ e_ov.toInt ≤ 1) (h_e_g : 0 ≤ e_g.toInt ∧ e_g.toInt ≤ 6) (h_e_p : 0 ≤ e_p.toInt ∧ e_p.toInt ≤ 8) (h_e_cl : 0 ≤ e_cl.toInt ∧ e_cl.toInt ≤ 12) (h_k_r : 0 ≤ k_r.toInt ∧ k_r.toInt ≤ 7) (h_k_s : 0 ≤ k_s.toInt ∧ k_s.toInt ≤ 5) (h_k_l : 0 ≤ k_l.toInt ∧ k_l.toInt ≤ 23) (h_k_d : 0 ≤ k_d.toInt ∧ k_d.toInt ≤ 10) (e_lt : k_l.toInt ≤ e_ho.toInt) (kk : ∀ (pc1 : Nat), decode cX5_meetGlass pc1 = .ok (.return_, 1) → ∀ (o_b : Int32) (o_w : Int32) (o_m : Int32) (o_y : Int32) (o_h : Int32) (o_v : Int32) (o_a : Nat → Int32) (o_k : Nat → Int64) (ls : Array Slot) (H : Heap) (locs : List Loc), va_P G.1 vwCl [(a_k, (oc5 a_h a_j a_pt e_ln e_se e_lh o_b o_w o_m e_ce o_y o_h o_v)), (a_h, (oc1 e_wa e_le e_st e_fo e_lc a_l a_g a_b a_s a_p a_w e_gb a_bb)), (a_g, (oc6 6 5 a_gn e_g)), (a_gn, (arI G 30 f_g)), (a_p, (oc6 8 5 a_pn e_p)), (a_pn, (arI G 40 f_p)), (a_j, (oc2 a_as a_sk)), (a_as, (arI G 8 o_a)), (a_sk, (arJ G 50 o_k)), (a_l, (arW G 6 f_l)), (a_lo, (oc3 e_cl a_hd a_sr a_cd)), (a_sr, (arI G n_sr f_sr)), (a_cd, (arI G n_cd f_cd)), (a_hd, (arI G n_hd f_hd))] H → va_D A [(a_k, (oc5 a_h a_j a_pt e_ln e_se e_lh o_b o_w o_m e_ce o_y o_h o_v)), (a_h, (oc1 e_wa e_le e_st e_fo e_lc a_l a_g a_b a_s a_p a_w e_gb a_bb)), (a_g, (oc6 6 5 a_gn e_g)), (a_gn, (arI G 30 f_g)), (a_p, (oc6 8 5 a_pn e_p)), (a_pn, (arI G 40 f_p)), (a_j, (oc2 a_as a_sk)), (a_as, (arI G 8 o_a)), (a_sk, (arJ G 50 o_k)), (a_l, (arW G 6 f_l)), (a_lo, (oc3 e_cl a_hd a_sr a_cd)), (a_sr, (arI G n_sr f_sr)), (a_cd, (arI G n_cd f_cd)), (a_hd, (arI G n_hd f_hd))] → va_S A s.heap H locs → (0 ≤ o_b.toInt ∧ o_b.toInt ≤ 1000000) → (0 ≤ o_y.toInt ∧ o_y.toInt ≤ 3) → (0 ≤ o_h.toInt ∧ o_h.toInt ≤ 23) → (0 ≤ o_v.toInt ∧ o_v.toInt ≤ 1) → W p l e ({ frames := 12, cells := 0, slots := 0, locals := 500 } : Room) s m args below meth c H locs 0 0 Q (F0 m pc1 ls [])) : W p l e ({ frames := 12, cells := 0, slots := 0, locals := 500 } : Room) s m args below meth c H locs 0 0 Q (F0 m 246 ls []) := by
  refine lv_aload_n hx hb dX5_meetGlass_246 rfl (lv_at hl 0 rfl) ?_
  refine lv_aload_n hx hb dX5_meetGlass_247 rfl (lv_at hl 0 rfl) ?_
  refine va_get (D := G.1) (ci := 5) (v := .int e_br) (C := RX5) (T := TX5) (N := 13) hx hb hts inG_X5 hown hK hP 0 rfl rfl 6 (by decide +kernel) (hts _ fl_X5_46) (fun _ h9 => h9) rfl dX5_meetGlass_248 ?_
  refine lv_bipush (v := 10) hx hb dX5_meetGlass_251 (by decide +kernel) ?_
  refine W.eq (g2 := F0 m 253 ls [.int 10, .int e_br, .ref a_k]) rfl ?_
  refine lv_iload hx hb dX5_meetGlass_253 (lv_at hl 6 rfl) ?_
  refine lv_isub hx hb dX5_meetGlass_255 ?_
  have t_1 : (10 - k_d).toInt = 10 - k_d.toInt := g5_isub (a := 10) (b := k_d.toInt) (by decide +kernel) (by rfl) (by omega) (by omega)
  refine lv_imul hx hb dX5_meetGlass_256 ?_
  refine lv_bipush (v := 10) hx hb dX5_meetGlass_257 (by decide +kernel) ?_
  refine lv_idiv hx hb dX5_meetGlass_259 (by decide +kernel) ?_
  have hb_2 : 0 ≤ ((e_br * (10 - k_d)) / 10).toInt ∧ ((e_br * (10 - k_d)) / 10).toInt ≤ 1000000 := g_dust (by omega) (by omega)
  refine W.eq (g2 := F0 m 260 ls [.int ((e_br * (10 - k_d)) / 10), .ref a_k]) rfl ?_
  refine va_put (D := G.1) (ci := 5) (v := .int ((e_br * (10 - k_d)) / 10)) (ty := .int) (C := RX5) (T := TX5) (N := 13) hx hb hts inG_X5 tyX5 tyX5_ok nmX5 hown hK hP hD hS 0 rfl rfl 6 (by decide +kernel) (hts _ fl_X5_46) (fun _ h9 => h9) rfl (by decide +kernel) rfl rfl (Nat.le_of_ble_eq_true rfl) dX5_meetGlass_260 ?_
  clear hP hD hS
  intro H locs hP hD hS
  refine g5_rs [(a_k, (oc5 a_h a_j a_pt e_ln e_se e_lh ((e_br * (10 - k_d)) / 10) e_we e_me e_ce e_wy e_ho e_ov)), (a_h, (oc1 e_wa e_le e_st e_fo e_lc a_l a_g a_b a_s a_p a_w e_gb a_bb)), (a_g, (oc6 6 5 a_gn e_g)), (a_gn, (arI G 30 f_g)), (a_p, (oc6 8 5 a_pn e_p)), (a_pn, (arI G 40 f_p)), (a_j, (oc2 a_as a_sk)), (a_as, (arI G 8 f_as)), (a_sk, (arJ G 50 f_sk)), (a_l, (arW G 6 f_l)), (a_lo, (oc3 e_cl a_hd a_sr a_cd)), (a_sr, (arI G n_sr f_sr)), (a_cd, (arI G n_cd f_cd)), (a_hd, (arI G n_hd f_hd))] hP hD ?_
  clear hP hD
  intro hP hD
  refine lv_aload_n hx hb dX5_meetGlass_263 rfl (lv_at hl 0 rfl) ?_
  refine va_get (D := G.1) (ci := 5) (v := .int ((e_br * (10 - k_d)) / 10)) (C := RX5) (T := TX5) (N := 13) hx hb hts inG_X5 hown hK hP 0 rfl rfl 6 (by decide +kernel) (hts _ fl_X5_46) (fun _ h9 => h9) rfl dX5_meetGlass_264 ?_
  refine lv_aload_n hx hb dX5_meetGlass_267 rfl (lv_at hl 0 rfl) ?_
  refine va_get (D := G.1) (ci := 5) (v := .ref a_h) (C := RX5) (T := TX5) (N := 13) hx hb hts inG_X5 hown hK hP 0 rfl rfl 0 (by decide +kernel) (hts _ fl_X5_22) (fun _ h9 => h9) rfl dX5_meetGlass_268 ?_
  refine W.eq (g2 := F0 m 271 ls [.ref a_h, .int ((e_br * (10 - k_d)) / 10)]) rfl ?_
  refine va_get (D := G.1) (ci := 1) (v := .int e_le) (C := RX1) (T := TX1) (N := 13) hx hb hts inG_X1 hown hK hP 1 rfl rfl 1 (by decide +kernel) (hts _ fl_X5_138) (fun _ h9 => h9) rfl dX5_meetGlass_271 ?_
  refine lv_icmp_ge (tgt := 278) hx hb dX5_meetGlass_274 (by decide +kernel) (fun c_3 => ?_) (fun c_3 => ?_)
  ·
    have i_3 : ((e_br * (10 - k_d)) / 10).toInt ≥ e_le.toInt := g5_ge (a := ((e_br * (10 - k_d)) / 10).toInt) (b := e_le.toInt) rfl rfl c_3
    refine lv_aload_n hx hb dX5_meetGlass_278 rfl (lv_at hl 0 rfl) ?_
    refine lv_dup hx hb dX5_meetGlass_279 rfl ?_
    refine va_get (D := G.1) (ci := 5) (v := .int e_ho) (C := RX5) (T := TX5) (N := 13) hx hb hts inG_X5 hown hK hP 0 rfl rfl 11 (by decide +kernel) (hts _ fl_X5_33) (fun _ h9 => h9) rfl dX5_meetGlass_280 ?_
    refine lv_iload hx hb dX5_meetGlass_283 (lv_at hl 5 rfl) ?_
    refine W.eq (g2 := F0 m 285 ls [.int k_l, .int e_ho, .ref a_k]) rfl ?_
    refine lv_isub hx hb dX5_meetGlass_285 ?_
    have t_4 : (e_ho - k_l).toInt = e_ho.toInt - k_l.toInt := g5_isub (a := e_ho.toInt) (b := k_l.toInt) (by rfl) (by rfl) (by omega) (by omega)
    refine va_put (D := G.1) (ci := 5) (v := .int (e_ho - k_l)) (ty := .int) (C := RX5) (T := TX5) (N := 13) hx hb hts inG_X5 tyX5 tyX5_ok nmX5 hown hK hP hD hS 0 rfl rfl 11 (by decide +kernel) (hts _ fl_X5_33) (fun _ h9 => h9) rfl (by decide +kernel) rfl rfl (Nat.le_of_ble_eq_true rfl) dX5_meetGlass_286 ?_
    clear hP hD hS
    intro H locs hP hD hS
    refine g5_rs [(a_k, (oc5 a_h a_j a_pt e_ln e_se e_lh ((e_br * (10 - k_d)) / 10) e_we e_me e_ce e_wy (e_ho - k_l) e_ov)), (a_h, (oc1 e_wa e_le e_st e_fo e_lc a_l a_g a_b a_s a_p a_w e_gb a_bb)), (a_g, (oc6 6 5 a_gn e_g)), (a_gn, (arI G 30 f_g)), (a_p, (oc6 8 5 a_pn e_p)), (a_pn, (arI G 40 f_p)), (a_j, (oc2 a_as a_sk)), (a_as, (arI G 8 f_as)), (a_sk, (arJ G 50 f_sk)), (a_l, (arW G 6 f_l)), (a_lo, (oc3 e_cl a_hd a_sr a_cd)), (a_sr, (arI G n_sr f_sr)), (a_cd, (arI G n_cd f_cd)), (a_hd, (arI G n_hd f_hd))] hP hD ?_
    clear hP hD
    intro hP hD
    refine lv_aload_n hx hb dX5_meetGlass_289 rfl (lv_at hl 0 rfl) ?_
    refine lv_iload hx hb dX5_meetGlass_290 (lv_at hl 4 rfl) ?_
    refine lv_if_ne (tgt := 304) hx hb dX5_meetGlass_292 (by decide +kernel) (fun c_5 => ?_) (fun c_5 => ?_)
    ·
      have n_5 : gNe (k_s.toInt) (0) := g5_ne (a := k_s.toInt) (b := 0) rfl (by decide +kernel) c_5
      have i_5 : k_s.toInt ≥ 1 := by have z := g5_ne (a := k_s.toInt) (b := 0) (by rfl) (by decide +kernel) c_5; omega
      refine lv_iload hx hb dX5_meetGlass_304 (lv_at hl 4 rfl) ?_
      refine lv_iconst (v := 1) hx hb dX5_meetGlass_306 (by decide +kernel) ?_
      refine lv_icmp_ne (tgt := 319) hx hb dX5_meetGlass_307 (by decide +kernel) (fun c_6 => ?_) (fun c_6 => ?_)
      ·
        have n_6 : gNe (k_s.toInt) (1) := g5_ne (a := k_s.toInt) (b := 1) rfl (by decide +kernel) c_6
        have i_6 : k_s.toInt ≥ 2 := by have z := g5_ne (a := k_s.toInt) (b := 1) (by rfl) (by decide +kernel) c_6; omega
        refine lv_aload_n hx hb dX5_meetGlass_319 rfl (lv_at hl 0 rfl) ?_
        refine va_get (D := G.1) (ci := 5) (v := .int e_wy) (C := RX5) (T := TX5) (N := 13) hx hb hts inG_X5 hown hK hP 0 rfl rfl 10 (by decide +kernel) (hts _ fl_X5_30) (fun _ h9 => h9) rfl dX5_meetGlass_320 ?_
        refine lv_iconst (v := 2) hx hb dX5_meetGlass_323 (by decide +kernel) ?_
        refine lv_ixor hx hb dX5_meetGlass_324 ?_
        have hx_7 := (g_xor (w := e_wy) (by omega) (by omega)).2
        refine W.eq (g2 := F0 m 325 ls [.int (e_wy ^^^ 2), .ref a_k]) rfl ?_
        refine va_put (D := G.1) (ci := 5) (v := .int (e_wy ^^^ 2)) (ty := .int) (C := RX5) (T := TX5) (N := 13) hx hb hts inG_X5 tyX5 tyX5_ok nmX5 hown hK hP hD hS 0 rfl rfl 10 (by decide +kernel) (hts _ fl_X5_30) (fun _ h9 => h9) rfl (by decide +kernel) rfl rfl (Nat.le_of_ble_eq_true rfl) dX5_meetGlass_325 ?_
        clear hP hD hS
        intro H locs hP hD hS
        refine g5_rs [(a_k, (oc5 a_h a_j a_pt e_ln e_se e_lh ((e_br * (10 - k_d)) / 10) e_we e_me e_ce (e_wy ^^^ 2) (e_ho - k_l) e_ov)), (a_h, (oc1 e_wa e_le e_st e_fo e_lc a_l a_g a_b a_s a_p a_w e_gb a_bb)), (a_g, (oc6 6 5 a_gn e_g)), (a_gn, (arI G 30 f_g)), (a_p, (oc6 8 5 a_pn e_p)), (a_pn, (arI G 40 f_p)), (a_j, (oc2 a_as a_sk)), (a_as, (arI G 8 f_as)), (a_sk, (arJ G 50 f_sk)), (a_l, (arW G 6 f_l)), (a_lo, (oc3 e_cl a_hd a_sr a_cd)), (a_sr, (arI G n_sr f_sr)), (a_cd, (arI G n_cd f_cd)), (a_hd, (arI G n_hd f_hd))] hP hD ?_
        clear hP hD
        intro hP hD
        refine lv_aload_n hx hb dX5_meetGlass_328 rfl (lv_at hl 0 rfl) ?_
        refine lv_dup hx hb dX5_meetGlass_329 rfl ?_
        refine va_get (D := G.1) (ci := 5) (v := .int e_we) (C := RX5) (T := TX5) (N := 13) hx hb hts inG_X5 hown hK hP 0 rfl rfl 7 (by decide +kernel) (hts _ fl_X5_49) (fun _ h9 => h9) rfl dX5_meetGlass_330 ?_
        refine lv_iconst (v := 1) hx hb dX5_meetGlass_333 (by decide +kernel) ?_
        refine W.eq (g2 := F0 m 334 ls [.int 1, .int e_we, .ref a_k]) rfl ?_
        refine lv_iload hx hb dX5_meetGlass_334 (lv_at hl 3 rfl) ?_
        refine lv_ishl hx hb dX5_meetGlass_336 ?_
        refine lv_ior hx hb dX5_meetGlass_337 ?_
        refine va_put (D := G.1) (ci := 5) (v := .int (e_we ||| (1 <<< (k_n &&& 31)))) (ty := .int) (C := RX5) (T := TX5) (N := 13) hx hb hts inG_X5 tyX5 tyX5_ok nmX5 hown hK hP hD hS 0 rfl rfl 7 (by decide +kernel) (hts _ fl_X5_49) (fun _ h9 => h9) rfl (by decide +kernel) rfl rfl (Nat.le_of_ble_eq_true rfl) dX5_meetGlass_338 ?_
        clear hP hD hS
        intro H locs hP hD hS
        refine g5_rs [(a_k, (oc5 a_h a_j a_pt e_ln e_se e_lh ((e_br * (10 - k_d)) / 10) (e_we ||| (1 <<< (k_n &&& 31))) e_me e_ce (e_wy ^^^ 2) (e_ho - k_l) e_ov)), (a_h, (oc1 e_wa e_le e_st e_fo e_lc a_l a_g a_b a_s a_p a_w e_gb a_bb)), (a_g, (oc6 6 5 a_gn e_g)), (a_gn, (arI G 30 f_g)), (a_p, (oc6 8 5 a_pn e_p)), (a_pn, (arI G 40 f_p)), (a_j, (oc2 a_as a_sk)), (a_as, (arI G 8 f_as)), (a_sk, (arJ G 50 f_sk)), (a_l, (arW G 6 f_l)), (a_lo, (oc3 e_cl a_hd a_sr a_cd)), (a_sr, (arI G n_sr f_sr)), (a_cd, (arI G n_cd f_cd)), (a_hd, (arI G n_hd f_hd))] hP hD ?_
        clear hP hD
        intro hP hD
        refine lv_aload_n hx hb dX5_meetGlass_341 rfl (lv_at hl 0 rfl) ?_
        refine W.eq (g2 := F0 m 342 ls [.ref a_k]) rfl ?_
        refine lv_iconst (v := 0) hx hb dX5_meetGlass_342 (by decide +kernel) ?_
        refine va_put (D := G.1) (ci := 5) (v := .int 0) (ty := .boolean) (C := RX5) (T := TX5) (N := 13) hx hb hts inG_X5 tyX5 tyX5_ok nmX5 hown hK hP hD hS 0 rfl rfl 12 (by decide +kernel) (hts _ fl_X5_56) (fun _ h9 => h9) rfl (by decide +kernel) rfl rfl (Nat.le_of_ble_eq_true rfl) dX5_meetGlass_343 ?_
        clear hP hD hS
        intro H locs hP hD hS
        refine g5_rs [(a_k, (oc5 a_h a_j a_pt e_ln e_se e_lh ((e_br * (10 - k_d)) / 10) (e_we ||| (1 <<< (k_n &&& 31))) e_me e_ce (e_wy ^^^ 2) (e_ho - k_l) 0)), (a_h, (oc1 e_wa e_le e_st e_fo e_lc a_l a_g a_b a_s a_p a_w e_gb a_bb)), (a_g, (oc6 6 5 a_gn e_g)), (a_gn, (arI G 30 f_g)), (a_p, (oc6 8 5 a_pn e_p)), (a_pn, (arI G 40 f_p)), (a_j, (oc2 a_as a_sk)), (a_as, (arI G 8 f_as)), (a_sk, (arJ G 50 f_sk)), (a_l, (arW G 6 f_l)), (a_lo, (oc3 e_cl a_hd a_sr a_cd)), (a_sr, (arI G n_sr f_sr)), (a_cd, (arI G n_cd f_cd)), (a_hd, (arI G n_hd f_hd))] hP hD ?_
        clear hP hD
        intro hP hD
        exact kk 346 dX5_meetGlass_346 ((e_br * (10 - k_d)) / 10) (e_we ||| (1 <<< (k_n &&& 31))) e_me (e_wy ^^^ 2) (e_ho - k_l) 0 f_as f_sk ls H locs (hP.sub [0, 1, 2, 3, 4, 5, 6, 7, 8, 9, 10, 11, 12, 13] rfl) (hD.sub [0, 1, 2, 3, 4, 5, 6, 7, 8, 9, 10, 11, 12, 13] (by decide +kernel) rfl) hS (⟨by omega, by omega⟩) (⟨by omega, by omega⟩) (⟨by omega, by omega⟩) (⟨by have zc_o_v : (0 : Int32).toInt = 0 := (by decide +kernel); omega, by have zc_o_v : (0 : Int32).toInt = 0 := (by decide +kernel); omega⟩)
      ·
        have i_6 : k_s.toInt = 1 := g5_neN (a := k_s.toInt) (b := 1) rfl (by decide +kernel) c_6
        refine lv_iconst (v := 3) hx hb dX5_meetGlass_310 (by decide +kernel) ?_
        refine lv_aload_n hx hb dX5_meetGlass_311 rfl (lv_at hl 0 rfl) ?_
        refine va_get (D := G.1) (ci := 5) (v := .int e_wy) (C := RX5) (T := TX5) (N := 13) hx hb hts inG_X5 hown hK hP 0 rfl rfl 10 (by decide +kernel) (hts _ fl_X5_30) (fun _ h9 => h9) rfl dX5_meetGlass_312 ?_
        refine lv_isub hx hb dX5_meetGlass_315 ?_
        have t_8 : (3 - e_wy).toInt = 3 - e_wy.toInt := g5_isub (a := 3) (b := e_wy.toInt) (by decide +kernel) (by rfl) (by omega) (by omega)
        refine W.eq (g2 := F0 m 316 ls [.int (3 - e_wy), .ref a_k]) rfl ?_
        refine lv_goto (tgt := 325) hx hb dX5_meetGlass_316 (by decide +kernel) ?_
        refine va_put (D := G.1) (ci := 5) (v := .int (3 - e_wy)) (ty := .int) (C := RX5) (T := TX5) (N := 13) hx hb hts inG_X5 tyX5 tyX5_ok nmX5 hown hK hP hD hS 0 rfl rfl 10 (by decide +kernel) (hts _ fl_X5_30) (fun _ h9 => h9) rfl (by decide +kernel) rfl rfl (Nat.le_of_ble_eq_true rfl) dX5_meetGlass_325 ?_
        clear hP hD hS
        intro H locs hP hD hS
        refine g5_rs [(a_k, (oc5 a_h a_j a_pt e_ln e_se e_lh ((e_br * (10 - k_d)) / 10) e_we e_me e_ce (3 - e_wy) (e_ho - k_l) e_ov)), (a_h, (oc1 e_wa e_le e_st e_fo e_lc a_l a_g a_b a_s a_p a_w e_gb a_bb)), (a_g, (oc6 6 5 a_gn e_g)), (a_gn, (arI G 30 f_g)), (a_p, (oc6 8 5 a_pn e_p)), (a_pn, (arI G 40 f_p)), (a_j, (oc2 a_as a_sk)), (a_as, (arI G 8 f_as)), (a_sk, (arJ G 50 f_sk)), (a_l, (arW G 6 f_l)), (a_lo, (oc3 e_cl a_hd a_sr a_cd)), (a_sr, (arI G n_sr f_sr)), (a_cd, (arI G n_cd f_cd)), (a_hd, (arI G n_hd f_hd))] hP hD ?_
        clear hP hD
        intro hP hD
        refine lv_aload_n hx hb dX5_meetGlass_328 rfl (lv_at hl 0 rfl) ?_
        refine lv_dup hx hb dX5_meetGlass_329 rfl ?_
        refine va_get (D := G.1) (ci := 5) (v := .int e_we) (C := RX5) (T := TX5) (N := 13) hx hb hts inG_X5 hown hK hP 0 rfl rfl 7 (by decide +kernel) (hts _ fl_X5_49) (fun _ h9 => h9) rfl dX5_meetGlass_330 ?_
        refine W.eq (g2 := F0 m 333 ls [.int e_we, .ref a_k]) rfl ?_
        refine lv_iconst (v := 1) hx hb dX5_meetGlass_333 (by decide +kernel) ?_
        refine lv_iload hx hb dX5_meetGlass_334 (lv_at hl 3 rfl) ?_
        refine lv_ishl hx hb dX5_meetGlass_336 ?_
        refine lv_ior hx hb dX5_meetGlass_337 ?_
        refine va_put (D := G.1) (ci := 5) (v := .int (e_we ||| (1 <<< (k_n &&& 31)))) (ty := .int) (C := RX5) (T := TX5) (N := 13) hx hb hts inG_X5 tyX5 tyX5_ok nmX5 hown hK hP hD hS 0 rfl rfl 7 (by decide +kernel) (hts _ fl_X5_49) (fun _ h9 => h9) rfl (by decide +kernel) rfl rfl (Nat.le_of_ble_eq_true rfl) dX5_meetGlass_338 ?_
        clear hP hD hS
        intro H locs hP hD hS
        refine g5_rs [(a_k, (oc5 a_h a_j a_pt e_ln e_se e_lh ((e_br * (10 - k_d)) / 10) (e_we ||| (1 <<< (k_n &&& 31))) e_me e_ce (3 - e_wy) (e_ho - k_l) e_ov)), (a_h, (oc1 e_wa e_le e_st e_fo e_lc a_l a_g a_b a_s a_p a_w e_gb a_bb)), (a_g, (oc6 6 5 a_gn e_g)), (a_gn, (arI G 30 f_g)), (a_p, (oc6 8 5 a_pn e_p)), (a_pn, (arI G 40 f_p)), (a_j, (oc2 a_as a_sk)), (a_as, (arI G 8 f_as)), (a_sk, (arJ G 50 f_sk)), (a_l, (arW G 6 f_l)), (a_lo, (oc3 e_cl a_hd a_sr a_cd)), (a_sr, (arI G n_sr f_sr)), (a_cd, (arI G n_cd f_cd)), (a_hd, (arI G n_hd f_hd))] hP hD ?_
        clear hP hD
        intro hP hD
        refine W.eq (g2 := F0 m 341 ls []) rfl ?_
        refine lv_aload_n hx hb dX5_meetGlass_341 rfl (lv_at hl 0 rfl) ?_
        refine lv_iconst (v := 0) hx hb dX5_meetGlass_342 (by decide +kernel) ?_
        refine va_put (D := G.1) (ci := 5) (v := .int 0) (ty := .boolean) (C := RX5) (T := TX5) (N := 13) hx hb hts inG_X5 tyX5 tyX5_ok nmX5 hown hK hP hD hS 0 rfl rfl 12 (by decide +kernel) (hts _ fl_X5_56) (fun _ h9 => h9) rfl (by decide +kernel) rfl rfl (Nat.le_of_ble_eq_true rfl) dX5_meetGlass_343 ?_
        clear hP hD hS
        intro H locs hP hD hS
        refine g5_rs [(a_k, (oc5 a_h a_j a_pt e_ln e_se e_lh ((e_br * (10 - k_d)) / 10) (e_we ||| (1 <<< (k_n &&& 31))) e_me e_ce (3 - e_wy) (e_ho - k_l) 0)), (a_h, (oc1 e_wa e_le e_st e_fo e_lc a_l a_g a_b a_s a_p a_w e_gb a_bb)), (a_g, (oc6 6 5 a_gn e_g)), (a_gn, (arI G 30 f_g)), (a_p, (oc6 8 5 a_pn e_p)), (a_pn, (arI G 40 f_p)), (a_j, (oc2 a_as a_sk)), (a_as, (arI G 8 f_as)), (a_sk, (arJ G 50 f_sk)), (a_l, (arW G 6 f_l)), (a_lo, (oc3 e_cl a_hd a_sr a_cd)), (a_sr, (arI G n_sr f_sr)), (a_cd, (arI G n_cd f_cd)), (a_hd, (arI G n_hd f_hd))] hP hD ?_
        clear hP hD
        intro hP hD
        exact kk 346 dX5_meetGlass_346 ((e_br * (10 - k_d)) / 10) (e_we ||| (1 <<< (k_n &&& 31))) e_me (3 - e_wy) (e_ho - k_l) 0 f_as f_sk ls H locs (hP.sub [0, 1, 2, 3, 4, 5, 6, 7, 8, 9, 10, 11, 12, 13] rfl) (hD.sub [0, 1, 2, 3, 4, 5, 6, 7, 8, 9, 10, 11, 12, 13] (by decide +kernel) rfl) hS (⟨by omega, by omega⟩) (⟨by omega, by omega⟩) (⟨by omega, by omega⟩) (⟨by have zc_o_v : (0 : Int32).toInt = 0 := (by decide +kernel); omega, by have zc_o_v : (0 : Int32).toInt = 0 := (by decide +kernel); omega⟩)
    ·
      have i_5 : k_s.toInt = 0 := g5_neN (a := k_s.toInt) (b := 0) rfl (by decide +kernel) c_5
      refine lv_aload_n hx hb dX5_meetGlass_295 rfl (lv_at hl 0 rfl) ?_
      refine va_get (D := G.1) (ci := 5) (v := .int e_wy) (C := RX5) (T := TX5) (N := 13) hx hb hts inG_X5 hown hK hP 0 rfl rfl 10 (by decide +kernel) (hts _ fl_X5_30) (fun _ h9 => h9) rfl dX5_meetGlass_296 ?_
      refine lv_iconst (v := 1) hx hb dX5_meetGlass_299 (by decide +kernel) ?_
      refine lv_ixor hx hb dX5_meetGlass_300 ?_
      have hx_9 := (g_xor (w := e_wy) (by omega) (by omega)).1
      refine W.eq (g2 := F0 m 301 ls [.int (e_wy ^^^ 1), .ref a_k]) rfl ?_
      refine lv_goto (tgt := 325) hx hb dX5_meetGlass_301 (by decide +kernel) ?_
      refine va_put (D := G.1) (ci := 5) (v := .int (e_wy ^^^ 1)) (ty := .int) (C := RX5) (T := TX5) (N := 13) hx hb hts inG_X5 tyX5 tyX5_ok nmX5 hown hK hP hD hS 0 rfl rfl 10 (by decide +kernel) (hts _ fl_X5_30) (fun _ h9 => h9) rfl (by decide +kernel) rfl rfl (Nat.le_of_ble_eq_true rfl) dX5_meetGlass_325 ?_
      clear hP hD hS
      intro H locs hP hD hS
      refine g5_rs [(a_k, (oc5 a_h a_j a_pt e_ln e_se e_lh ((e_br * (10 - k_d)) / 10) e_we e_me e_ce (e_wy ^^^ 1) (e_ho - k_l) e_ov)), (a_h, (oc1 e_wa e_le e_st e_fo e_lc a_l a_g a_b a_s a_p a_w e_gb a_bb)), (a_g, (oc6 6 5 a_gn e_g)), (a_gn, (arI G 30 f_g)), (a_p, (oc6 8 5 a_pn e_p)), (a_pn, (arI G 40 f_p)), (a_j, (oc2 a_as a_sk)), (a_as, (arI G 8 f_as)), (a_sk, (arJ G 50 f_sk)), (a_l, (arW G 6 f_l)), (a_lo, (oc3 e_cl a_hd a_sr a_cd)), (a_sr, (arI G n_sr f_sr)), (a_cd, (arI G n_cd f_cd)), (a_hd, (arI G n_hd f_hd))] hP hD ?_
      clear hP hD
      intro hP hD
      refine lv_aload_n hx hb dX5_meetGlass_328 rfl (lv_at hl 0 rfl) ?_
      refine lv_dup hx hb dX5_meetGlass_329 rfl ?_
      refine va_get (D := G.1) (ci := 5) (v := .int e_we) (C := RX5) (T := TX5) (N := 13) hx hb hts inG_X5 hown hK hP 0 rfl rfl 7 (by decide +kernel) (hts _ fl_X5_49) (fun _ h9 => h9) rfl dX5_meetGlass_330 ?_
      refine W.eq (g2 := F0 m 333 ls [.int e_we, .ref a_k]) rfl ?_
      refine lv_iconst (v := 1) hx hb dX5_meetGlass_333 (by decide +kernel) ?_
      refine lv_iload hx hb dX5_meetGlass_334 (lv_at hl 3 rfl) ?_
      refine lv_ishl hx hb dX5_meetGlass_336 ?_
      refine lv_ior hx hb dX5_meetGlass_337 ?_
      refine va_put (D := G.1) (ci := 5) (v := .int (e_we ||| (1 <<< (k_n &&& 31)))) (ty := .int) (C := RX5) (T := TX5) (N := 13) hx hb hts inG_X5 tyX5 tyX5_ok nmX5 hown hK hP hD hS 0 rfl rfl 7 (by decide +kernel) (hts _ fl_X5_49) (fun _ h9 => h9) rfl (by decide +kernel) rfl rfl (Nat.le_of_ble_eq_true rfl) dX5_meetGlass_338 ?_
      clear hP hD hS
      intro H locs hP hD hS
      refine g5_rs [(a_k, (oc5 a_h a_j a_pt e_ln e_se e_lh ((e_br * (10 - k_d)) / 10) (e_we ||| (1 <<< (k_n &&& 31))) e_me e_ce (e_wy ^^^ 1) (e_ho - k_l) e_ov)), (a_h, (oc1 e_wa e_le e_st e_fo e_lc a_l a_g a_b a_s a_p a_w e_gb a_bb)), (a_g, (oc6 6 5 a_gn e_g)), (a_gn, (arI G 30 f_g)), (a_p, (oc6 8 5 a_pn e_p)), (a_pn, (arI G 40 f_p)), (a_j, (oc2 a_as a_sk)), (a_as, (arI G 8 f_as)), (a_sk, (arJ G 50 f_sk)), (a_l, (arW G 6 f_l)), (a_lo, (oc3 e_cl a_hd a_sr a_cd)), (a_sr, (arI G n_sr f_sr)), (a_cd, (arI G n_cd f_cd)), (a_hd, (arI G n_hd f_hd))] hP hD ?_
      clear hP hD
      intro hP hD
      refine W.eq (g2 := F0 m 341 ls []) rfl ?_
      refine lv_aload_n hx hb dX5_meetGlass_341 rfl (lv_at hl 0 rfl) ?_
      refine lv_iconst (v := 0) hx hb dX5_meetGlass_342 (by decide +kernel) ?_
      refine va_put (D := G.1) (ci := 5) (v := .int 0) (ty := .boolean) (C := RX5) (T := TX5) (N := 13) hx hb hts inG_X5 tyX5 tyX5_ok nmX5 hown hK hP hD hS 0 rfl rfl 12 (by decide +kernel) (hts _ fl_X5_56) (fun _ h9 => h9) rfl (by decide +kernel) rfl rfl (Nat.le_of_ble_eq_true rfl) dX5_meetGlass_343 ?_
      clear hP hD hS
      intro H locs hP hD hS
      refine g5_rs [(a_k, (oc5 a_h a_j a_pt e_ln e_se e_lh ((e_br * (10 - k_d)) / 10) (e_we ||| (1 <<< (k_n &&& 31))) e_me e_ce (e_wy ^^^ 1) (e_ho - k_l) 0)), (a_h, (oc1 e_wa e_le e_st e_fo e_lc a_l a_g a_b a_s a_p a_w e_gb a_bb)), (a_g, (oc6 6 5 a_gn e_g)), (a_gn, (arI G 30 f_g)), (a_p, (oc6 8 5 a_pn e_p)), (a_pn, (arI G 40 f_p)), (a_j, (oc2 a_as a_sk)), (a_as, (arI G 8 f_as)), (a_sk, (arJ G 50 f_sk)), (a_l, (arW G 6 f_l)), (a_lo, (oc3 e_cl a_hd a_sr a_cd)), (a_sr, (arI G n_sr f_sr)), (a_cd, (arI G n_cd f_cd)), (a_hd, (arI G n_hd f_hd))] hP hD ?_
      clear hP hD
      intro hP hD
      exact kk 346 dX5_meetGlass_346 ((e_br * (10 - k_d)) / 10) (e_we ||| (1 <<< (k_n &&& 31))) e_me (e_wy ^^^ 1) (e_ho - k_l) 0 f_as f_sk ls H locs (hP.sub [0, 1, 2, 3, 4, 5, 6, 7, 8, 9, 10, 11, 12, 13] rfl) (hD.sub [0, 1, 2, 3, 4, 5, 6, 7, 8, 9, 10, 11, 12, 13] (by decide +kernel) rfl) hS (⟨by omega, by omega⟩) (⟨by omega, by omega⟩) (⟨by omega, by omega⟩) (⟨by have zc_o_v : (0 : Int32).toInt = 0 := (by decide +kernel); omega, by have zc_o_v : (0 : Int32).toInt = 0 := (by decide +kernel); omega⟩)
  ·
    have i_3 : ((e_br * (10 - k_d)) / 10).toInt < e_le.toInt := g5_geN (a := ((e_br * (10 - k_d)) / 10).toInt) (b := e_le.toInt) rfl rfl c_3
    exact kk 277 dX5_meetGlass_277 ((e_br * (10 - k_d)) / 10) e_we e_me e_wy e_ho e_ov f_as f_sk ls H locs (hP.sub [0, 1, 2, 3, 4, 5, 6, 7, 8, 9, 10, 11, 12, 13] rfl) (hD.sub [0, 1, 2, 3, 4, 5, 6, 7, 8, 9, 10, 11, 12, 13] (by decide +kernel) rfl) hS (⟨by omega, by omega⟩) (⟨by omega, by omega⟩) (⟨by omega, by omega⟩) (⟨by omega, by omega⟩)
theorem ml_X5_134 : Cond.methodLink RX5 134 yX2_toldUpTo ∈ tblG := tg 860 (by decide +kernel) (by decide +kernel)
theorem im_X2_toldUpTo : Cond.instanceMethod yX2_toldUpTo ∈ tblG := tg 861 (by decide +kernel) (by decide +kernel)
theorem se_X2_toldUpTo : Cond.selects RX2 yX2_toldUpTo yX2_toldUpTo ∈ tblG := tg 862 (by decide +kernel) (by decide +kernel)
theorem cd_X2_toldUpTo : Cond.code yX2_toldUpTo cX2_toldUpTo 2 (some .int) ∈ tblG := tg 863 (by decide +kernel) (by decide +kernel)
theorem gW_X2_toldUpTo : GoodIn tblG (wsG yX2_toldUpTo cX2_toldUpTo 2 (some .int)) := tgi cd_X2_toldUpTo
theorem gV_X5_134 : GoodIn tblG (wsV RX5 134 RX2 yX2_toldUpTo (wsG yX2_toldUpTo cX2_toldUpTo 2 (some .int))) := tgV ml_X5_134 im_X2_toldUpTo se_X2_toldUpTo ini_X2 gW_X2_toldUpTo
theorem hv_X2_toldUpTo : yX2_toldUpTo.cls = RX2 ∧ yX2_toldUpTo.cls ≠ "java/lang/invoke/MethodHandle" ∧ yX2_toldUpTo.cls ≠ "java/lang/invoke/VarHandle" ∧ (parseMethodDescriptor yX2_toldUpTo.desc).map (fun d => d.parameters.length) = some 1 := by decide +kernel
set_option maxHeartbeats 4000000 in
set_option maxRecDepth 100000 in
theorem k_mggL3 {p : Program} {l : Launch} {e : Env} {s : State} {m : MethodId} {args : Array Value} {below : List Frame} {meth : Method} {c : Code} {Q : State → Prop} {A : Nat → Prop} {H : Heap} {locs : List Loc} {ls : Array Slot} (G : g5_G) (a_k a_h a_g a_gn a_p a_pn a_j a_as a_sk a_l a_lo a_sr a_cd a_hd a_pt a_b a_s a_w a_bb n_sr n_cd n_hd : Nat) (e_ln : Int32) (e_se : Int32) (e_lh : Int32) (e_br : Int32) (e_we : Int32) (e_me : Int32) (e_ce : Int32) (e_wy : Int32) (e_ho : Int32) (e_ov : Int32) (e_le : Int32) (e_st : Int32) (e_fo : Int32) (e_lc : Int32) (e_wa : Int64) (e_gb : Int64) (e_g : Int32) (f_g : Nat → Int32) (e_p : Int32) (f_p : Nat → Int32) (f_as : Nat → Int32) (f_sk : Nat → Int64) (f_l : Nat → Option Nat) (e_cl : Int32) (f_sr : Nat → Int32) (f_cd : Nat → Int32) (f_hd : Nat → Int32) (k_r : Int32) (k_n : Int32) (k_s : Int32) (k_l : Int32) (hx : p.tables.exec = Jvm.exec) (hb : c.code = cX5_meetGlass) (hml : c.maxLocals = 9) (hown : s.vm.findClass RX5 = some m.cls) (hts : ∀ w ∈ tblG, w.before args s = true) (hK : va_K G.1 vwCl (T5 G) s) (hN : g5_N s) (hT : g5_S A s s.heap) (hA : ∀ q : Nat, s.heap.size ≤ q → A q) (hP : va_P G.1 vwCl [(a_k, (oc5 a_h a_j a_pt e_ln e_se e_lh e_br e_we e_me e_ce e_wy e_ho e_ov)), (a_h, (oc1 e_wa e_le e_st e_fo e_lc a_l a_g a_b a_s a_p a_w e_gb a_bb)), (a_g, (oc6 6 5 a_gn e_g)), (a_gn, (arI G 30 f_g)), (a_p, (oc6 8 5 a_pn e_p)), (a_pn, (arI G 40 f_p)), (a_j, (oc2 a_as a_sk)), (a_as, (arI G 8 f_as)), (a_sk, (arJ G 50 f_sk)), (a_l, (arW G 6 f_l)), (a_lo, (oc3 e_cl a_hd a_sr a_cd)), (a_sr, (arI G n_sr f_sr)), (a_cd, (arI G n_cd f_cd)), (a_hd, (arI G n_hd f_hd))] H) (hD : va_D A [(a_k, (oc5 a_h a_j a_pt e_ln e_se e_lh e_br e_we e_me e_ce e_wy e_ho e_ov)), (a_h, (oc1 e_wa e_le e_st e_fo e_lc a_l a_g a_b a_s a_p a_w e_gb a_bb)), (a_g, (oc6 6 5 a_gn e_g)), (a_gn, (arI G 30 f_g)), (a_p, (oc6 8 5 a_pn e_p)), (a_pn, (arI G 40 f_p)), (a_j, (oc2 a_as a_sk)), (a_as, (arI G 8 f_as)), (a_sk, (arJ G 50 f_sk)), (a_l, (arW G 6 f_l)), (a_lo, (oc3 e_cl a_hd a_sr a_cd)), (a_sr, (arI G n_sr f_sr)), (a_cd, (arI G n_cd f_cd)), (a_hd, (arI G n_hd f_hd))]) (hS : va_S A s.heap H locs) (hl : lv_has ls 9 [(0, .ref a_k), (2, .ref a_g), (3, .int k_r), (4, .int k_n), (5, .int k_s), (6, .ref a_lo), (7, .int k_l)]) (h_e_br : 0 ≤ e_br.toInt ∧ e_br.toInt ≤ 1000000) (h_e_ce : 0 ≤ e_ce.toInt ∧ e_ce.toInt ≤ 63) (h_e_wy : 0 ≤ e_wy.toInt ∧ e_wy.toInt ≤ 3) (h_e_ho : 0 ≤ e_ho.toInt ∧ e_ho.toInt ≤ 23) (h_e_ov : 0 ≤ e_ov.toInt ∧ e_ov.toInt ≤ 1) (h_e_g : 0 ≤ e_g.toInt ∧ e_g.toInt ≤ 6) (h_e_p : 0 ≤ e_p.toInt ∧ e_p.toInt ≤ 8) (h_e_cl : 0 ≤ e_cl.toInt ∧ e_cl.toInt ≤ 12) (h_k_r : 0 ≤ k_r.toInt ∧ k_r.toInt ≤ 7) (h_k_s : 0 ≤ k_s.toInt ∧ k_s.toInt ≤ 5) (h_k_l : 0 ≤ k_l.toInt ∧ k_l.toInt ≤ 23) (e_gk : gOK f_g e_g.toInt) (e_pk : gOK f_p e_p.toInt) (e_f : 0 ≤ e_fo.toInt ∧ e_fo.toInt < e_lc.toInt ∧ e_lc.toInt ≤ 6) (e_a : f_l e_fo.toNatClampNeg = some a_lo) (e_hn : n_cd ≤ 400) (e_hs : ∀ j : Nat, j < n_sr → 0 ≤ (f_sr j).toInt ∧ (f_sr j).toInt ≤ (n_cd : Int)) (e_hk : ∀ j : Nat, j < n_cd → (f_cd j >>> (12 &&& 31)).toInt = 1 → (f_cd j &&& 4095).toInt < 8) (e_c : (e_cl.toInt : Int) ≤ (n_hd : Int) ∧ (e_cl.toInt + 1 : Int) ≤ (n_sr : Int)) (e_r : k_r.toInt < e_g.toInt) (kk : ∀ (pc1 : Nat), decode cX5_meetGlass pc1 = .ok (.return_, 1) → ∀ (o_b : Int32) (o_w : Int32) (o_m : Int32) (o_y : Int32) (o_h : Int32) (o_v : Int32) (o_a : Nat → Int32) (o_k : Nat → Int64) (ls : Array Slot) (H : Heap) (locs : List Loc), va_P G.1 vwCl [(a_k, (oc5 a_h a_j a_pt e_ln e_se e_lh o_b o_w o_m e_ce o_y o_h o_v)), (a_h, (oc1 e_wa e_le e_st e_fo e_lc a_l a_g a_b a_s a_p a_w e_gb a_bb)), (a_g, (oc6 6 5 a_gn e_g)), (a_gn, (arI G 30 f_g)), (a_p, (oc6 8 5 a_pn e_p)), (a_pn, (arI G 40 f_p)), (a_j, (oc2 a_as a_sk)), (a_as, (arI G 8 o_a)), (a_sk, (arJ G 50 o_k)), (a_l, (arW G 6 f_l)), (a_lo, (oc3 e_cl a_hd a_sr a_cd)), (a_sr, (arI G n_sr f_sr)), (a_cd, (arI G n_cd f_cd)), (a_hd, (arI G n_hd f_hd))] H → va_D A [(a_k, (oc5 a_h a_j a_pt e_ln e_se e_lh o_b o_w o_m e_ce o_y o_h o_v)), (a_h, (oc1 e_wa e_le e_st e_fo e_lc a_l a_g a_b a_s a_p a_w e_gb a_bb)), (a_g, (oc6 6 5 a_gn e_g)), (a_gn, (arI G 30 f_g)), (a_p, (oc6 8 5 a_pn e_p)), (a_pn, (arI G 40 f_p)), (a_j, (oc2 a_as a_sk)), (a_as, (arI G 8 o_a)), (a_sk, (arJ G 50 o_k)), (a_l, (arW G 6 f_l)), (a_lo, (oc3 e_cl a_hd a_sr a_cd)), (a_sr, (arI G n_sr f_sr)), (a_cd, (arI G n_cd f_cd)), (a_hd, (arI G n_hd f_hd))] → va_S A s.heap H locs → (0 ≤ o_b.toInt ∧ o_b.toInt ≤ 1000000) → (0 ≤ o_y.toInt ∧ o_y.toInt ≤ 3) → (0 ≤ o_h.toInt ∧ o_h.toInt ≤ 23) → (0 ≤ o_v.toInt ∧ o_v.toInt ≤ 1) → W p l e ({ frames := 12, cells := 0, slots := 0, locals := 500 } : Room) s m args below meth c H locs 0 0 Q (F0 m pc1 ls [])) : W p l e ({ frames := 12, cells := 0, slots := 0, locals := 500 } : Room) s m args below meth c H locs 0 0 Q (F0 m 203 ls []) := by
  refine lv_iload hx hb dX5_meetGlass_203 (lv_at hl 6 rfl) ?_
  refine lv_aload_n hx hb dX5_meetGlass_205 rfl (lv_at hl 0 rfl) ?_
  refine va_get (D := G.1) (ci := 5) (v := .int e_ho) (C := RX5) (T := TX5) (N := 13) hx hb hts inG_X5 hown hK hP 0 rfl rfl 11 (by decide +kernel) (hts _ fl_X5_33) (fun _ h9 => h9) rfl dX5_meetGlass_206 ?_
  refine lv_icmp_le (tgt := 213) hx hb dX5_meetGlass_209 (by decide +kernel) (fun c_1 => ?_) (fun c_1 => ?_)
  ·
    have i_1 : k_l.toInt ≤ e_ho.toInt := g5_le (a := k_l.toInt) (b := e_ho.toInt) rfl rfl c_1
    refine lv_aload_n hx hb dX5_meetGlass_213 rfl (lv_at hl 0 rfl) ?_
    refine va_get (D := G.1) (ci := 5) (v := .ref a_j) (C := RX5) (T := TX5) (N := 13) hx hb hts inG_X5 hown hK hP 0 rfl rfl 1 (by decide +kernel) (hts _ fl_X5_12) (fun _ h9 => h9) rfl dX5_meetGlass_214 ?_
    refine lv_aload hx hb dX5_meetGlass_217 (lv_at hl 5 rfl) ?_
    refine lv_iconst (v := 1) hx hb dX5_meetGlass_219 (by decide +kernel) ?_
    refine W.eq (g2 := F0 m 220 ls [.int 1, .ref a_lo, .ref a_j]) rfl ?_
    obtain ⟨hPc, hDc, hFc⟩ := g5_sub3 (wc := [(a_j, (oc2 a_as a_sk)), (a_as, (arI G 8 f_as)), (a_sk, (arJ G 50 f_sk)), (a_lo, (oc3 e_cl a_hd a_sr a_cd)), (a_sr, (arI G n_sr f_sr)), (a_cd, (arI G n_cd f_cd)), (a_hd, (arI G n_hd f_hd))]) hP hD hS hA [6, 7, 8, 10, 11, 12, 13] (by decide +kernel) rfl
    refine va_calli (va_runV (As := [.ref a_lo, .int 1]) (rest := []) ⟨hx, hb, hml, hown, hts⟩ (j_isHeld l G a_j a_as a_sk a_lo a_sr a_cd a_hd H.size 1 e_cl f_as f_sk f_sr f_cd f_hd n_sr n_cd n_hd ⟨by omega, by omega⟩ (e_hn) (e_hs) (e_hk) (e_c)) (cwV 2 hts gV_X5_124 rfl rfl rfl hv_X2_isHeld ⟨Nat.le_of_ble_eq_true rfl, Nat.le_of_ble_eq_true rfl⟩) (g5_preV hPc hK hDc hN hT hS hFc (ci := 2) (q0 := 0) rfl rfl) rfl rfl hl.1 rfl (lv_room (Nat.le_of_ble_eq_true rfl)) dX5_meetGlass_220 ⟨Nat.le_of_ble_eq_true rfl, Nat.le_of_ble_eq_true rfl⟩) hS (fun q _ h => hFc q h) hFc (fun r u t H locs ht hvm hw hB hz1 hk1 hS => ?_)
    obtain ⟨hP1, hD1⟩ := hB
    have hP1 := g5_ht ht hP1
    obtain ⟨z3, z4, (i_2 : 0 ≤ z3.toInt ∧ z3.toInt ≤ 1), y5, rfl⟩ := hw
    have hJ9 := va_join (wr := [(a_k, (oc5 a_h a_j a_pt e_ln e_se e_lh e_br e_we e_me e_ce e_wy e_ho e_ov)), (a_h, (oc1 e_wa e_le e_st e_fo e_lc a_l a_g a_b a_s a_p a_w e_gb a_bb)), (a_g, (oc6 6 5 a_gn e_g)), (a_gn, (arI G 30 f_g)), (a_p, (oc6 8 5 a_pn e_p)), (a_pn, (arI G 40 f_p)), (a_l, (arW G 6 f_l))]) hP hD [6, 7, 8, 10, 11, 12, 13] [0, 1, 2, 3, 4, 5, 9] rfl rfl (by decide +kernel) (by decide +kernel) hk1 hFc hP1 hD1
    clear hP hD hPc hDc hFc ht hvm hz1 hk1 hP1 hD1
    obtain ⟨hP, hD⟩ := hJ9
    refine g5_rs [(a_k, (oc5 a_h a_j a_pt e_ln e_se e_lh e_br e_we e_me e_ce e_wy e_ho e_ov)), (a_h, (oc1 e_wa e_le e_st e_fo e_lc a_l a_g a_b a_s a_p a_w e_gb a_bb)), (a_g, (oc6 6 5 a_gn e_g)), (a_gn, (arI G 30 f_g)), (a_p, (oc6 8 5 a_pn e_p)), (a_pn, (arI G 40 f_p)), (a_l, (arW G 6 f_l)), (a_j, (oc2 a_as a_sk)), (a_as, (arI G 8 f_as)), (a_sk, (arJ G 50 z4)), (a_lo, (oc3 e_cl a_hd a_sr a_cd)), (a_sr, (arI G n_sr f_sr)), (a_cd, (arI G n_cd f_cd)), (a_hd, (arI G n_hd f_hd))] hP hD ?_
    clear hP hD
    intro hP hD
    refine g5_ti (v := z3) y5 ?_
    refine lv_if_eq (tgt := 238) hx hb dX5_meetGlass_223 (by decide +kernel) (fun c_6 => ?_) (fun c_6 => ?_)
    ·
      have i_6 : z3.toInt = 0 := g5_eq (a := z3.toInt) (b := 0) rfl (by decide +kernel) c_6
      refine lv_aload_n hx hb dX5_meetGlass_238 rfl (lv_at hl 1 rfl) ?_
      refine lv_iload_n hx hb dX5_meetGlass_239 rfl (lv_at hl 2 rfl) ?_
      refine lv_iconst (v := 3) hx hb dX5_meetGlass_240 (by decide +kernel) ?_
      obtain ⟨hPc, hDc, hFc⟩ := g5_sub3 (wc := [(a_g, (oc6 6 5 a_gn e_g)), (a_gn, (arI G 30 f_g))]) hP hD hS hA [2, 3] (by decide +kernel) rfl
      refine va_calli (va_runV (As := [.int k_r, .int 3]) (rest := []) ⟨hx, hb, hml, hown, hts⟩ (t_get_G l G a_g a_gn H.size e_g k_r 3 f_g ⟨by omega, by omega⟩) (cwV 2 hts gV_X5_107 rfl rfl rfl hv_X6_get ⟨Nat.le_of_ble_eq_true rfl, Nat.le_of_ble_eq_true rfl⟩) (g5_preV hPc hK hDc hN hT hS hFc (ci := 6) (q0 := 0) rfl rfl) rfl rfl hl.1 rfl (lv_room (Nat.le_of_ble_eq_true rfl)) dX5_meetGlass_241 ⟨Nat.le_of_ble_eq_true rfl, Nat.le_of_ble_eq_true rfl⟩) hS (fun q _ h => hFc q h) hFc (fun r u t H locs ht hvm hw hB hz1 hk1 hS => ?_)
      obtain ⟨hP1, hD1⟩ := hB
      have hP1 := g5_ht ht hP1
      obtain ⟨z8, (i_7 : z8 = tget f_g e_g.toInt 5 k_r.toInt (3 : Int32).toInt), y9, rfl⟩ := hw
      have hJ9 := va_join (wr := [(a_k, (oc5 a_h a_j a_pt e_ln e_se e_lh e_br e_we e_me e_ce e_wy e_ho e_ov)), (a_h, (oc1 e_wa e_le e_st e_fo e_lc a_l a_g a_b a_s a_p a_w e_gb a_bb)), (a_p, (oc6 8 5 a_pn e_p)), (a_pn, (arI G 40 f_p)), (a_l, (arW G 6 f_l)), (a_j, (oc2 a_as a_sk)), (a_as, (arI G 8 f_as)), (a_sk, (arJ G 50 z4)), (a_lo, (oc3 e_cl a_hd a_sr a_cd)), (a_sr, (arI G n_sr f_sr)), (a_cd, (arI G n_cd f_cd)), (a_hd, (arI G n_hd f_hd))]) hP hD [2, 3] [0, 1, 4, 5, 6, 7, 8, 9, 10, 11, 12, 13] rfl rfl (by decide +kernel) (by decide +kernel) hk1 hFc hP1 hD1
      clear hP hD hPc hDc hFc ht hvm hz1 hk1 hP1 hD1
      obtain ⟨hP, hD⟩ := hJ9
      refine g5_rs [(a_k, (oc5 a_h a_j a_pt e_ln e_se e_lh e_br e_we e_me e_ce e_wy e_ho e_ov)), (a_h, (oc1 e_wa e_le e_st e_fo e_lc a_l a_g a_b a_s a_p a_w e_gb a_bb)), (a_p, (oc6 8 5 a_pn e_p)), (a_pn, (arI G 40 f_p)), (a_l, (arW G 6 f_l)), (a_j, (oc2 a_as a_sk)), (a_as, (arI G 8 f_as)), (a_sk, (arJ G 50 z4)), (a_lo, (oc3 e_cl a_hd a_sr a_cd)), (a_sr, (arI G n_sr f_sr)), (a_cd, (arI G n_cd f_cd)), (a_hd, (arI G n_hd f_hd)), (a_g, (oc6 6 5 a_gn e_g)), (a_gn, (arI G 30 f_g))] hP hD ?_
      clear hP hD
      intro hP hD
      refine g5_ti (v := z8) y9 ?_
      have hg_10 : 0 ≤ z8.toInt ∧ z8.toInt ≤ 10 := by rw [i_7]; exact (e_gk k_r.toInt (by omega) (by omega)).2.2.2
      refine W.eq (g2 := F0 m 244 ls [.int z8]) rfl ?_
      refine lv_istore (lv' := [(8, .int z8), (0, .ref a_k), (2, .ref a_g), (3, .int k_r), (4, .int k_n), (5, .int k_s), (6, .ref a_lo), (7, .int k_l)]) hx hb dX5_meetGlass_244 hl (by decide +kernel) rfl ?_
      clear hl
      intro ls hl
      exact k_mggL4 G a_k a_h a_g a_gn a_p a_pn a_j a_as a_sk a_l a_lo a_sr a_cd a_hd a_pt a_b a_s a_w a_bb n_sr n_cd n_hd e_ln e_se e_lh e_br e_we e_me e_ce e_wy e_ho e_ov e_le e_st e_fo e_lc e_wa e_gb e_g f_g e_p f_p f_as z4 f_l e_cl f_sr f_cd f_hd k_r k_n k_s k_l z8 hx hb hml hown hts hK hN hT hA (hP.sub [0, 1, 12, 13, 2, 3, 5, 6, 7, 4, 8, 9, 10, 11] rfl) (hD.sub [0, 1, 12, 13, 2, 3, 5, 6, 7, 4, 8, 9, 10, 11] (by decide +kernel) rfl) hS (lv_sub hl [1, 2, 3, 4, 5, 7, 0] rfl) ⟨by omega, by omega⟩ ⟨by omega, by omega⟩ ⟨by omega, by omega⟩ ⟨by omega, by omega⟩ ⟨by omega, by omega⟩ ⟨by omega, by omega⟩ ⟨by omega, by omega⟩ ⟨by omega, by omega⟩ ⟨by omega, by omega⟩ ⟨by omega, by omega⟩ ⟨by omega, by omega⟩ ⟨by omega, by omega⟩ (by omega) kk
    ·
      have n_6 : gNe (z3.toInt) (0) := g5_eqN (a := z3.toInt) (b := 0) rfl (by decide +kernel) c_6
      have i_6 : z3.toInt ≥ 1 := by have z := g5_eqN (a := z3.toInt) (b := 0) (by rfl) (by decide +kernel) c_6; omega
      refine lv_aload_n hx hb dX5_meetGlass_226 rfl (lv_at hl 0 rfl) ?_
      refine va_get (D := G.1) (ci := 5) (v := .ref a_j) (C := RX5) (T := TX5) (N := 13) hx hb hts inG_X5 hown hK hP 0 rfl rfl 1 (by decide +kernel) (hts _ fl_X5_12) (fun _ h9 => h9) rfl dX5_meetGlass_227 ?_
      refine lv_bipush (v := 10) hx hb dX5_meetGlass_230 (by decide +kernel) ?_
      obtain ⟨hPc, hDc, hFc⟩ := g5_sub3 (wc := [(a_j, (oc2 a_as a_sk)), (a_sk, (arJ G 50 z4))]) hP hD hS hA [7, 9] (by decide +kernel) rfl
      refine va_calli (va_runV (As := [.int 10]) (rest := []) ⟨hx, hb, hml, hown, hts⟩ (j_told l G a_j a_sk a_as H.size 10 z4 ⟨by decide, by decide⟩) (cwV 1 hts gV_X5_134 rfl rfl rfl hv_X2_toldUpTo ⟨Nat.le_of_ble_eq_true rfl, Nat.le_of_ble_eq_true rfl⟩) (g5_preV hPc hK hDc hN hT hS hFc (ci := 2) (q0 := 0) rfl rfl) rfl rfl hl.1 rfl (lv_room (Nat.le_of_ble_eq_true rfl)) dX5_meetGlass_232 ⟨Nat.le_of_ble_eq_true rfl, Nat.le_of_ble_eq_true rfl⟩) hS (fun q _ h => hFc q h) hFc (fun r u t H locs ht hvm hw hB hz1 hk1 hS => ?_)
      obtain ⟨hP1, hD1⟩ := hB
      have hP1 := g5_ht ht hP1
      obtain ⟨z12, (i_11 : 0 ≤ z12.toInt ∧ z12.toInt ≤ (10 : Int32).toInt), y13, rfl⟩ := hw
      have hJ9 := va_join (wr := [(a_k, (oc5 a_h a_j a_pt e_ln e_se e_lh e_br e_we e_me e_ce e_wy e_ho e_ov)), (a_h, (oc1 e_wa e_le e_st e_fo e_lc a_l a_g a_b a_s a_p a_w e_gb a_bb)), (a_g, (oc6 6 5 a_gn e_g)), (a_gn, (arI G 30 f_g)), (a_p, (oc6 8 5 a_pn e_p)), (a_pn, (arI G 40 f_p)), (a_l, (arW G 6 f_l)), (a_as, (arI G 8 f_as)), (a_lo, (oc3 e_cl a_hd a_sr a_cd)), (a_sr, (arI G n_sr f_sr)), (a_cd, (arI G n_cd f_cd)), (a_hd, (arI G n_hd f_hd))]) hP hD [7, 9] [0, 1, 2, 3, 4, 5, 6, 8, 10, 11, 12, 13] rfl rfl (by decide +kernel) (by decide +kernel) hk1 hFc hP1 hD1
      clear hP hD hPc hDc hFc ht hvm hz1 hk1 hP1 hD1
      obtain ⟨hP, hD⟩ := hJ9
      refine g5_rs [(a_k, (oc5 a_h a_j a_pt e_ln e_se e_lh e_br e_we e_me e_ce e_wy e_ho e_ov)), (a_h, (oc1 e_wa e_le e_st e_fo e_lc a_l a_g a_b a_s a_p a_w e_gb a_bb)), (a_g, (oc6 6 5 a_gn e_g)), (a_gn, (arI G 30 f_g)), (a_p, (oc6 8 5 a_pn e_p)), (a_pn, (arI G 40 f_p)), (a_l, (arW G 6 f_l)), (a_as, (arI G 8 f_as)), (a_lo, (oc3 e_cl a_hd a_sr a_cd)), (a_sr, (arI G n_sr f_sr)), (a_cd, (arI G n_cd f_cd)), (a_hd, (arI G n_hd f_hd)), (a_j, (oc2 a_as a_sk)), (a_sk, (arJ G 50 z4))] hP hD ?_
      clear hP hD
      intro hP hD
      refine g5_ti (v := z12) y13 ?_
      refine W.eq (g2 := F0 m 235 ls [.int z12]) rfl ?_
      refine lv_goto (tgt := 244) hx hb dX5_meetGlass_235 (by decide +kernel) ?_
      have zk_14 : (10 : Int32).toInt = 10 := (by decide +kernel)
      refine lv_istore (lv' := [(8, .int z12), (0, .ref a_k), (2, .ref a_g), (3, .int k_r), (4, .int k_n), (5, .int k_s), (6, .ref a_lo), (7, .int k_l)]) hx hb dX5_meetGlass_244 hl (by decide +kernel) rfl ?_
      clear hl
      intro ls hl
      exact k_mggL4 G a_k a_h a_g a_gn a_p a_pn a_j a_as a_sk a_l a_lo a_sr a_cd a_hd a_pt a_b a_s a_w a_bb n_sr n_cd n_hd e_ln e_se e_lh e_br e_we e_me e_ce e_wy e_ho e_ov e_le e_st e_fo e_lc e_wa e_gb e_g f_g e_p f_p f_as z4 f_l e_cl f_sr f_cd f_hd k_r k_n k_s k_l z12 hx hb hml hown hts hK hN hT hA (hP.sub [0, 1, 2, 3, 4, 5, 12, 7, 13, 6, 8, 9, 10, 11] rfl) (hD.sub [0, 1, 2, 3, 4, 5, 12, 7, 13, 6, 8, 9, 10, 11] (by decide +kernel) rfl) hS (lv_sub hl [1, 2, 3, 4, 5, 7, 0] rfl) ⟨by omega, by omega⟩ ⟨by omega, by omega⟩ ⟨by omega, by omega⟩ ⟨by omega, by omega⟩ ⟨by omega, by omega⟩ ⟨by omega, by omega⟩ ⟨by omega, by omega⟩ ⟨by omega, by omega⟩ ⟨by omega, by omega⟩ ⟨by omega, by omega⟩ ⟨by omega, by omega⟩ ⟨by omega, by omega⟩ (by omega) kk
  ·
    have i_1 : k_l.toInt > e_ho.toInt := g5_leN (a := k_l.toInt) (b := e_ho.toInt) rfl rfl c_1
    exact kk 212 dX5_meetGlass_212 e_br e_we e_me e_wy e_ho e_ov f_as f_sk ls H locs (hP.sub [0, 1, 2, 3, 4, 5, 6, 7, 8, 9, 10, 11, 12, 13] rfl) (hD.sub [0, 1, 2, 3, 4, 5, 6, 7, 8, 9, 10, 11, 12, 13] (by decide +kernel) rfl) hS (⟨by omega, by omega⟩) (⟨by omega, by omega⟩) (⟨by omega, by omega⟩) (⟨by omega, by omega⟩)
set_option maxHeartbeats 4000000 in
set_option maxRecDepth 100000 in
theorem k_mggL2 {p : Program} {l : Launch} {e : Env} {s : State} {m : MethodId} {args : Array Value} {below : List Frame} {meth : Method} {c : Code} {Q : State → Prop} {A : Nat → Prop} {H : Heap} {locs : List Loc} {ls : Array Slot} (G : g5_G) (a_k a_h a_g a_gn a_p a_pn a_j a_as a_sk a_l a_lo a_sr a_cd a_hd a_pt a_b a_s a_w a_bb n_sr n_cd n_hd : Nat) (e_ln : Int32) (e_se : Int32) (e_lh : Int32) (e_br : Int32) (e_we : Int32) (e_me : Int32) (e_ce : Int32) (e_wy : Int32) (e_ho : Int32) (e_ov : Int32) (e_le : Int32) (e_st : Int32) (e_fo : Int32) (e_lc : Int32) (e_wa : Int64) (e_gb : Int64) (e_g : Int32) (f_g : Nat → Int32) (e_p : Int32) (f_p : Nat → Int32) (f_as : Nat → Int32) (f_sk : Nat → Int64) (f_l : Nat → Option Nat) (e_cl : Int32) (f_sr : Nat → Int32) (f_cd : Nat → Int32) (f_hd : Nat → Int32) (k_r : Int32) (k_n : Int32) (k_s : Int32) (hx : p.tables.exec = Jvm.exec) (hb : c.code = cX5_meetGlass) (hml : c.maxLocals = 9) (hown : s.vm.findClass RX5 = some m.cls) (hts : ∀ w ∈ tblG, w.before args s = true) (hK : va_K G.1 vwCl (T5 G) s) (hN : g5_N s) (hT : g5_S A s s.heap) (hA : ∀ q : Nat, s.heap.size ≤ q → A q) (hP : va_P G.1 vwCl [(a_k, (oc5 a_h a_j a_pt e_ln e_se e_lh e_br e_we e_me e_ce e_wy e_ho e_ov)), (a_h, (oc1 e_wa e_le e_st e_fo e_lc a_l a_g a_b a_s a_p a_w e_gb a_bb)), (a_g, (oc6 6 5 a_gn e_g)), (a_gn, (arI G 30 f_g)), (a_p, (oc6 8 5 a_pn e_p)), (a_pn, (arI G 40 f_p)), (a_j, (oc2 a_as a_sk)), (a_as, (arI G 8 f_as)), (a_sk, (arJ G 50 f_sk)), (a_l, (arW G 6 f_l)), (a_lo, (oc3 e_cl a_hd a_sr a_cd)), (a_sr, (arI G n_sr f_sr)), (a_cd, (arI G n_cd f_cd)), (a_hd, (arI G n_hd f_hd))] H) (hD : va_D A [(a_k, (oc5 a_h a_j a_pt e_ln e_se e_lh e_br e_we e_me e_ce e_wy e_ho e_ov)), (a_h, (oc1 e_wa e_le e_st e_fo e_lc a_l a_g a_b a_s a_p a_w e_gb a_bb)), (a_g, (oc6 6 5 a_gn e_g)), (a_gn, (arI G 30 f_g)), (a_p, (oc6 8 5 a_pn e_p)), (a_pn, (arI G 40 f_p)), (a_j, (oc2 a_as a_sk)), (a_as, (arI G 8 f_as)), (a_sk, (arJ G 50 f_sk)), (a_l, (arW G 6 f_l)), (a_lo, (oc3 e_cl a_hd a_sr a_cd)), (a_sr, (arI G n_sr f_sr)), (a_cd, (arI G n_cd f_cd)), (a_hd, (arI G n_hd f_hd))]) (hS : va_S A s.heap H locs) (hl : lv_has ls 9 [(0, .ref a_k), (2, .ref a_g), (3, .int k_r), (4, .int k_n), (5, .int k_s), (6, .ref a_lo)]) (h_e_br : 0 ≤ e_br.toInt ∧ e_br.toInt ≤ 1000000) (h_e_ce : 0 ≤ e_ce.toInt ∧ e_ce.toInt ≤ 63) (h_e_wy : 0 ≤ e_wy.toInt ∧ e_wy.toInt ≤ 3) (h_e_ho : 0 ≤ e_ho.toInt ∧ e_ho.toInt ≤ 23) (h_e_ov : 0 ≤ e_ov.toInt ∧ e_ov.toInt ≤ 1) (h_e_g : 0 ≤ e_g.toInt ∧ e_g.toInt ≤ 6) (h_e_p : 0 ≤ e_p.toInt ∧ e_p.toInt ≤ 8) (h_e_cl : 0 ≤ e_cl.toInt ∧ e_cl.toInt ≤ 12) (h_k_r : 0 ≤ k_r.toInt ∧ k_r.toInt ≤ 7) (h_k_s : 0 ≤ k_s.toInt ∧ k_s.toInt ≤ 5) (e_gk : gOK f_g e_g.toInt) (e_pk : gOK f_p e_p.toInt) (e_f : 0 ≤ e_fo.toInt ∧ e_fo.toInt < e_lc.toInt ∧ e_lc.toInt ≤ 6) (e_a : f_l e_fo.toNatClampNeg = some a_lo) (e_hn : n_cd ≤ 400) (e_hs : ∀ j : Nat, j < n_sr → 0 ≤ (f_sr j).toInt ∧ (f_sr j).toInt ≤ (n_cd : Int)) (e_hk : ∀ j : Nat, j < n_cd → (f_cd j >>> (12 &&& 31)).toInt = 1 → (f_cd j &&& 4095).toInt < 8) (e_c : (e_cl.toInt : Int) ≤ (n_hd : Int) ∧ (e_cl.toInt + 1 : Int) ≤ (n_sr : Int)) (e_r : k_r.toInt < e_g.toInt) (kk : ∀ (pc1 : Nat), decode cX5_meetGlass pc1 = .ok (.return_, 1) → ∀ (o_b : Int32) (o_w : Int32) (o_m : Int32) (o_y : Int32) (o_h : Int32) (o_v : Int32) (o_a : Nat → Int32) (o_k : Nat → Int64) (ls : Array Slot) (H : Heap) (locs : List Loc), va_P G.1 vwCl [(a_k, (oc5 a_h a_j a_pt e_ln e_se e_lh o_b o_w o_m e_ce o_y o_h o_v)), (a_h, (oc1 e_wa e_le e_st e_fo e_lc a_l a_g a_b a_s a_p a_w e_gb a_bb)), (a_g, (oc6 6 5 a_gn e_g)), (a_gn, (arI G 30 f_g)), (a_p, (oc6 8 5 a_pn e_p)), (a_pn, (arI G 40 f_p)), (a_j, (oc2 a_as a_sk)), (a_as, (arI G 8 o_a)), (a_sk, (arJ G 50 o_k)), (a_l, (arW G 6 f_l)), (a_lo, (oc3 e_cl a_hd a_sr a_cd)), (a_sr, (arI G n_sr f_sr)), (a_cd, (arI G n_cd f_cd)), (a_hd, (arI G n_hd f_hd))] H → va_D A [(a_k, (oc5 a_h a_j a_pt e_ln e_se e_lh o_b o_w o_m e_ce o_y o_h o_v)), (a_h, (oc1 e_wa e_le e_st e_fo e_lc a_l a_g a_b a_s a_p a_w e_gb a_bb)), (a_g, (oc6 6 5 a_gn e_g)), (a_gn, (arI G 30 f_g)), (a_p, (oc6 8 5 a_pn e_p)), (a_pn, (arI G 40 f_p)), (a_j, (oc2 a_as a_sk)), (a_as, (arI G 8 o_a)), (a_sk, (arJ G 50 o_k)), (a_l, (arW G 6 f_l)), (a_lo, (oc3 e_cl a_hd a_sr a_cd)), (a_sr, (arI G n_sr f_sr)), (a_cd, (arI G n_cd f_cd)), (a_hd, (arI G n_hd f_hd))] → va_S A s.heap H locs → (0 ≤ o_b.toInt ∧ o_b.toInt ≤ 1000000) → (0 ≤ o_y.toInt ∧ o_y.toInt ≤ 3) → (0 ≤ o_h.toInt ∧ o_h.toInt ≤ 23) → (0 ≤ o_v.toInt ∧ o_v.toInt ≤ 1) → W p l e ({ frames := 12, cells := 0, slots := 0, locals := 500 } : Room) s m args below meth c H locs 0 0 Q (F0 m pc1 ls [])) : W p l e ({ frames := 12, cells := 0, slots := 0, locals := 500 } : Room) s m args below meth c H locs 0 0 Q (F0 m 170 ls []) := by
  refine lv_aload_n hx hb dX5_meetGlass_170 rfl (lv_at hl 0 rfl) ?_
  refine va_get (D := G.1) (ci := 5) (v := .ref a_j) (C := RX5) (T := TX5) (N := 13) hx hb hts inG_X5 hown hK hP 0 rfl rfl 1 (by decide +kernel) (hts _ fl_X5_12) (fun _ h9 => h9) rfl dX5_meetGlass_171 ?_
  refine lv_aload hx hb dX5_meetGlass_174 (lv_at hl 5 rfl) ?_
  refine lv_iconst (v := 0) hx hb dX5_meetGlass_176 (by decide +kernel) ?_
  refine W.eq (g2 := F0 m 177 ls [.int 0, .ref a_lo, .ref a_j]) rfl ?_
  obtain ⟨hPc, hDc, hFc⟩ := g5_sub3 (wc := [(a_j, (oc2 a_as a_sk)), (a_as, (arI G 8 f_as)), (a_sk, (arJ G 50 f_sk)), (a_lo, (oc3 e_cl a_hd a_sr a_cd)), (a_sr, (arI G n_sr f_sr)), (a_cd, (arI G n_cd f_cd)), (a_hd, (arI G n_hd f_hd))]) hP hD hS hA [6, 7, 8, 10, 11, 12, 13] (by decide +kernel) rfl
  refine va_calli (va_runV (As := [.ref a_lo, .int 0]) (rest := []) ⟨hx, hb, hml, hown, hts⟩ (j_isHeld l G a_j a_as a_sk a_lo a_sr a_cd a_hd H.size 0 e_cl f_as f_sk f_sr f_cd f_hd n_sr n_cd n_hd ⟨by omega, by omega⟩ (e_hn) (e_hs) (e_hk) (e_c)) (cwV 2 hts gV_X5_124 rfl rfl rfl hv_X2_isHeld ⟨Nat.le_of_ble_eq_true rfl, Nat.le_of_ble_eq_true rfl⟩) (g5_preV hPc hK hDc hN hT hS hFc (ci := 2) (q0 := 0) rfl rfl) rfl rfl hl.1 rfl (lv_room (Nat.le_of_ble_eq_true rfl)) dX5_meetGlass_177 ⟨Nat.le_of_ble_eq_true rfl, Nat.le_of_ble_eq_true rfl⟩) hS (fun q _ h => hFc q h) hFc (fun r u t H locs ht hvm hw hB hz1 hk1 hS => ?_)
  obtain ⟨hP1, hD1⟩ := hB
  have hP1 := g5_ht ht hP1
  obtain ⟨z2, z3, (i_1 : 0 ≤ z2.toInt ∧ z2.toInt ≤ 1), y4, rfl⟩ := hw
  have hJ9 := va_join (wr := [(a_k, (oc5 a_h a_j a_pt e_ln e_se e_lh e_br e_we e_me e_ce e_wy e_ho e_ov)), (a_h, (oc1 e_wa e_le e_st e_fo e_lc a_l a_g a_b a_s a_p a_w e_gb a_bb)), (a_g, (oc6 6 5 a_gn e_g)), (a_gn, (arI G 30 f_g)), (a_p, (oc6 8 5 a_pn e_p)), (a_pn, (arI G 40 f_p)), (a_l, (arW G 6 f_l))]) hP hD [6, 7, 8, 10, 11, 12, 13] [0, 1, 2, 3, 4, 5, 9] rfl rfl (by decide +kernel) (by decide +kernel) hk1 hFc hP1 hD1
  clear hP hD hPc hDc hFc ht hvm hz1 hk1 hP1 hD1
  obtain ⟨hP, hD⟩ := hJ9
  refine g5_rs [(a_k, (oc5 a_h a_j a_pt e_ln e_se e_lh e_br e_we e_me e_ce e_wy e_ho e_ov)), (a_h, (oc1 e_wa e_le e_st e_fo e_lc a_l a_g a_b a_s a_p a_w e_gb a_bb)), (a_g, (oc6 6 5 a_gn e_g)), (a_gn, (arI G 30 f_g)), (a_p, (oc6 8 5 a_pn e_p)), (a_pn, (arI G 40 f_p)), (a_l, (arW G 6 f_l)), (a_j, (oc2 a_as a_sk)), (a_as, (arI G 8 f_as)), (a_sk, (arJ G 50 z3)), (a_lo, (oc3 e_cl a_hd a_sr a_cd)), (a_sr, (arI G n_sr f_sr)), (a_cd, (arI G n_cd f_cd)), (a_hd, (arI G n_hd f_hd))] hP hD ?_
  clear hP hD
  intro hP hD
  refine g5_ti (v := z2) y4 ?_
  refine lv_if_eq (tgt := 195) hx hb dX5_meetGlass_180 (by decide +kernel) (fun c_5 => ?_) (fun c_5 => ?_)
  ·
    have i_5 : z2.toInt = 0 := g5_eq (a := z2.toInt) (b := 0) rfl (by decide +kernel) c_5
    refine lv_aload_n hx hb dX5_meetGlass_195 rfl (lv_at hl 1 rfl) ?_
    refine lv_iload_n hx hb dX5_meetGlass_196 rfl (lv_at hl 2 rfl) ?_
    refine lv_iconst (v := 2) hx hb dX5_meetGlass_197 (by decide +kernel) ?_
    obtain ⟨hPc, hDc, hFc⟩ := g5_sub3 (wc := [(a_g, (oc6 6 5 a_gn e_g)), (a_gn, (arI G 30 f_g))]) hP hD hS hA [2, 3] (by decide +kernel) rfl
    refine va_calli (va_runV (As := [.int k_r, .int 2]) (rest := []) ⟨hx, hb, hml, hown, hts⟩ (t_get_G l G a_g a_gn H.size e_g k_r 2 f_g ⟨by omega, by omega⟩) (cwV 2 hts gV_X5_107 rfl rfl rfl hv_X6_get ⟨Nat.le_of_ble_eq_true rfl, Nat.le_of_ble_eq_true rfl⟩) (g5_preV hPc hK hDc hN hT hS hFc (ci := 6) (q0 := 0) rfl rfl) rfl rfl hl.1 rfl (lv_room (Nat.le_of_ble_eq_true rfl)) dX5_meetGlass_198 ⟨Nat.le_of_ble_eq_true rfl, Nat.le_of_ble_eq_true rfl⟩) hS (fun q _ h => hFc q h) hFc (fun r u t H locs ht hvm hw hB hz1 hk1 hS => ?_)
    obtain ⟨hP1, hD1⟩ := hB
    have hP1 := g5_ht ht hP1
    obtain ⟨z7, (i_6 : z7 = tget f_g e_g.toInt 5 k_r.toInt (2 : Int32).toInt), y8, rfl⟩ := hw
    have hJ9 := va_join (wr := [(a_k, (oc5 a_h a_j a_pt e_ln e_se e_lh e_br e_we e_me e_ce e_wy e_ho e_ov)), (a_h, (oc1 e_wa e_le e_st e_fo e_lc a_l a_g a_b a_s a_p a_w e_gb a_bb)), (a_p, (oc6 8 5 a_pn e_p)), (a_pn, (arI G 40 f_p)), (a_l, (arW G 6 f_l)), (a_j, (oc2 a_as a_sk)), (a_as, (arI G 8 f_as)), (a_sk, (arJ G 50 z3)), (a_lo, (oc3 e_cl a_hd a_sr a_cd)), (a_sr, (arI G n_sr f_sr)), (a_cd, (arI G n_cd f_cd)), (a_hd, (arI G n_hd f_hd))]) hP hD [2, 3] [0, 1, 4, 5, 6, 7, 8, 9, 10, 11, 12, 13] rfl rfl (by decide +kernel) (by decide +kernel) hk1 hFc hP1 hD1
    clear hP hD hPc hDc hFc ht hvm hz1 hk1 hP1 hD1
    obtain ⟨hP, hD⟩ := hJ9
    refine g5_rs [(a_k, (oc5 a_h a_j a_pt e_ln e_se e_lh e_br e_we e_me e_ce e_wy e_ho e_ov)), (a_h, (oc1 e_wa e_le e_st e_fo e_lc a_l a_g a_b a_s a_p a_w e_gb a_bb)), (a_p, (oc6 8 5 a_pn e_p)), (a_pn, (arI G 40 f_p)), (a_l, (arW G 6 f_l)), (a_j, (oc2 a_as a_sk)), (a_as, (arI G 8 f_as)), (a_sk, (arJ G 50 z3)), (a_lo, (oc3 e_cl a_hd a_sr a_cd)), (a_sr, (arI G n_sr f_sr)), (a_cd, (arI G n_cd f_cd)), (a_hd, (arI G n_hd f_hd)), (a_g, (oc6 6 5 a_gn e_g)), (a_gn, (arI G 30 f_g))] hP hD ?_
    clear hP hD
    intro hP hD
    refine g5_ti (v := z7) y8 ?_
    have hg_9 : 0 ≤ z7.toInt ∧ z7.toInt ≤ 23 := by rw [i_6]; exact (e_gk k_r.toInt (by omega) (by omega)).2.2.1
    refine W.eq (g2 := F0 m 201 ls [.int z7]) rfl ?_
    refine lv_istore (lv' := [(7, .int z7), (0, .ref a_k), (2, .ref a_g), (3, .int k_r), (4, .int k_n), (5, .int k_s), (6, .ref a_lo)]) hx hb dX5_meetGlass_201 hl (by decide +kernel) rfl ?_
    clear hl
    intro ls hl
    exact k_mggL3 G a_k a_h a_g a_gn a_p a_pn a_j a_as a_sk a_l a_lo a_sr a_cd a_hd a_pt a_b a_s a_w a_bb n_sr n_cd n_hd e_ln e_se e_lh e_br e_we e_me e_ce e_wy e_ho e_ov e_le e_st e_fo e_lc e_wa e_gb e_g f_g e_p f_p f_as z3 f_l e_cl f_sr f_cd f_hd k_r k_n k_s z7 hx hb hml hown hts hK hN hT hA (hP.sub [0, 1, 12, 13, 2, 3, 5, 6, 7, 4, 8, 9, 10, 11] rfl) (hD.sub [0, 1, 12, 13, 2, 3, 5, 6, 7, 4, 8, 9, 10, 11] (by decide +kernel) rfl) hS (lv_sub hl [1, 2, 3, 4, 5, 6, 0] rfl) ⟨by omega, by omega⟩ ⟨by omega, by omega⟩ ⟨by omega, by omega⟩ ⟨by omega, by omega⟩ ⟨by omega, by omega⟩ ⟨by omega, by omega⟩ ⟨by omega, by omega⟩ ⟨by omega, by omega⟩ ⟨by omega, by omega⟩ ⟨by omega, by omega⟩ ⟨by omega, by omega⟩ (e_gk) (e_pk) (e_f) (e_a) (e_hn) (e_hs) (e_hk) (e_c) (e_r) kk
  ·
    have n_5 : gNe (z2.toInt) (0) := g5_eqN (a := z2.toInt) (b := 0) rfl (by decide +kernel) c_5
    have i_5 : z2.toInt ≥ 1 := by have z := g5_eqN (a := z2.toInt) (b := 0) (by rfl) (by decide +kernel) c_5; omega
    refine lv_aload_n hx hb dX5_meetGlass_183 rfl (lv_at hl 0 rfl) ?_
    refine va_get (D := G.1) (ci := 5) (v := .ref a_j) (C := RX5) (T := TX5) (N := 13) hx hb hts inG_X5 hown hK hP 0 rfl rfl 1 (by decide +kernel) (hts _ fl_X5_12) (fun _ h9 => h9) rfl dX5_meetGlass_184 ?_
    refine lv_bipush (v := 23) hx hb dX5_meetGlass_187 (by decide +kernel) ?_
    obtain ⟨hPc, hDc, hFc⟩ := g5_sub3 (wc := [(a_j, (oc2 a_as a_sk)), (a_sk, (arJ G 50 z3))]) hP hD hS hA [7, 9] (by decide +kernel) rfl
    refine va_calli (va_runV (As := [.int 23]) (rest := []) ⟨hx, hb, hml, hown, hts⟩ (j_told l G a_j a_sk a_as H.size 23 z3 ⟨by decide, by decide⟩) (cwV 1 hts gV_X5_134 rfl rfl rfl hv_X2_toldUpTo ⟨Nat.le_of_ble_eq_true rfl, Nat.le_of_ble_eq_true rfl⟩) (g5_preV hPc hK hDc hN hT hS hFc (ci := 2) (q0 := 0) rfl rfl) rfl rfl hl.1 rfl (lv_room (Nat.le_of_ble_eq_true rfl)) dX5_meetGlass_189 ⟨Nat.le_of_ble_eq_true rfl, Nat.le_of_ble_eq_true rfl⟩) hS (fun q _ h => hFc q h) hFc (fun r u t H locs ht hvm hw hB hz1 hk1 hS => ?_)
    obtain ⟨hP1, hD1⟩ := hB
    have hP1 := g5_ht ht hP1
    obtain ⟨z11, (i_10 : 0 ≤ z11.toInt ∧ z11.toInt ≤ (23 : Int32).toInt), y12, rfl⟩ := hw
    have hJ9 := va_join (wr := [(a_k, (oc5 a_h a_j a_pt e_ln e_se e_lh e_br e_we e_me e_ce e_wy e_ho e_ov)), (a_h, (oc1 e_wa e_le e_st e_fo e_lc a_l a_g a_b a_s a_p a_w e_gb a_bb)), (a_g, (oc6 6 5 a_gn e_g)), (a_gn, (arI G 30 f_g)), (a_p, (oc6 8 5 a_pn e_p)), (a_pn, (arI G 40 f_p)), (a_l, (arW G 6 f_l)), (a_as, (arI G 8 f_as)), (a_lo, (oc3 e_cl a_hd a_sr a_cd)), (a_sr, (arI G n_sr f_sr)), (a_cd, (arI G n_cd f_cd)), (a_hd, (arI G n_hd f_hd))]) hP hD [7, 9] [0, 1, 2, 3, 4, 5, 6, 8, 10, 11, 12, 13] rfl rfl (by decide +kernel) (by decide +kernel) hk1 hFc hP1 hD1
    clear hP hD hPc hDc hFc ht hvm hz1 hk1 hP1 hD1
    obtain ⟨hP, hD⟩ := hJ9
    refine g5_rs [(a_k, (oc5 a_h a_j a_pt e_ln e_se e_lh e_br e_we e_me e_ce e_wy e_ho e_ov)), (a_h, (oc1 e_wa e_le e_st e_fo e_lc a_l a_g a_b a_s a_p a_w e_gb a_bb)), (a_g, (oc6 6 5 a_gn e_g)), (a_gn, (arI G 30 f_g)), (a_p, (oc6 8 5 a_pn e_p)), (a_pn, (arI G 40 f_p)), (a_l, (arW G 6 f_l)), (a_as, (arI G 8 f_as)), (a_lo, (oc3 e_cl a_hd a_sr a_cd)), (a_sr, (arI G n_sr f_sr)), (a_cd, (arI G n_cd f_cd)), (a_hd, (arI G n_hd f_hd)), (a_j, (oc2 a_as a_sk)), (a_sk, (arJ G 50 z3))] hP hD ?_
    clear hP hD
    intro hP hD
    refine g5_ti (v := z11) y12 ?_
    refine W.eq (g2 := F0 m 192 ls [.int z11]) rfl ?_
    refine lv_goto (tgt := 201) hx hb dX5_meetGlass_192 (by decide +kernel) ?_
    have zk_13 : (23 : Int32).toInt = 23 := (by decide +kernel)
    refine lv_istore (lv' := [(7, .int z11), (0, .ref a_k), (2, .ref a_g), (3, .int k_r), (4, .int k_n), (5, .int k_s), (6, .ref a_lo)]) hx hb dX5_meetGlass_201 hl (by decide +kernel) rfl ?_
    clear hl
    intro ls hl
    exact k_mggL3 G a_k a_h a_g a_gn a_p a_pn a_j a_as a_sk a_l a_lo a_sr a_cd a_hd a_pt a_b a_s a_w a_bb n_sr n_cd n_hd e_ln e_se e_lh e_br e_we e_me e_ce e_wy e_ho e_ov e_le e_st e_fo e_lc e_wa e_gb e_g f_g e_p f_p f_as z3 f_l e_cl f_sr f_cd f_hd k_r k_n k_s z11 hx hb hml hown hts hK hN hT hA (hP.sub [0, 1, 2, 3, 4, 5, 12, 7, 13, 6, 8, 9, 10, 11] rfl) (hD.sub [0, 1, 2, 3, 4, 5, 12, 7, 13, 6, 8, 9, 10, 11] (by decide +kernel) rfl) hS (lv_sub hl [1, 2, 3, 4, 5, 6, 0] rfl) ⟨by omega, by omega⟩ ⟨by omega, by omega⟩ ⟨by omega, by omega⟩ ⟨by omega, by omega⟩ ⟨by omega, by omega⟩ ⟨by omega, by omega⟩ ⟨by omega, by omega⟩ ⟨by omega, by omega⟩ ⟨by omega, by omega⟩ ⟨by omega, by omega⟩ ⟨by omega, by omega⟩ (e_gk) (e_pk) (e_f) (e_a) (e_hn) (e_hs) (e_hk) (e_c) (e_r) kk
set_option maxHeartbeats 4000000 in
set_option maxRecDepth 100000 in
theorem k_mggL1 {p : Program} {l : Launch} {e : Env} {s : State} {m : MethodId} {args : Array Value} {below : List Frame} {meth : Method} {c : Code} {Q : State → Prop} {A : Nat → Prop} {H : Heap} {locs : List Loc} {ls : Array Slot} (G : g5_G) (a_k a_h a_g a_gn a_p a_pn a_j a_as a_sk a_l a_lo a_sr a_cd a_hd a_pt a_b a_s a_w a_bb n_sr n_cd n_hd : Nat) (e_ln : Int32) (e_se : Int32) (e_lh : Int32) (e_br : Int32) (e_we : Int32) (e_me : Int32) (e_ce : Int32) (e_wy : Int32) (e_ho : Int32) (e_ov : Int32) (e_le : Int32) (e_st : Int32) (e_fo : Int32) (e_lc : Int32) (e_wa : Int64) (e_gb : Int64) (e_g : Int32) (f_g : Nat → Int32) (e_p : Int32) (f_p : Nat → Int32) (f_as : Nat → Int32) (f_sk : Nat → Int64) (f_l : Nat → Option Nat) (e_cl : Int32) (f_sr : Nat → Int32) (f_cd : Nat → Int32) (f_hd : Nat → Int32) (k_r : Int32) (k_n : Int32) (hx : p.tables.exec = Jvm.exec) (hb : c.code = cX5_meetGlass) (hml : c.maxLocals = 9) (hown : s.vm.findClass RX5 = some m.cls) (hts : ∀ w ∈ tblG, w.before args s = true) (hK : va_K G.1 vwCl (T5 G) s) (hN : g5_N s) (hT : g5_S A s s.heap) (hA : ∀ q : Nat, s.heap.size ≤ q → A q) (hP : va_P G.1 vwCl [(a_k, (oc5 a_h a_j a_pt e_ln e_se e_lh e_br e_we e_me e_ce e_wy e_ho e_ov)), (a_h, (oc1 e_wa e_le e_st e_fo e_lc a_l a_g a_b a_s a_p a_w e_gb a_bb)), (a_g, (oc6 6 5 a_gn e_g)), (a_gn, (arI G 30 f_g)), (a_p, (oc6 8 5 a_pn e_p)), (a_pn, (arI G 40 f_p)), (a_j, (oc2 a_as a_sk)), (a_as, (arI G 8 f_as)), (a_sk, (arJ G 50 f_sk)), (a_l, (arW G 6 f_l)), (a_lo, (oc3 e_cl a_hd a_sr a_cd)), (a_sr, (arI G n_sr f_sr)), (a_cd, (arI G n_cd f_cd)), (a_hd, (arI G n_hd f_hd))] H) (hD : va_D A [(a_k, (oc5 a_h a_j a_pt e_ln e_se e_lh e_br e_we e_me e_ce e_wy e_ho e_ov)), (a_h, (oc1 e_wa e_le e_st e_fo e_lc a_l a_g a_b a_s a_p a_w e_gb a_bb)), (a_g, (oc6 6 5 a_gn e_g)), (a_gn, (arI G 30 f_g)), (a_p, (oc6 8 5 a_pn e_p)), (a_pn, (arI G 40 f_p)), (a_j, (oc2 a_as a_sk)), (a_as, (arI G 8 f_as)), (a_sk, (arJ G 50 f_sk)), (a_l, (arW G 6 f_l)), (a_lo, (oc3 e_cl a_hd a_sr a_cd)), (a_sr, (arI G n_sr f_sr)), (a_cd, (arI G n_cd f_cd)), (a_hd, (arI G n_hd f_hd))]) (hS : va_S A s.heap H locs) (hl : lv_has ls 9 [(0, .ref a_k), (2, .ref a_g), (3, .int k_r), (4, .int k_n)]) (h_e_br : 0 ≤ e_br.toInt ∧ e_br.toInt ≤ 1000000) (h_e_ce : 0 ≤ e_ce.toInt ∧ e_ce.toInt ≤ 63) (h_e_wy : 0 ≤ e_wy.toInt ∧ e_wy.toInt ≤ 3) (h_e_ho : 0 ≤ e_ho.toInt ∧ e_ho.toInt ≤ 23) (h_e_ov : 0 ≤ e_ov.toInt ∧ e_ov.toInt ≤ 1) (h_e_g : 0 ≤ e_g.toInt ∧ e_g.toInt ≤ 6) (h_e_p : 0 ≤ e_p.toInt ∧ e_p.toInt ≤ 8) (h_e_cl : 0 ≤ e_cl.toInt ∧ e_cl.toInt ≤ 12) (h_k_r : 0 ≤ k_r.toInt ∧ k_r.toInt ≤ 7) (e_gk : gOK f_g e_g.toInt) (e_pk : gOK f_p e_p.toInt) (e_f : 0 ≤ e_fo.toInt ∧ e_fo.toInt < e_lc.toInt ∧ e_lc.toInt ≤ 6) (e_a : f_l e_fo.toNatClampNeg = some a_lo) (e_hn : n_cd ≤ 400) (e_hs : ∀ j : Nat, j < n_sr → 0 ≤ (f_sr j).toInt ∧ (f_sr j).toInt ≤ (n_cd : Int)) (e_hk : ∀ j : Nat, j < n_cd → (f_cd j >>> (12 &&& 31)).toInt = 1 → (f_cd j &&& 4095).toInt < 8) (e_c : (e_cl.toInt : Int) ≤ (n_hd : Int) ∧ (e_cl.toInt + 1 : Int) ≤ (n_sr : Int)) (e_r : k_r.toInt < e_g.toInt) (kk : ∀ (pc1 : Nat), decode cX5_meetGlass pc1 = .ok (.return_, 1) → ∀ (o_b : Int32) (o_w : Int32) (o_m : Int32) (o_y : Int32) (o_h : Int32) (o_v : Int32) (o_a : Nat → Int32) (o_k : Nat → Int64) (ls : Array Slot) (H : Heap) (locs : List Loc), va_P G.1 vwCl [(a_k, (oc5 a_h a_j a_pt e_ln e_se e_lh o_b o_w o_m e_ce o_y o_h o_v)), (a_h, (oc1 e_wa e_le e_st e_fo e_lc a_l a_g a_b a_s a_p a_w e_gb a_bb)), (a_g, (oc6 6 5 a_gn e_g)), (a_gn, (arI G 30 f_g)), (a_p, (oc6 8 5 a_pn e_p)), (a_pn, (arI G 40 f_p)), (a_j, (oc2 a_as a_sk)), (a_as, (arI G 8 o_a)), (a_sk, (arJ G 50 o_k)), (a_l, (arW G 6 f_l)), (a_lo, (oc3 e_cl a_hd a_sr a_cd)), (a_sr, (arI G n_sr f_sr)), (a_cd, (arI G n_cd f_cd)), (a_hd, (arI G n_hd f_hd))] H → va_D A [(a_k, (oc5 a_h a_j a_pt e_ln e_se e_lh o_b o_w o_m e_ce o_y o_h o_v)), (a_h, (oc1 e_wa e_le e_st e_fo e_lc a_l a_g a_b a_s a_p a_w e_gb a_bb)), (a_g, (oc6 6 5 a_gn e_g)), (a_gn, (arI G 30 f_g)), (a_p, (oc6 8 5 a_pn e_p)), (a_pn, (arI G 40 f_p)), (a_j, (oc2 a_as a_sk)), (a_as, (arI G 8 o_a)), (a_sk, (arJ G 50 o_k)), (a_l, (arW G 6 f_l)), (a_lo, (oc3 e_cl a_hd a_sr a_cd)), (a_sr, (arI G n_sr f_sr)), (a_cd, (arI G n_cd f_cd)), (a_hd, (arI G n_hd f_hd))] → va_S A s.heap H locs → (0 ≤ o_b.toInt ∧ o_b.toInt ≤ 1000000) → (0 ≤ o_y.toInt ∧ o_y.toInt ≤ 3) → (0 ≤ o_h.toInt ∧ o_h.toInt ≤ 23) → (0 ≤ o_v.toInt ∧ o_v.toInt ≤ 1) → W p l e ({ frames := 12, cells := 0, slots := 0, locals := 500 } : Room) s m args below meth c H locs 0 0 Q (F0 m pc1 ls [])) : W p l e ({ frames := 12, cells := 0, slots := 0, locals := 500 } : Room) s m args below meth c H locs 0 0 Q (F0 m 84 ls []) := by
  refine lv_aload_n hx hb dX5_meetGlass_84 rfl (lv_at hl 1 rfl) ?_
  refine lv_iload_n hx hb dX5_meetGlass_85 rfl (lv_at hl 2 rfl) ?_
  refine lv_iconst (v := 1) hx hb dX5_meetGlass_86 (by decide +kernel) ?_
  obtain ⟨hPc, hDc, hFc⟩ := g5_sub3 (wc := [(a_g, (oc6 6 5 a_gn e_g)), (a_gn, (arI G 30 f_g))]) hP hD hS hA [2, 3] (by decide +kernel) rfl
  refine va_calli (va_runV (As := [.int k_r, .int 1]) (rest := []) ⟨hx, hb, hml, hown, hts⟩ (t_get_G l G a_g a_gn H.size e_g k_r 1 f_g ⟨by omega, by omega⟩) (cwV 2 hts gV_X5_107 rfl rfl rfl hv_X6_get ⟨Nat.le_of_ble_eq_true rfl, Nat.le_of_ble_eq_true rfl⟩) (g5_preV hPc hK hDc hN hT hS hFc (ci := 6) (q0 := 0) rfl rfl) rfl rfl hl.1 rfl (lv_room (Nat.le_of_ble_eq_true rfl)) dX5_meetGlass_87 ⟨Nat.le_of_ble_eq_true rfl, Nat.le_of_ble_eq_true rfl⟩) hS (fun q _ h => hFc q h) hFc (fun r u t H locs ht hvm hw hB hz1 hk1 hS => ?_)
  obtain ⟨hP1, hD1⟩ := hB
  have hP1 := g5_ht ht hP1
  obtain ⟨z2, (i_1 : z2 = tget f_g e_g.toInt 5 k_r.toInt (1 : Int32).toInt), y3, rfl⟩ := hw
  have hJ9 := va_join (wr := [(a_k, (oc5 a_h a_j a_pt e_ln e_se e_lh e_br e_we e_me e_ce e_wy e_ho e_ov)), (a_h, (oc1 e_wa e_le e_st e_fo e_lc a_l a_g a_b a_s a_p a_w e_gb a_bb)), (a_p, (oc6 8 5 a_pn e_p)), (a_pn, (arI G 40 f_p)), (a_j, (oc2 a_as a_sk)), (a_as, (arI G 8 f_as)), (a_sk, (arJ G 50 f_sk)), (a_l, (arW G 6 f_l)), (a_lo, (oc3 e_cl a_hd a_sr a_cd)), (a_sr, (arI G n_sr f_sr)), (a_cd, (arI G n_cd f_cd)), (a_hd, (arI G n_hd f_hd))]) hP hD [2, 3] [0, 1, 4, 5, 6, 7, 8, 9, 10, 11, 12, 13] rfl rfl (by decide +kernel) (by decide +kernel) hk1 hFc hP1 hD1
  clear hP hD hPc hDc hFc ht hvm hz1 hk1 hP1 hD1
  obtain ⟨hP, hD⟩ := hJ9
  refine g5_rs [(a_k, (oc5 a_h a_j a_pt e_ln e_se e_lh e_br e_we e_me e_ce e_wy e_ho e_ov)), (a_h, (oc1 e_wa e_le e_st e_fo e_lc a_l a_g a_b a_s a_p a_w e_gb a_bb)), (a_p, (oc6 8 5 a_pn e_p)), (a_pn, (arI G 40 f_p)), (a_j, (oc2 a_as a_sk)), (a_as, (arI G 8 f_as)), (a_sk, (arJ G 50 f_sk)), (a_l, (arW G 6 f_l)), (a_lo, (oc3 e_cl a_hd a_sr a_cd)), (a_sr, (arI G n_sr f_sr)), (a_cd, (arI G n_cd f_cd)), (a_hd, (arI G n_hd f_hd)), (a_g, (oc6 6 5 a_gn e_g)), (a_gn, (arI G 30 f_g))] hP hD ?_
  clear hP hD
  intro hP hD
  refine g5_ti (v := z2) y3 ?_
  have hg_4 : 0 ≤ z2.toInt ∧ z2.toInt ≤ 5 := by rw [i_1]; exact (e_gk k_r.toInt (by omega) (by omega)).2.1
  refine W.eq (g2 := F0 m 90 ls [.int z2]) rfl ?_
  refine lv_istore (lv' := [(5, .int z2), (0, .ref a_k), (2, .ref a_g), (3, .int k_r), (4, .int k_n)]) hx hb dX5_meetGlass_90 hl (by decide +kernel) rfl ?_
  clear hl
  intro ls hl
  refine lv_aload_n hx hb dX5_meetGlass_92 rfl (lv_at hl 1 rfl) ?_
  refine lv_dup hx hb dX5_meetGlass_93 rfl ?_
  refine va_get (D := G.1) (ci := 5) (v := .int e_me) (C := RX5) (T := TX5) (N := 13) hx hb hts inG_X5 hown hK hP 0 rfl rfl 8 (by decide +kernel) (hts _ fl_X5_95) (fun _ h9 => h9) rfl dX5_meetGlass_94 ?_
  refine lv_iconst (v := 1) hx hb dX5_meetGlass_97 (by decide +kernel) ?_
  refine W.eq (g2 := F0 m 98 ls [.int 1, .int e_me, .ref a_k]) rfl ?_
  refine lv_iload hx hb dX5_meetGlass_98 (lv_at hl 4 rfl) ?_
  refine lv_ishl hx hb dX5_meetGlass_100 ?_
  refine lv_ior hx hb dX5_meetGlass_101 ?_
  refine va_put (D := G.1) (ci := 5) (v := .int (e_me ||| (1 <<< (k_n &&& 31)))) (ty := .int) (C := RX5) (T := TX5) (N := 13) hx hb hts inG_X5 tyX5 tyX5_ok nmX5 hown hK hP hD hS 0 rfl rfl 8 (by decide +kernel) (hts _ fl_X5_95) (fun _ h9 => h9) rfl (by decide +kernel) rfl rfl (Nat.le_of_ble_eq_true rfl) dX5_meetGlass_102 ?_
  clear hP hD hS
  intro H locs hP hD hS
  refine g5_rs [(a_k, (oc5 a_h a_j a_pt e_ln e_se e_lh e_br e_we (e_me ||| (1 <<< (k_n &&& 31))) e_ce e_wy e_ho e_ov)), (a_h, (oc1 e_wa e_le e_st e_fo e_lc a_l a_g a_b a_s a_p a_w e_gb a_bb)), (a_p, (oc6 8 5 a_pn e_p)), (a_pn, (arI G 40 f_p)), (a_j, (oc2 a_as a_sk)), (a_as, (arI G 8 f_as)), (a_sk, (arJ G 50 f_sk)), (a_l, (arW G 6 f_l)), (a_lo, (oc3 e_cl a_hd a_sr a_cd)), (a_sr, (arI G n_sr f_sr)), (a_cd, (arI G n_cd f_cd)), (a_hd, (arI G n_hd f_hd)), (a_g, (oc6 6 5 a_gn e_g)), (a_gn, (arI G 30 f_g))] hP hD ?_
  clear hP hD
  intro hP hD
  refine lv_aload_n hx hb dX5_meetGlass_105 rfl (lv_at hl 1 rfl) ?_
  refine W.eq (g2 := F0 m 106 ls [.ref a_k]) rfl ?_
  refine va_get (D := G.1) (ci := 5) (v := .ref a_h) (C := RX5) (T := TX5) (N := 13) hx hb hts inG_X5 hown hK hP 0 rfl rfl 0 (by decide +kernel) (hts _ fl_X5_22) (fun _ h9 => h9) rfl dX5_meetGlass_106 ?_
  obtain ⟨hPc, hDc, hFc⟩ := g5_sub3 (wc := [(a_h, (oc1 e_wa e_le e_st e_fo e_lc a_l a_g a_b a_s a_p a_w e_gb a_bb)), (a_l, (arW G 6 f_l))]) hP hD hS hA [1, 7] (by decide +kernel) rfl
  refine va_callq (va_runV (As := []) (rest := []) ⟨hx, hb, hml, hown, hts⟩ (h_lawL l G a_h a_l a_g a_b a_s a_p a_w a_bb a_lo H.size e_le e_st e_fo e_lc e_wa e_gb f_l (e_f) (e_a)) (cwV 0 hts gV_X5_113 rfl rfl rfl hv_X1_lawInForce ⟨Nat.le_of_ble_eq_true rfl, Nat.le_of_ble_eq_true rfl⟩) (g5_preV hPc hK hDc hN hT hS hFc (ci := 1) (q0 := 0) rfl rfl) rfl rfl hl.1 rfl (lv_room (Nat.le_of_ble_eq_true rfl)) dX5_meetGlass_109 ⟨Nat.le_of_ble_eq_true rfl, Nat.le_of_ble_eq_true rfl⟩) hS (fun q _ h => hFc q h) hFc (fun r u t H locs ht hvm hw hB hz1 hk1 hS => ?_)
  obtain ⟨hP1, hD1⟩ := hB
  have hP1 := g5_ht ht hP1
  obtain ⟨rfl, rfl⟩ := hw
  have hJ9 := va_join (wr := [(a_k, (oc5 a_h a_j a_pt e_ln e_se e_lh e_br e_we (e_me ||| (1 <<< (k_n &&& 31))) e_ce e_wy e_ho e_ov)), (a_p, (oc6 8 5 a_pn e_p)), (a_pn, (arI G 40 f_p)), (a_j, (oc2 a_as a_sk)), (a_as, (arI G 8 f_as)), (a_sk, (arJ G 50 f_sk)), (a_lo, (oc3 e_cl a_hd a_sr a_cd)), (a_sr, (arI G n_sr f_sr)), (a_cd, (arI G n_cd f_cd)), (a_hd, (arI G n_hd f_hd)), (a_g, (oc6 6 5 a_gn e_g)), (a_gn, (arI G 30 f_g))]) hP hD [1, 7] [0, 2, 3, 4, 5, 6, 8, 9, 10, 11, 12, 13] rfl rfl (by decide +kernel) (by decide +kernel) hk1 hFc hP1 hD1
  clear hP hD hPc hDc hFc ht hvm hz1 hk1 hP1 hD1
  obtain ⟨hP, hD⟩ := hJ9
  refine g5_rs [(a_k, (oc5 a_h a_j a_pt e_ln e_se e_lh e_br e_we (e_me ||| (1 <<< (k_n &&& 31))) e_ce e_wy e_ho e_ov)), (a_p, (oc6 8 5 a_pn e_p)), (a_pn, (arI G 40 f_p)), (a_j, (oc2 a_as a_sk)), (a_as, (arI G 8 f_as)), (a_sk, (arJ G 50 f_sk)), (a_lo, (oc3 e_cl a_hd a_sr a_cd)), (a_sr, (arI G n_sr f_sr)), (a_cd, (arI G n_cd f_cd)), (a_hd, (arI G n_hd f_hd)), (a_g, (oc6 6 5 a_gn e_g)), (a_gn, (arI G 30 f_g)), (a_h, (oc1 e_wa e_le e_st e_fo e_lc a_l a_g a_b a_s a_p a_w e_gb a_bb)), (a_l, (arW G 6 f_l))] hP hD ?_
  clear hP hD
  intro hP hD
  refine g5_tv (v := .ref a_lo) rfl ?_
  refine lv_astore (lv' := [(6, .ref a_lo), (5, .int z2), (0, .ref a_k), (2, .ref a_g), (3, .int k_r), (4, .int k_n)]) hx hb dX5_meetGlass_112 hl (by decide +kernel) rfl ?_
  clear hl
  intro ls hl
  refine lv_aload_n hx hb dX5_meetGlass_114 rfl (lv_at hl 2 rfl) ?_
  refine lv_iload hx hb dX5_meetGlass_115 (lv_at hl 5 rfl) ?_
  refine W.eq (g2 := F0 m 117 ls [.int k_n, .ref a_k]) rfl ?_
  refine lv_iconst (v := (-1)) hx hb dX5_meetGlass_117 (by decide +kernel) ?_
  obtain ⟨hPc, hDc, hFc⟩ := g5_sub3 (wc := [(a_k, (oc5 a_h a_j a_pt e_ln e_se e_lh e_br e_we (e_me ||| (1 <<< (k_n &&& 31))) e_ce e_wy e_ho e_ov)), (a_j, (oc2 a_as a_sk)), (a_as, (arI G 8 f_as))]) hP hD hS hA [0, 3, 4] (by decide +kernel) rfl
  refine va_callv (va_runV (As := [.int k_n, .int (-1)]) (rest := []) ⟨hx, hb, hml, hown, hts⟩ (k_ask l G a_k a_j a_as a_h a_pt a_sk H.size e_ln e_se e_lh e_br e_we (e_me ||| (1 <<< (k_n &&& 31))) e_ce e_wy e_ho e_ov k_n (-1) f_as ⟨by omega, by omega⟩ ⟨by omega, by omega⟩ ⟨by omega, by omega⟩ ⟨by omega, by omega⟩ ⟨by omega, by omega⟩) (cwV 2 hts gV_X5_120 rfl rfl rfl hv_X5_ask ⟨Nat.le_of_ble_eq_true rfl, Nat.le_of_ble_eq_true rfl⟩) (g5_preV hPc hK hDc hN hT hS hFc (ci := 5) (q0 := 0) rfl rfl) rfl rfl hl.1 rfl (lv_room (Nat.le_of_ble_eq_true rfl)) dX5_meetGlass_118 ⟨Nat.le_of_ble_eq_true rfl, Nat.le_of_ble_eq_true rfl⟩) hS (fun q _ h => hFc q h) hFc (fun u t H locs ht hvm hw hB hz1 hk1 hS => ?_)
  obtain ⟨hP1, hD1⟩ := hB
  have hP1 := g5_ht ht hP1
  obtain ⟨z5, rfl⟩ := hw
  have hJ9 := va_join (wr := [(a_p, (oc6 8 5 a_pn e_p)), (a_pn, (arI G 40 f_p)), (a_sk, (arJ G 50 f_sk)), (a_lo, (oc3 e_cl a_hd a_sr a_cd)), (a_sr, (arI G n_sr f_sr)), (a_cd, (arI G n_cd f_cd)), (a_hd, (arI G n_hd f_hd)), (a_g, (oc6 6 5 a_gn e_g)), (a_gn, (arI G 30 f_g)), (a_h, (oc1 e_wa e_le e_st e_fo e_lc a_l a_g a_b a_s a_p a_w e_gb a_bb)), (a_l, (arW G 6 f_l))]) hP hD [0, 3, 4] [1, 2, 5, 6, 7, 8, 9, 10, 11, 12, 13] rfl rfl (by decide +kernel) (by decide +kernel) hk1 hFc hP1 hD1
  clear hP hD hPc hDc hFc ht hvm hz1 hk1 hP1 hD1
  obtain ⟨hP, hD⟩ := hJ9
  refine g5_rs [(a_p, (oc6 8 5 a_pn e_p)), (a_pn, (arI G 40 f_p)), (a_sk, (arJ G 50 f_sk)), (a_lo, (oc3 e_cl a_hd a_sr a_cd)), (a_sr, (arI G n_sr f_sr)), (a_cd, (arI G n_cd f_cd)), (a_hd, (arI G n_hd f_hd)), (a_g, (oc6 6 5 a_gn e_g)), (a_gn, (arI G 30 f_g)), (a_h, (oc1 e_wa e_le e_st e_fo e_lc a_l a_g a_b a_s a_p a_w e_gb a_bb)), (a_l, (arW G 6 f_l)), (a_k, (oc5 a_h a_j a_pt e_ln e_se e_lh e_br e_we (e_me ||| (1 <<< (k_n &&& 31))) e_ce e_wy e_ho e_ov)), (a_j, (oc2 a_as a_sk)), (a_as, (arI G 8 z5))] hP hD ?_
  clear hP hD
  intro hP hD
  refine lv_aload_n hx hb dX5_meetGlass_121 rfl (lv_at hl 3 rfl) ?_
  refine lv_iload_n hx hb dX5_meetGlass_122 rfl (lv_at hl 4 rfl) ?_
  refine lv_iconst (v := 4) hx hb dX5_meetGlass_123 (by decide +kernel) ?_
  refine W.eq (g2 := F0 m 124 ls [.int 4, .int k_r, .ref a_g]) rfl ?_
  obtain ⟨hPc, hDc, hFc⟩ := g5_sub3 (wc := [(a_g, (oc6 6 5 a_gn e_g)), (a_gn, (arI G 30 f_g))]) hP hD hS hA [7, 8] (by decide +kernel) rfl
  refine va_calli (va_runV (As := [.int k_r, .int 4]) (rest := []) ⟨hx, hb, hml, hown, hts⟩ (t_get_G l G a_g a_gn H.size e_g k_r 4 f_g ⟨by omega, by omega⟩) (cwV 2 hts gV_X5_107 rfl rfl rfl hv_X6_get ⟨Nat.le_of_ble_eq_true rfl, Nat.le_of_ble_eq_true rfl⟩) (g5_preV hPc hK hDc hN hT hS hFc (ci := 6) (q0 := 0) rfl rfl) rfl rfl hl.1 rfl (lv_room (Nat.le_of_ble_eq_true rfl)) dX5_meetGlass_124 ⟨Nat.le_of_ble_eq_true rfl, Nat.le_of_ble_eq_true rfl⟩) hS (fun q _ h => hFc q h) hFc (fun r u t H locs ht hvm hw hB hz1 hk1 hS => ?_)
  obtain ⟨hP1, hD1⟩ := hB
  have hP1 := g5_ht ht hP1
  obtain ⟨z7, (i_6 : z7 = tget f_g e_g.toInt 5 k_r.toInt (4 : Int32).toInt), y8, rfl⟩ := hw
  have hJ9 := va_join (wr := [(a_p, (oc6 8 5 a_pn e_p)), (a_pn, (arI G 40 f_p)), (a_sk, (arJ G 50 f_sk)), (a_lo, (oc3 e_cl a_hd a_sr a_cd)), (a_sr, (arI G n_sr f_sr)), (a_cd, (arI G n_cd f_cd)), (a_hd, (arI G n_hd f_hd)), (a_h, (oc1 e_wa e_le e_st e_fo e_lc a_l a_g a_b a_s a_p a_w e_gb a_bb)), (a_l, (arW G 6 f_l)), (a_k, (oc5 a_h a_j a_pt e_ln e_se e_lh e_br e_we (e_me ||| (1 <<< (k_n &&& 31))) e_ce e_wy e_ho e_ov)), (a_j, (oc2 a_as a_sk)), (a_as, (arI G 8 z5))]) hP hD [7, 8] [0, 1, 2, 3, 4, 5, 6, 9, 10, 11, 12, 13] rfl rfl (by decide +kernel) (by decide +kernel) hk1 hFc hP1 hD1
  clear hP hD hPc hDc hFc ht hvm hz1 hk1 hP1 hD1
  obtain ⟨hP, hD⟩ := hJ9
  refine g5_rs [(a_p, (oc6 8 5 a_pn e_p)), (a_pn, (arI G 40 f_p)), (a_sk, (arJ G 50 f_sk)), (a_lo, (oc3 e_cl a_hd a_sr a_cd)), (a_sr, (arI G n_sr f_sr)), (a_cd, (arI G n_cd f_cd)), (a_hd, (arI G n_hd f_hd)), (a_h, (oc1 e_wa e_le e_st e_fo e_lc a_l a_g a_b a_s a_p a_w e_gb a_bb)), (a_l, (arW G 6 f_l)), (a_k, (oc5 a_h a_j a_pt e_ln e_se e_lh e_br e_we (e_me ||| (1 <<< (k_n &&& 31))) e_ce e_wy e_ho e_ov)), (a_j, (oc2 a_as a_sk)), (a_as, (arI G 8 z5)), (a_g, (oc6 6 5 a_gn e_g)), (a_gn, (arI G 30 f_g))] hP hD ?_
  clear hP hD
  intro hP hD
  refine g5_ti (v := z7) y8 ?_
  refine lv_aload_n hx hb dX5_meetGlass_127 rfl (lv_at hl 2 rfl) ?_
  refine va_get (D := G.1) (ci := 5) (v := .int e_ho) (C := RX5) (T := TX5) (N := 13) hx hb hts inG_X5 hown hK hP 9 rfl rfl 11 (by decide +kernel) (hts _ fl_X5_33) (fun _ h9 => h9) rfl dX5_meetGlass_128 ?_
  refine lv_ishr hx hb dX5_meetGlass_131 ?_
  refine lv_iconst (v := 1) hx hb dX5_meetGlass_132 (by decide +kernel) ?_
  refine W.eq (g2 := F0 m 133 ls [.int 1, .int (z7 >>> (e_ho &&& 31))]) rfl ?_
  refine lv_iand hx hb dX5_meetGlass_133 ?_
  refine lv_if_ne (tgt := 169) hx hb dX5_meetGlass_134 (by decide +kernel) (fun c_9 => ?_) (fun c_9 => ?_)
  ·
    have n_9 : gNe (((z7 >>> (e_ho &&& 31)) &&& 1).toInt) (0) := g5_ne (a := ((z7 >>> (e_ho &&& 31)) &&& 1).toInt) (b := 0) rfl (by decide +kernel) c_9
    exact kk 169 dX5_meetGlass_169 e_br e_we (e_me ||| (1 <<< (k_n &&& 31))) e_wy e_ho e_ov z5 f_sk ls H locs (hP.sub [9, 7, 12, 13, 0, 1, 10, 11, 2, 8, 3, 4, 5, 6] rfl) (hD.sub [9, 7, 12, 13, 0, 1, 10, 11, 2, 8, 3, 4, 5, 6] (by decide +kernel) rfl) hS (⟨by omega, by omega⟩) (⟨by omega, by omega⟩) (⟨by omega, by omega⟩) (⟨by omega, by omega⟩)
  ·
    have i_9 : ((z7 >>> (e_ho &&& 31)) &&& 1).toInt = 0 := g5_neN (a := ((z7 >>> (e_ho &&& 31)) &&& 1).toInt) (b := 0) rfl (by decide +kernel) c_9
    refine lv_aload_n hx hb dX5_meetGlass_137 rfl (lv_at hl 2 rfl) ?_
    refine va_get (D := G.1) (ci := 5) (v := .ref a_j) (C := RX5) (T := TX5) (N := 13) hx hb hts inG_X5 hown hK hP 9 rfl rfl 1 (by decide +kernel) (hts _ fl_X5_12) (fun _ h9 => h9) rfl dX5_meetGlass_138 ?_
    refine lv_aload hx hb dX5_meetGlass_141 (lv_at hl 0 rfl) ?_
    refine lv_iconst (v := 2) hx hb dX5_meetGlass_143 (by decide +kernel) ?_
    refine W.eq (g2 := F0 m 144 ls [.int 2, .ref a_lo, .ref a_j]) rfl ?_
    obtain ⟨hPc, hDc, hFc⟩ := g5_sub3 (wc := [(a_j, (oc2 a_as a_sk)), (a_as, (arI G 8 z5)), (a_sk, (arJ G 50 f_sk)), (a_lo, (oc3 e_cl a_hd a_sr a_cd)), (a_sr, (arI G n_sr f_sr)), (a_cd, (arI G n_cd f_cd)), (a_hd, (arI G n_hd f_hd))]) hP hD hS hA [10, 11, 2, 3, 4, 5, 6] (by decide +kernel) rfl
    refine va_calli (va_runV (As := [.ref a_lo, .int 2]) (rest := []) ⟨hx, hb, hml, hown, hts⟩ (j_isHeld l G a_j a_as a_sk a_lo a_sr a_cd a_hd H.size 2 e_cl z5 f_sk f_sr f_cd f_hd n_sr n_cd n_hd ⟨by omega, by omega⟩ (e_hn) (e_hs) (e_hk) (e_c)) (cwV 2 hts gV_X5_124 rfl rfl rfl hv_X2_isHeld ⟨Nat.le_of_ble_eq_true rfl, Nat.le_of_ble_eq_true rfl⟩) (g5_preV hPc hK hDc hN hT hS hFc (ci := 2) (q0 := 0) rfl rfl) rfl rfl hl.1 rfl (lv_room (Nat.le_of_ble_eq_true rfl)) dX5_meetGlass_144 ⟨Nat.le_of_ble_eq_true rfl, Nat.le_of_ble_eq_true rfl⟩) hS (fun q _ h => hFc q h) hFc (fun r u t H locs ht hvm hw hB hz1 hk1 hS => ?_)
    obtain ⟨hP1, hD1⟩ := hB
    have hP1 := g5_ht ht hP1
    obtain ⟨z11, z12, (i_10 : 0 ≤ z11.toInt ∧ z11.toInt ≤ 1), y13, rfl⟩ := hw
    have hJ9 := va_join (wr := [(a_p, (oc6 8 5 a_pn e_p)), (a_pn, (arI G 40 f_p)), (a_h, (oc1 e_wa e_le e_st e_fo e_lc a_l a_g a_b a_s a_p a_w e_gb a_bb)), (a_l, (arW G 6 f_l)), (a_k, (oc5 a_h a_j a_pt e_ln e_se e_lh e_br e_we (e_me ||| (1 <<< (k_n &&& 31))) e_ce e_wy e_ho e_ov)), (a_g, (oc6 6 5 a_gn e_g)), (a_gn, (arI G 30 f_g))]) hP hD [10, 11, 2, 3, 4, 5, 6] [0, 1, 7, 8, 9, 12, 13] rfl rfl (by decide +kernel) (by decide +kernel) hk1 hFc hP1 hD1
    clear hP hD hPc hDc hFc ht hvm hz1 hk1 hP1 hD1
    obtain ⟨hP, hD⟩ := hJ9
    refine g5_rs [(a_p, (oc6 8 5 a_pn e_p)), (a_pn, (arI G 40 f_p)), (a_h, (oc1 e_wa e_le e_st e_fo e_lc a_l a_g a_b a_s a_p a_w e_gb a_bb)), (a_l, (arW G 6 f_l)), (a_k, (oc5 a_h a_j a_pt e_ln e_se e_lh e_br e_we (e_me ||| (1 <<< (k_n &&& 31))) e_ce e_wy e_ho e_ov)), (a_g, (oc6 6 5 a_gn e_g)), (a_gn, (arI G 30 f_g)), (a_j, (oc2 a_as a_sk)), (a_as, (arI G 8 z5)), (a_sk, (arJ G 50 z12)), (a_lo, (oc3 e_cl a_hd a_sr a_cd)), (a_sr, (arI G n_sr f_sr)), (a_cd, (arI G n_cd f_cd)), (a_hd, (arI G n_hd f_hd))] hP hD ?_
    clear hP hD
    intro hP hD
    refine g5_ti (v := z11) y13 ?_
    refine lv_if_ne (tgt := 169) hx hb dX5_meetGlass_147 (by decide +kernel) (fun c_14 => ?_) (fun c_14 => ?_)
    ·
      have n_14 : gNe (z11.toInt) (0) := g5_ne (a := z11.toInt) (b := 0) rfl (by decide +kernel) c_14
      have i_14 : z11.toInt ≥ 1 := by have z := g5_ne (a := z11.toInt) (b := 0) (by rfl) (by decide +kernel) c_14; omega
      exact kk 169 dX5_meetGlass_169 e_br e_we (e_me ||| (1 <<< (k_n &&& 31))) e_wy e_ho e_ov z5 z12 ls H locs (hP.sub [4, 2, 5, 6, 0, 1, 7, 8, 9, 3, 10, 11, 12, 13] rfl) (hD.sub [4, 2, 5, 6, 0, 1, 7, 8, 9, 3, 10, 11, 12, 13] (by decide +kernel) rfl) hS (⟨by omega, by omega⟩) (⟨by omega, by omega⟩) (⟨by omega, by omega⟩) (⟨by omega, by omega⟩)
    ·
      have i_14 : z11.toInt = 0 := g5_neN (a := z11.toInt) (b := 0) rfl (by decide +kernel) c_14
      refine lv_iload hx hb dX5_meetGlass_150 (lv_at hl 1 rfl) ?_
      refine lv_iconst (v := 2) hx hb dX5_meetGlass_152 (by decide +kernel) ?_
      refine lv_icmp_lt (tgt := 170) hx hb dX5_meetGlass_153 (by decide +kernel) (fun c_15 => ?_) (fun c_15 => ?_)
      ·
        have i_15 : z2.toInt < 2 := g5_lt (a := z2.toInt) (b := 2) rfl (by decide +kernel) c_15
        exact k_mggL2 G a_k a_h a_g a_gn a_p a_pn a_j a_as a_sk a_l a_lo a_sr a_cd a_hd a_pt a_b a_s a_w a_bb n_sr n_cd n_hd e_ln e_se e_lh e_br e_we (e_me ||| (1 <<< (k_n &&& 31))) e_ce e_wy e_ho e_ov e_le e_st e_fo e_lc e_wa e_gb e_g f_g e_p f_p z5 z12 f_l e_cl f_sr f_cd f_hd k_r k_n z2 hx hb hml hown hts hK hN hT hA (hP.sub [4, 2, 5, 6, 0, 1, 7, 8, 9, 3, 10, 11, 12, 13] rfl) (hD.sub [4, 2, 5, 6, 0, 1, 7, 8, 9, 3, 10, 11, 12, 13] (by decide +kernel) rfl) hS (lv_sub hl [2, 3, 4, 5, 1, 0] rfl) ⟨by omega, by omega⟩ ⟨by omega, by omega⟩ ⟨by omega, by omega⟩ ⟨by omega, by omega⟩ ⟨by omega, by omega⟩ ⟨by omega, by omega⟩ ⟨by omega, by omega⟩ ⟨by omega, by omega⟩ ⟨by omega, by omega⟩ ⟨by omega, by omega⟩ (e_gk) (e_pk) (e_f) (e_a) (e_hn) (e_hs) (e_hk) (e_c) (e_r) kk
      ·
        have i_15 : z2.toInt ≥ 2 := g5_ltN (a := z2.toInt) (b := 2) rfl (by decide +kernel) c_15
        refine lv_iload hx hb dX5_meetGlass_156 (lv_at hl 1 rfl) ?_
        refine lv_iconst (v := 2) hx hb dX5_meetGlass_158 (by decide +kernel) ?_
        refine lv_isub hx hb dX5_meetGlass_159 ?_
        have t_16 : (z2 - 2).toInt = z2.toInt - 2 := g5_isub (a := z2.toInt) (b := 2) (by rfl) (by decide +kernel) (by omega) (by omega)
        refine lv_aload_n hx hb dX5_meetGlass_160 rfl (lv_at hl 2 rfl) ?_
        refine W.eq (g2 := F0 m 161 ls [.ref a_k, .int (z2 - 2)]) rfl ?_
        refine va_get (D := G.1) (ci := 5) (v := .int e_wy) (C := RX5) (T := TX5) (N := 13) hx hb hts inG_X5 hown hK hP 4 rfl rfl 10 (by decide +kernel) (hts _ fl_X5_30) (fun _ h9 => h9) rfl dX5_meetGlass_161 ?_
        refine lv_iconst (v := 2) hx hb dX5_meetGlass_164 (by decide +kernel) ?_
        refine lv_ixor hx hb dX5_meetGlass_165 ?_
        have hx_17 := (g_xor (w := e_wy) (by omega) (by omega)).2
        refine lv_icmp_eq (tgt := 170) hx hb dX5_meetGlass_166 (by decide +kernel) (fun c_18 => ?_) (fun c_18 => ?_)
        ·
          have i_18 : (z2.toInt - 2) = (e_wy ^^^ 2).toInt := by have z := g5_eq (a := (z2 - 2).toInt) (b := (e_wy ^^^ 2).toInt) (by rfl) (by rfl) c_18; omega
          exact k_mggL2 G a_k a_h a_g a_gn a_p a_pn a_j a_as a_sk a_l a_lo a_sr a_cd a_hd a_pt a_b a_s a_w a_bb n_sr n_cd n_hd e_ln e_se e_lh e_br e_we (e_me ||| (1 <<< (k_n &&& 31))) e_ce e_wy e_ho e_ov e_le e_st e_fo e_lc e_wa e_gb e_g f_g e_p f_p z5 z12 f_l e_cl f_sr f_cd f_hd k_r k_n z2 hx hb hml hown hts hK hN hT hA (hP.sub [4, 2, 5, 6, 0, 1, 7, 8, 9, 3, 10, 11, 12, 13] rfl) (hD.sub [4, 2, 5, 6, 0, 1, 7, 8, 9, 3, 10, 11, 12, 13] (by decide +kernel) rfl) hS (lv_sub hl [2, 3, 4, 5, 1, 0] rfl) ⟨by omega, by omega⟩ ⟨by omega, by omega⟩ ⟨by omega, by omega⟩ ⟨by omega, by omega⟩ ⟨by omega, by omega⟩ ⟨by omega, by omega⟩ ⟨by omega, by omega⟩ ⟨by omega, by omega⟩ ⟨by omega, by omega⟩ ⟨by omega, by omega⟩ (e_gk) (e_pk) (e_f) (e_a) (e_hn) (e_hs) (e_hk) (e_c) (e_r) kk
        ·
          have n_18 : gNe ((z2.toInt - 2)) ((e_wy ^^^ 2).toInt) := by have z := g5_eqN (a := (z2 - 2).toInt) (b := (e_wy ^^^ 2).toInt) (by rfl) (by rfl) c_18; unfold gNe; omega
          exact kk 169 dX5_meetGlass_169 e_br e_we (e_me ||| (1 <<< (k_n &&& 31))) e_wy e_ho e_ov z5 z12 ls H locs (hP.sub [4, 2, 5, 6, 0, 1, 7, 8, 9, 3, 10, 11, 12, 13] rfl) (hD.sub [4, 2, 5, 6, 0, 1, 7, 8, 9, 3, 10, 11, 12, 13] (by decide +kernel) rfl) hS (⟨by omega, by omega⟩) (⟨by omega, by omega⟩) (⟨by omega, by omega⟩) (⟨by omega, by omega⟩)
set_option maxHeartbeats 4000000 in
set_option maxRecDepth 100000 in
theorem k_mgpL4 {p : Program} {l : Launch} {e : Env} {s : State} {m : MethodId} {args : Array Value} {below : List Frame} {meth : Method} {c : Code} {Q : State → Prop} {A : Nat → Prop} {H : Heap} {locs : List Loc} {ls : Array Slot} (G : g5_G) (a_k a_h a_g a_gn a_p a_pn a_j a_as a_sk a_l a_lo a_sr a_cd a_hd a_pt a_b a_s a_w a_bb n_sr n_cd n_hd : Nat) (e_ln : Int32) (e_se : Int32) (e_lh : Int32) (e_br : Int32) (e_we : Int32) (e_me : Int32) (e_ce : Int32) (e_wy : Int32) (e_ho : Int32) (e_ov : Int32) (e_le : Int32) (e_st : Int32) (e_fo : Int32) (e_lc : Int32) (e_wa : Int64) (e_gb : Int64) (e_g : Int32) (f_g : Nat → Int32) (e_p : Int32) (f_p : Nat → Int32) (f_as : Nat → Int32) (f_sk : Nat → Int64) (f_l : Nat → Option Nat) (e_cl : Int32) (f_sr : Nat → Int32) (f_cd : Nat → Int32) (f_hd : Nat → Int32) (k_r : Int32) (k_n : Int32) (k_s : Int32) (k_l : Int32) (k_d : Int32) (hx : p.tables.exec = Jvm.exec) (hb : c.code = cX5_meetGlass) (hml : c.maxLocals = 9) (hown : s.vm.findClass RX5 = some m.cls) (hts : ∀ w ∈ tblG, w.before args s = true) (hK : va_K G.1 vwCl (T5 G) s) (hN : g5_N s) (hT : g5_S A s s.heap) (hA : ∀ q : Nat, s.heap.size ≤ q → A q) (hP : va_P G.1 vwCl [(a_k, (oc5 a_h a_j a_pt e_ln e_se e_lh e_br e_we e_me e_ce e_wy e_ho e_ov)), (a_h, (oc1 e_wa e_le e_st e_fo e_lc a_l a_g a_b a_s a_p a_w e_gb a_bb)), (a_g, (oc6 6 5 a_gn e_g)), (a_gn, (arI G 30 f_g)), (a_p, (oc6 8 5 a_pn e_p)), (a_pn, (arI G 40 f_p)), (a_j, (oc2 a_as a_sk)), (a_as, (arI G 8 f_as)), (a_sk, (arJ G 50 f_sk)), (a_l, (arW G 6 f_l)), (a_lo, (oc3 e_cl a_hd a_sr a_cd)), (a_sr, (arI G n_sr f_sr)), (a_cd, (arI G n_cd f_cd)), (a_hd, (arI G n_hd f_hd))] H) (hD : va_D A [(a_k, (oc5 a_h a_j a_pt e_ln e_se e_lh e_br e_we e_me e_ce e_wy e_ho e_ov)), (a_h, (oc1 e_wa e_le e_st e_fo e_lc a_l a_g a_b a_s a_p a_w e_gb a_bb)), (a_g, (oc6 6 5 a_gn e_g)), (a_gn, (arI G 30 f_g)), (a_p, (oc6 8 5 a_pn e_p)), (a_pn, (arI G 40 f_p)), (a_j, (oc2 a_as a_sk)), (a_as, (arI G 8 f_as)), (a_sk, (arJ G 50 f_sk)), (a_l, (arW G 6 f_l)), (a_lo, (oc3 e_cl a_hd a_sr a_cd)), (a_sr, (arI G n_sr f_sr)), (a_cd, (arI G n_cd f_cd)), (a_hd, (arI G n_hd f_hd))]) (hS : va_S A s.heap H locs) (hl : lv_has ls 9 [(0, .ref a_k), (2, .ref a_p), (3, .int k_r), (4, .int k_n), (5, .int k_s), (7, .int k_l), (8, .int k_d)]) (h_e_br : 0 ≤ e_br.toInt ∧ e_br.toInt ≤ 1000000) (h_e_ce : 0 ≤ e_ce.toInt ∧ e_ce.toInt ≤ 63) (h_e_wy : 0 ≤ e_wy.toInt ∧ e_wy.toInt ≤ 3) (h_e_ho : 0 ≤ e_ho.toInt ∧ e_ho.toInt ≤ 23) (h_e_ov : 0 ≤ e_ov.toInt ∧ e_ov.toInt ≤ 1) (h_e_g : 0 ≤ e_g.toInt ∧ e_g.toInt ≤ 6) (h_e_p : 0 ≤ e_p.toInt ∧ e_p.toInt ≤ 8) (h_e_cl : 0 ≤ e_cl.toInt ∧ e_cl.toInt ≤ 12) (h_k_r : 0 ≤ k_r.toInt ∧ k_r.toInt ≤ 7) (h_k_s : 0 ≤ k_s.toInt ∧ k_s.toInt ≤ 5) (h_k_l : 0 ≤ k_l.toInt ∧ k_l.toInt ≤ 23) (h_k_d : 0 ≤ k_d.toInt ∧ k_d.toInt ≤ 10) (e_lt : k_l.toInt ≤ e_ho.toInt) (kk : ∀ (pc1 : Nat), decode cX5_meetGlass pc1 = .ok (.return_, 1) → ∀ (o_b : Int32) (o_w : Int32) (o_m : Int32) (o_y : Int32) (o_h : Int32) (o_v : Int32) (o_a : Nat → Int32) (o_k : Nat → Int64) (ls : Array Slot) (H : Heap) (locs : List Loc), va_P G.1 vwCl [(a_k, (oc5 a_h a_j a_pt e_ln e_se e_lh o_b o_w o_m e_ce o_y o_h o_v)), (a_h, (oc1 e_wa e_le e_st e_fo e_lc a_l a_g a_b a_s a_p a_w e_gb a_bb)), (a_g, (oc6 6 5 a_gn e_g)), (a_gn, (arI G 30 f_g)), (a_p, (oc6 8 5 a_pn e_p)), (a_pn, (arI G 40 f_p)), (a_j, (oc2 a_as a_sk)), (a_as, (arI G 8 o_a)), (a_sk, (arJ G 50 o_k)), (a_l, (arW G 6 f_l)), (a_lo, (oc3 e_cl a_hd a_sr a_cd)), (a_sr, (arI G n_sr f_sr)), (a_cd, (arI G n_cd f_cd)), (a_hd, (arI G n_hd f_hd))] H → va_D A [(a_k, (oc5 a_h a_j a_pt e_ln e_se e_lh o_b o_w o_m e_ce o_y o_h o_v)), (a_h, (oc1 e_wa e_le e_st e_fo e_lc a_l a_g a_b a_s a_p a_w e_gb a_bb)), (a_g, (oc6 6 5 a_gn e_g)), (a_gn, (arI G 30 f_g)), (a_p, (oc6 8 5 a_pn e_p)), (a_pn, (arI G 40 f_p)), (a_j, (oc2 a_as a_sk)), (a_as, (arI G 8 o_a)), (a_sk, (arJ G 50 o_k)), (a_l, (arW G 6 f_l)), (a_lo, (oc3 e_cl a_hd a_sr a_cd)), (a_sr, (arI G n_sr f_sr)), (a_cd, (arI G n_cd f_cd)), (a_hd, (arI G n_hd f_hd))] → va_S A s.heap H locs → (0 ≤ o_b.toInt ∧ o_b.toInt ≤ 1000000) → (0 ≤ o_y.toInt ∧ o_y.toInt ≤ 3) → (0 ≤ o_h.toInt ∧ o_h.toInt ≤ 23) → (0 ≤ o_v.toInt ∧ o_v.toInt ≤ 1) → W p l e ({ frames := 12, cells := 0, slots := 0, locals := 500 } : Room) s m args below meth c H locs 0 0 Q (F0 m pc1 ls [])) : W p l e ({ frames := 12, cells := 0, slots := 0, locals := 500 } : Room) s m args below meth c H locs 0 0 Q (F0 m 246 ls []) := by
  refine lv_aload_n hx hb dX5_meetGlass_246 rfl (lv_at hl 0 rfl) ?_
  refine lv_aload_n hx hb dX5_meetGlass_247 rfl (lv_at hl 0 rfl) ?_
  refine va_get (D := G.1) (ci := 5) (v := .int e_br) (C := RX5) (T := TX5) (N := 13) hx hb hts inG_X5 hown hK hP 0 rfl rfl 6 (by decide +kernel) (hts _ fl_X5_46) (fun _ h9 => h9) rfl dX5_meetGlass_248 ?_
  refine lv_bipush (v := 10) hx hb dX5_meetGlass_251 (by decide +kernel) ?_
  refine W.eq (g2 := F0 m 253 ls [.int 10, .int e_br, .ref a_k]) rfl ?_
  refine lv_iload hx hb dX5_meetGlass_253 (lv_at hl 6 rfl) ?_
  refine lv_isub hx hb dX5_meetGlass_255 ?_
  have t_1 : (10 - k_d).toInt = 10 - k_d.toInt := g5_isub (a := 10) (b := k_d.toInt) (by decide +kernel) (by rfl) (by omega) (by omega)
  refine lv_imul hx hb dX5_meetGlass_256 ?_
  refine lv_bipush (v := 10) hx hb dX5_meetGlass_257 (by decide +kernel) ?_
  refine lv_idiv hx hb dX5_meetGlass_259 (by decide +kernel) ?_
  have hb_2 : 0 ≤ ((e_br * (10 - k_d)) / 10).toInt ∧ ((e_br * (10 - k_d)) / 10).toInt ≤ 1000000 := g_dust (by omega) (by omega)
  refine W.eq (g2 := F0 m 260 ls [.int ((e_br * (10 - k_d)) / 10), .ref a_k]) rfl ?_
  refine va_put (D := G.1) (ci := 5) (v := .int ((e_br * (10 - k_d)) / 10)) (ty := .int) (C := RX5) (T := TX5) (N := 13) hx hb hts inG_X5 tyX5 tyX5_ok nmX5 hown hK hP hD hS 0 rfl rfl 6 (by decide +kernel) (hts _ fl_X5_46) (fun _ h9 => h9) rfl (by decide +kernel) rfl rfl (Nat.le_of_ble_eq_true rfl) dX5_meetGlass_260 ?_
  clear hP hD hS
  intro H locs hP hD hS
  refine g5_rs [(a_k, (oc5 a_h a_j a_pt e_ln e_se e_lh ((e_br * (10 - k_d)) / 10) e_we e_me e_ce e_wy e_ho e_ov)), (a_h, (oc1 e_wa e_le e_st e_fo e_lc a_l a_g a_b a_s a_p a_w e_gb a_bb)), (a_g, (oc6 6 5 a_gn e_g)), (a_gn, (arI G 30 f_g)), (a_p, (oc6 8 5 a_pn e_p)), (a_pn, (arI G 40 f_p)), (a_j, (oc2 a_as a_sk)), (a_as, (arI G 8 f_as)), (a_sk, (arJ G 50 f_sk)), (a_l, (arW G 6 f_l)), (a_lo, (oc3 e_cl a_hd a_sr a_cd)), (a_sr, (arI G n_sr f_sr)), (a_cd, (arI G n_cd f_cd)), (a_hd, (arI G n_hd f_hd))] hP hD ?_
  clear hP hD
  intro hP hD
  refine lv_aload_n hx hb dX5_meetGlass_263 rfl (lv_at hl 0 rfl) ?_
  refine va_get (D := G.1) (ci := 5) (v := .int ((e_br * (10 - k_d)) / 10)) (C := RX5) (T := TX5) (N := 13) hx hb hts inG_X5 hown hK hP 0 rfl rfl 6 (by decide +kernel) (hts _ fl_X5_46) (fun _ h9 => h9) rfl dX5_meetGlass_264 ?_
  refine lv_aload_n hx hb dX5_meetGlass_267 rfl (lv_at hl 0 rfl) ?_
  refine va_get (D := G.1) (ci := 5) (v := .ref a_h) (C := RX5) (T := TX5) (N := 13) hx hb hts inG_X5 hown hK hP 0 rfl rfl 0 (by decide +kernel) (hts _ fl_X5_22) (fun _ h9 => h9) rfl dX5_meetGlass_268 ?_
  refine W.eq (g2 := F0 m 271 ls [.ref a_h, .int ((e_br * (10 - k_d)) / 10)]) rfl ?_
  refine va_get (D := G.1) (ci := 1) (v := .int e_le) (C := RX1) (T := TX1) (N := 13) hx hb hts inG_X1 hown hK hP 1 rfl rfl 1 (by decide +kernel) (hts _ fl_X5_138) (fun _ h9 => h9) rfl dX5_meetGlass_271 ?_
  refine lv_icmp_ge (tgt := 278) hx hb dX5_meetGlass_274 (by decide +kernel) (fun c_3 => ?_) (fun c_3 => ?_)
  ·
    have i_3 : ((e_br * (10 - k_d)) / 10).toInt ≥ e_le.toInt := g5_ge (a := ((e_br * (10 - k_d)) / 10).toInt) (b := e_le.toInt) rfl rfl c_3
    refine lv_aload_n hx hb dX5_meetGlass_278 rfl (lv_at hl 0 rfl) ?_
    refine lv_dup hx hb dX5_meetGlass_279 rfl ?_
    refine va_get (D := G.1) (ci := 5) (v := .int e_ho) (C := RX5) (T := TX5) (N := 13) hx hb hts inG_X5 hown hK hP 0 rfl rfl 11 (by decide +kernel) (hts _ fl_X5_33) (fun _ h9 => h9) rfl dX5_meetGlass_280 ?_
    refine lv_iload hx hb dX5_meetGlass_283 (lv_at hl 5 rfl) ?_
    refine W.eq (g2 := F0 m 285 ls [.int k_l, .int e_ho, .ref a_k]) rfl ?_
    refine lv_isub hx hb dX5_meetGlass_285 ?_
    have t_4 : (e_ho - k_l).toInt = e_ho.toInt - k_l.toInt := g5_isub (a := e_ho.toInt) (b := k_l.toInt) (by rfl) (by rfl) (by omega) (by omega)
    refine va_put (D := G.1) (ci := 5) (v := .int (e_ho - k_l)) (ty := .int) (C := RX5) (T := TX5) (N := 13) hx hb hts inG_X5 tyX5 tyX5_ok nmX5 hown hK hP hD hS 0 rfl rfl 11 (by decide +kernel) (hts _ fl_X5_33) (fun _ h9 => h9) rfl (by decide +kernel) rfl rfl (Nat.le_of_ble_eq_true rfl) dX5_meetGlass_286 ?_
    clear hP hD hS
    intro H locs hP hD hS
    refine g5_rs [(a_k, (oc5 a_h a_j a_pt e_ln e_se e_lh ((e_br * (10 - k_d)) / 10) e_we e_me e_ce e_wy (e_ho - k_l) e_ov)), (a_h, (oc1 e_wa e_le e_st e_fo e_lc a_l a_g a_b a_s a_p a_w e_gb a_bb)), (a_g, (oc6 6 5 a_gn e_g)), (a_gn, (arI G 30 f_g)), (a_p, (oc6 8 5 a_pn e_p)), (a_pn, (arI G 40 f_p)), (a_j, (oc2 a_as a_sk)), (a_as, (arI G 8 f_as)), (a_sk, (arJ G 50 f_sk)), (a_l, (arW G 6 f_l)), (a_lo, (oc3 e_cl a_hd a_sr a_cd)), (a_sr, (arI G n_sr f_sr)), (a_cd, (arI G n_cd f_cd)), (a_hd, (arI G n_hd f_hd))] hP hD ?_
    clear hP hD
    intro hP hD
    refine lv_aload_n hx hb dX5_meetGlass_289 rfl (lv_at hl 0 rfl) ?_
    refine lv_iload hx hb dX5_meetGlass_290 (lv_at hl 4 rfl) ?_
    refine lv_if_ne (tgt := 304) hx hb dX5_meetGlass_292 (by decide +kernel) (fun c_5 => ?_) (fun c_5 => ?_)
    ·
      have n_5 : gNe (k_s.toInt) (0) := g5_ne (a := k_s.toInt) (b := 0) rfl (by decide +kernel) c_5
      have i_5 : k_s.toInt ≥ 1 := by have z := g5_ne (a := k_s.toInt) (b := 0) (by rfl) (by decide +kernel) c_5; omega
      refine lv_iload hx hb dX5_meetGlass_304 (lv_at hl 4 rfl) ?_
      refine lv_iconst (v := 1) hx hb dX5_meetGlass_306 (by decide +kernel) ?_
      refine lv_icmp_ne (tgt := 319) hx hb dX5_meetGlass_307 (by decide +kernel) (fun c_6 => ?_) (fun c_6 => ?_)
      ·
        have n_6 : gNe (k_s.toInt) (1) := g5_ne (a := k_s.toInt) (b := 1) rfl (by decide +kernel) c_6
        have i_6 : k_s.toInt ≥ 2 := by have z := g5_ne (a := k_s.toInt) (b := 1) (by rfl) (by decide +kernel) c_6; omega
        refine lv_aload_n hx hb dX5_meetGlass_319 rfl (lv_at hl 0 rfl) ?_
        refine va_get (D := G.1) (ci := 5) (v := .int e_wy) (C := RX5) (T := TX5) (N := 13) hx hb hts inG_X5 hown hK hP 0 rfl rfl 10 (by decide +kernel) (hts _ fl_X5_30) (fun _ h9 => h9) rfl dX5_meetGlass_320 ?_
        refine lv_iconst (v := 2) hx hb dX5_meetGlass_323 (by decide +kernel) ?_
        refine lv_ixor hx hb dX5_meetGlass_324 ?_
        have hx_7 := (g_xor (w := e_wy) (by omega) (by omega)).2
        refine W.eq (g2 := F0 m 325 ls [.int (e_wy ^^^ 2), .ref a_k]) rfl ?_
        refine va_put (D := G.1) (ci := 5) (v := .int (e_wy ^^^ 2)) (ty := .int) (C := RX5) (T := TX5) (N := 13) hx hb hts inG_X5 tyX5 tyX5_ok nmX5 hown hK hP hD hS 0 rfl rfl 10 (by decide +kernel) (hts _ fl_X5_30) (fun _ h9 => h9) rfl (by decide +kernel) rfl rfl (Nat.le_of_ble_eq_true rfl) dX5_meetGlass_325 ?_
        clear hP hD hS
        intro H locs hP hD hS
        refine g5_rs [(a_k, (oc5 a_h a_j a_pt e_ln e_se e_lh ((e_br * (10 - k_d)) / 10) e_we e_me e_ce (e_wy ^^^ 2) (e_ho - k_l) e_ov)), (a_h, (oc1 e_wa e_le e_st e_fo e_lc a_l a_g a_b a_s a_p a_w e_gb a_bb)), (a_g, (oc6 6 5 a_gn e_g)), (a_gn, (arI G 30 f_g)), (a_p, (oc6 8 5 a_pn e_p)), (a_pn, (arI G 40 f_p)), (a_j, (oc2 a_as a_sk)), (a_as, (arI G 8 f_as)), (a_sk, (arJ G 50 f_sk)), (a_l, (arW G 6 f_l)), (a_lo, (oc3 e_cl a_hd a_sr a_cd)), (a_sr, (arI G n_sr f_sr)), (a_cd, (arI G n_cd f_cd)), (a_hd, (arI G n_hd f_hd))] hP hD ?_
        clear hP hD
        intro hP hD
        refine lv_aload_n hx hb dX5_meetGlass_328 rfl (lv_at hl 0 rfl) ?_
        refine lv_dup hx hb dX5_meetGlass_329 rfl ?_
        refine va_get (D := G.1) (ci := 5) (v := .int e_we) (C := RX5) (T := TX5) (N := 13) hx hb hts inG_X5 hown hK hP 0 rfl rfl 7 (by decide +kernel) (hts _ fl_X5_49) (fun _ h9 => h9) rfl dX5_meetGlass_330 ?_
        refine lv_iconst (v := 1) hx hb dX5_meetGlass_333 (by decide +kernel) ?_
        refine W.eq (g2 := F0 m 334 ls [.int 1, .int e_we, .ref a_k]) rfl ?_
        refine lv_iload hx hb dX5_meetGlass_334 (lv_at hl 3 rfl) ?_
        refine lv_ishl hx hb dX5_meetGlass_336 ?_
        refine lv_ior hx hb dX5_meetGlass_337 ?_
        refine va_put (D := G.1) (ci := 5) (v := .int (e_we ||| (1 <<< (k_n &&& 31)))) (ty := .int) (C := RX5) (T := TX5) (N := 13) hx hb hts inG_X5 tyX5 tyX5_ok nmX5 hown hK hP hD hS 0 rfl rfl 7 (by decide +kernel) (hts _ fl_X5_49) (fun _ h9 => h9) rfl (by decide +kernel) rfl rfl (Nat.le_of_ble_eq_true rfl) dX5_meetGlass_338 ?_
        clear hP hD hS
        intro H locs hP hD hS
        refine g5_rs [(a_k, (oc5 a_h a_j a_pt e_ln e_se e_lh ((e_br * (10 - k_d)) / 10) (e_we ||| (1 <<< (k_n &&& 31))) e_me e_ce (e_wy ^^^ 2) (e_ho - k_l) e_ov)), (a_h, (oc1 e_wa e_le e_st e_fo e_lc a_l a_g a_b a_s a_p a_w e_gb a_bb)), (a_g, (oc6 6 5 a_gn e_g)), (a_gn, (arI G 30 f_g)), (a_p, (oc6 8 5 a_pn e_p)), (a_pn, (arI G 40 f_p)), (a_j, (oc2 a_as a_sk)), (a_as, (arI G 8 f_as)), (a_sk, (arJ G 50 f_sk)), (a_l, (arW G 6 f_l)), (a_lo, (oc3 e_cl a_hd a_sr a_cd)), (a_sr, (arI G n_sr f_sr)), (a_cd, (arI G n_cd f_cd)), (a_hd, (arI G n_hd f_hd))] hP hD ?_
        clear hP hD
        intro hP hD
        refine lv_aload_n hx hb dX5_meetGlass_341 rfl (lv_at hl 0 rfl) ?_
        refine W.eq (g2 := F0 m 342 ls [.ref a_k]) rfl ?_
        refine lv_iconst (v := 0) hx hb dX5_meetGlass_342 (by decide +kernel) ?_
        refine va_put (D := G.1) (ci := 5) (v := .int 0) (ty := .boolean) (C := RX5) (T := TX5) (N := 13) hx hb hts inG_X5 tyX5 tyX5_ok nmX5 hown hK hP hD hS 0 rfl rfl 12 (by decide +kernel) (hts _ fl_X5_56) (fun _ h9 => h9) rfl (by decide +kernel) rfl rfl (Nat.le_of_ble_eq_true rfl) dX5_meetGlass_343 ?_
        clear hP hD hS
        intro H locs hP hD hS
        refine g5_rs [(a_k, (oc5 a_h a_j a_pt e_ln e_se e_lh ((e_br * (10 - k_d)) / 10) (e_we ||| (1 <<< (k_n &&& 31))) e_me e_ce (e_wy ^^^ 2) (e_ho - k_l) 0)), (a_h, (oc1 e_wa e_le e_st e_fo e_lc a_l a_g a_b a_s a_p a_w e_gb a_bb)), (a_g, (oc6 6 5 a_gn e_g)), (a_gn, (arI G 30 f_g)), (a_p, (oc6 8 5 a_pn e_p)), (a_pn, (arI G 40 f_p)), (a_j, (oc2 a_as a_sk)), (a_as, (arI G 8 f_as)), (a_sk, (arJ G 50 f_sk)), (a_l, (arW G 6 f_l)), (a_lo, (oc3 e_cl a_hd a_sr a_cd)), (a_sr, (arI G n_sr f_sr)), (a_cd, (arI G n_cd f_cd)), (a_hd, (arI G n_hd f_hd))] hP hD ?_
        clear hP hD
        intro hP hD
        exact kk 346 dX5_meetGlass_346 ((e_br * (10 - k_d)) / 10) (e_we ||| (1 <<< (k_n &&& 31))) e_me (e_wy ^^^ 2) (e_ho - k_l) 0 f_as f_sk ls H locs (hP.sub [0, 1, 2, 3, 4, 5, 6, 7, 8, 9, 10, 11, 12, 13] rfl) (hD.sub [0, 1, 2, 3, 4, 5, 6, 7, 8, 9, 10, 11, 12, 13] (by decide +kernel) rfl) hS (⟨by omega, by omega⟩) (⟨by omega, by omega⟩) (⟨by omega, by omega⟩) (⟨by have zc_o_v : (0 : Int32).toInt = 0 := (by decide +kernel); omega, by have zc_o_v : (0 : Int32).toInt = 0 := (by decide +kernel); omega⟩)
      ·
        have i_6 : k_s.toInt = 1 := g5_neN (a := k_s.toInt) (b := 1) rfl (by decide +kernel) c_6
        refine lv_iconst (v := 3) hx hb dX5_meetGlass_310 (by decide +kernel) ?_
        refine lv_aload_n hx hb dX5_meetGlass_311 rfl (lv_at hl 0 rfl) ?_
        refine va_get (D := G.1) (ci := 5) (v := .int e_wy) (C := RX5) (T := TX5) (N := 13) hx hb hts inG_X5 hown hK hP 0 rfl rfl 10 (by decide +kernel) (hts _ fl_X5_30) (fun _ h9 => h9) rfl dX5_meetGlass_312 ?_
        refine lv_isub hx hb dX5_meetGlass_315 ?_
        have t_8 : (3 - e_wy).toInt = 3 - e_wy.toInt := g5_isub (a := 3) (b := e_wy.toInt) (by decide +kernel) (by rfl) (by omega) (by omega)
        refine W.eq (g2 := F0 m 316 ls [.int (3 - e_wy), .ref a_k]) rfl ?_
        refine lv_goto (tgt := 325) hx hb dX5_meetGlass_316 (by decide +kernel) ?_
        refine va_put (D := G.1) (ci := 5) (v := .int (3 - e_wy)) (ty := .int) (C := RX5) (T := TX5) (N := 13) hx hb hts inG_X5 tyX5 tyX5_ok nmX5 hown hK hP hD hS 0 rfl rfl 10 (by decide +kernel) (hts _ fl_X5_30) (fun _ h9 => h9) rfl (by decide +kernel) rfl rfl (Nat.le_of_ble_eq_true rfl) dX5_meetGlass_325 ?_
        clear hP hD hS
        intro H locs hP hD hS
        refine g5_rs [(a_k, (oc5 a_h a_j a_pt e_ln e_se e_lh ((e_br * (10 - k_d)) / 10) e_we e_me e_ce (3 - e_wy) (e_ho - k_l) e_ov)), (a_h, (oc1 e_wa e_le e_st e_fo e_lc a_l a_g a_b a_s a_p a_w e_gb a_bb)), (a_g, (oc6 6 5 a_gn e_g)), (a_gn, (arI G 30 f_g)), (a_p, (oc6 8 5 a_pn e_p)), (a_pn, (arI G 40 f_p)), (a_j, (oc2 a_as a_sk)), (a_as, (arI G 8 f_as)), (a_sk, (arJ G 50 f_sk)), (a_l, (arW G 6 f_l)), (a_lo, (oc3 e_cl a_hd a_sr a_cd)), (a_sr, (arI G n_sr f_sr)), (a_cd, (arI G n_cd f_cd)), (a_hd, (arI G n_hd f_hd))] hP hD ?_
        clear hP hD
        intro hP hD
        refine lv_aload_n hx hb dX5_meetGlass_328 rfl (lv_at hl 0 rfl) ?_
        refine lv_dup hx hb dX5_meetGlass_329 rfl ?_
        refine va_get (D := G.1) (ci := 5) (v := .int e_we) (C := RX5) (T := TX5) (N := 13) hx hb hts inG_X5 hown hK hP 0 rfl rfl 7 (by decide +kernel) (hts _ fl_X5_49) (fun _ h9 => h9) rfl dX5_meetGlass_330 ?_
        refine W.eq (g2 := F0 m 333 ls [.int e_we, .ref a_k]) rfl ?_
        refine lv_iconst (v := 1) hx hb dX5_meetGlass_333 (by decide +kernel) ?_
        refine lv_iload hx hb dX5_meetGlass_334 (lv_at hl 3 rfl) ?_
        refine lv_ishl hx hb dX5_meetGlass_336 ?_
        refine lv_ior hx hb dX5_meetGlass_337 ?_
        refine va_put (D := G.1) (ci := 5) (v := .int (e_we ||| (1 <<< (k_n &&& 31)))) (ty := .int) (C := RX5) (T := TX5) (N := 13) hx hb hts inG_X5 tyX5 tyX5_ok nmX5 hown hK hP hD hS 0 rfl rfl 7 (by decide +kernel) (hts _ fl_X5_49) (fun _ h9 => h9) rfl (by decide +kernel) rfl rfl (Nat.le_of_ble_eq_true rfl) dX5_meetGlass_338 ?_
        clear hP hD hS
        intro H locs hP hD hS
        refine g5_rs [(a_k, (oc5 a_h a_j a_pt e_ln e_se e_lh ((e_br * (10 - k_d)) / 10) (e_we ||| (1 <<< (k_n &&& 31))) e_me e_ce (3 - e_wy) (e_ho - k_l) e_ov)), (a_h, (oc1 e_wa e_le e_st e_fo e_lc a_l a_g a_b a_s a_p a_w e_gb a_bb)), (a_g, (oc6 6 5 a_gn e_g)), (a_gn, (arI G 30 f_g)), (a_p, (oc6 8 5 a_pn e_p)), (a_pn, (arI G 40 f_p)), (a_j, (oc2 a_as a_sk)), (a_as, (arI G 8 f_as)), (a_sk, (arJ G 50 f_sk)), (a_l, (arW G 6 f_l)), (a_lo, (oc3 e_cl a_hd a_sr a_cd)), (a_sr, (arI G n_sr f_sr)), (a_cd, (arI G n_cd f_cd)), (a_hd, (arI G n_hd f_hd))] hP hD ?_
        clear hP hD
        intro hP hD
        refine W.eq (g2 := F0 m 341 ls []) rfl ?_
        refine lv_aload_n hx hb dX5_meetGlass_341 rfl (lv_at hl 0 rfl) ?_
        refine lv_iconst (v := 0) hx hb dX5_meetGlass_342 (by decide +kernel) ?_
        refine va_put (D := G.1) (ci := 5) (v := .int 0) (ty := .boolean) (C := RX5) (T := TX5) (N := 13) hx hb hts inG_X5 tyX5 tyX5_ok nmX5 hown hK hP hD hS 0 rfl rfl 12 (by decide +kernel) (hts _ fl_X5_56) (fun _ h9 => h9) rfl (by decide +kernel) rfl rfl (Nat.le_of_ble_eq_true rfl) dX5_meetGlass_343 ?_
        clear hP hD hS
        intro H locs hP hD hS
        refine g5_rs [(a_k, (oc5 a_h a_j a_pt e_ln e_se e_lh ((e_br * (10 - k_d)) / 10) (e_we ||| (1 <<< (k_n &&& 31))) e_me e_ce (3 - e_wy) (e_ho - k_l) 0)), (a_h, (oc1 e_wa e_le e_st e_fo e_lc a_l a_g a_b a_s a_p a_w e_gb a_bb)), (a_g, (oc6 6 5 a_gn e_g)), (a_gn, (arI G 30 f_g)), (a_p, (oc6 8 5 a_pn e_p)), (a_pn, (arI G 40 f_p)), (a_j, (oc2 a_as a_sk)), (a_as, (arI G 8 f_as)), (a_sk, (arJ G 50 f_sk)), (a_l, (arW G 6 f_l)), (a_lo, (oc3 e_cl a_hd a_sr a_cd)), (a_sr, (arI G n_sr f_sr)), (a_cd, (arI G n_cd f_cd)), (a_hd, (arI G n_hd f_hd))] hP hD ?_
        clear hP hD
        intro hP hD
        exact kk 346 dX5_meetGlass_346 ((e_br * (10 - k_d)) / 10) (e_we ||| (1 <<< (k_n &&& 31))) e_me (3 - e_wy) (e_ho - k_l) 0 f_as f_sk ls H locs (hP.sub [0, 1, 2, 3, 4, 5, 6, 7, 8, 9, 10, 11, 12, 13] rfl) (hD.sub [0, 1, 2, 3, 4, 5, 6, 7, 8, 9, 10, 11, 12, 13] (by decide +kernel) rfl) hS (⟨by omega, by omega⟩) (⟨by omega, by omega⟩) (⟨by omega, by omega⟩) (⟨by have zc_o_v : (0 : Int32).toInt = 0 := (by decide +kernel); omega, by have zc_o_v : (0 : Int32).toInt = 0 := (by decide +kernel); omega⟩)
    ·
      have i_5 : k_s.toInt = 0 := g5_neN (a := k_s.toInt) (b := 0) rfl (by decide +kernel) c_5
      refine lv_aload_n hx hb dX5_meetGlass_295 rfl (lv_at hl 0 rfl) ?_
      refine va_get (D := G.1) (ci := 5) (v := .int e_wy) (C := RX5) (T := TX5) (N := 13) hx hb hts inG_X5 hown hK hP 0 rfl rfl 10 (by decide +kernel) (hts _ fl_X5_30) (fun _ h9 => h9) rfl dX5_meetGlass_296 ?_
      refine lv_iconst (v := 1) hx hb dX5_meetGlass_299 (by decide +kernel) ?_
      refine lv_ixor hx hb dX5_meetGlass_300 ?_
      have hx_9 := (g_xor (w := e_wy) (by omega) (by omega)).1
      refine W.eq (g2 := F0 m 301 ls [.int (e_wy ^^^ 1), .ref a_k]) rfl ?_
      refine lv_goto (tgt := 325) hx hb dX5_meetGlass_301 (by decide +kernel) ?_
      refine va_put (D := G.1) (ci := 5) (v := .int (e_wy ^^^ 1)) (ty := .int) (C := RX5) (T := TX5) (N := 13) hx hb hts inG_X5 tyX5 tyX5_ok nmX5 hown hK hP hD hS 0 rfl rfl 10 (by decide +kernel) (hts _ fl_X5_30) (fun _ h9 => h9) rfl (by decide +kernel) rfl rfl (Nat.le_of_ble_eq_true rfl) dX5_meetGlass_325 ?_
      clear hP hD hS
      intro H locs hP hD hS
      refine g5_rs [(a_k, (oc5 a_h a_j a_pt e_ln e_se e_lh ((e_br * (10 - k_d)) / 10) e_we e_me e_ce (e_wy ^^^ 1) (e_ho - k_l) e_ov)), (a_h, (oc1 e_wa e_le e_st e_fo e_lc a_l a_g a_b a_s a_p a_w e_gb a_bb)), (a_g, (oc6 6 5 a_gn e_g)), (a_gn, (arI G 30 f_g)), (a_p, (oc6 8 5 a_pn e_p)), (a_pn, (arI G 40 f_p)), (a_j, (oc2 a_as a_sk)), (a_as, (arI G 8 f_as)), (a_sk, (arJ G 50 f_sk)), (a_l, (arW G 6 f_l)), (a_lo, (oc3 e_cl a_hd a_sr a_cd)), (a_sr, (arI G n_sr f_sr)), (a_cd, (arI G n_cd f_cd)), (a_hd, (arI G n_hd f_hd))] hP hD ?_
      clear hP hD
      intro hP hD
      refine lv_aload_n hx hb dX5_meetGlass_328 rfl (lv_at hl 0 rfl) ?_
      refine lv_dup hx hb dX5_meetGlass_329 rfl ?_
      refine va_get (D := G.1) (ci := 5) (v := .int e_we) (C := RX5) (T := TX5) (N := 13) hx hb hts inG_X5 hown hK hP 0 rfl rfl 7 (by decide +kernel) (hts _ fl_X5_49) (fun _ h9 => h9) rfl dX5_meetGlass_330 ?_
      refine W.eq (g2 := F0 m 333 ls [.int e_we, .ref a_k]) rfl ?_
      refine lv_iconst (v := 1) hx hb dX5_meetGlass_333 (by decide +kernel) ?_
      refine lv_iload hx hb dX5_meetGlass_334 (lv_at hl 3 rfl) ?_
      refine lv_ishl hx hb dX5_meetGlass_336 ?_
      refine lv_ior hx hb dX5_meetGlass_337 ?_
      refine va_put (D := G.1) (ci := 5) (v := .int (e_we ||| (1 <<< (k_n &&& 31)))) (ty := .int) (C := RX5) (T := TX5) (N := 13) hx hb hts inG_X5 tyX5 tyX5_ok nmX5 hown hK hP hD hS 0 rfl rfl 7 (by decide +kernel) (hts _ fl_X5_49) (fun _ h9 => h9) rfl (by decide +kernel) rfl rfl (Nat.le_of_ble_eq_true rfl) dX5_meetGlass_338 ?_
      clear hP hD hS
      intro H locs hP hD hS
      refine g5_rs [(a_k, (oc5 a_h a_j a_pt e_ln e_se e_lh ((e_br * (10 - k_d)) / 10) (e_we ||| (1 <<< (k_n &&& 31))) e_me e_ce (e_wy ^^^ 1) (e_ho - k_l) e_ov)), (a_h, (oc1 e_wa e_le e_st e_fo e_lc a_l a_g a_b a_s a_p a_w e_gb a_bb)), (a_g, (oc6 6 5 a_gn e_g)), (a_gn, (arI G 30 f_g)), (a_p, (oc6 8 5 a_pn e_p)), (a_pn, (arI G 40 f_p)), (a_j, (oc2 a_as a_sk)), (a_as, (arI G 8 f_as)), (a_sk, (arJ G 50 f_sk)), (a_l, (arW G 6 f_l)), (a_lo, (oc3 e_cl a_hd a_sr a_cd)), (a_sr, (arI G n_sr f_sr)), (a_cd, (arI G n_cd f_cd)), (a_hd, (arI G n_hd f_hd))] hP hD ?_
      clear hP hD
      intro hP hD
      refine W.eq (g2 := F0 m 341 ls []) rfl ?_
      refine lv_aload_n hx hb dX5_meetGlass_341 rfl (lv_at hl 0 rfl) ?_
      refine lv_iconst (v := 0) hx hb dX5_meetGlass_342 (by decide +kernel) ?_
      refine va_put (D := G.1) (ci := 5) (v := .int 0) (ty := .boolean) (C := RX5) (T := TX5) (N := 13) hx hb hts inG_X5 tyX5 tyX5_ok nmX5 hown hK hP hD hS 0 rfl rfl 12 (by decide +kernel) (hts _ fl_X5_56) (fun _ h9 => h9) rfl (by decide +kernel) rfl rfl (Nat.le_of_ble_eq_true rfl) dX5_meetGlass_343 ?_
      clear hP hD hS
      intro H locs hP hD hS
      refine g5_rs [(a_k, (oc5 a_h a_j a_pt e_ln e_se e_lh ((e_br * (10 - k_d)) / 10) (e_we ||| (1 <<< (k_n &&& 31))) e_me e_ce (e_wy ^^^ 1) (e_ho - k_l) 0)), (a_h, (oc1 e_wa e_le e_st e_fo e_lc a_l a_g a_b a_s a_p a_w e_gb a_bb)), (a_g, (oc6 6 5 a_gn e_g)), (a_gn, (arI G 30 f_g)), (a_p, (oc6 8 5 a_pn e_p)), (a_pn, (arI G 40 f_p)), (a_j, (oc2 a_as a_sk)), (a_as, (arI G 8 f_as)), (a_sk, (arJ G 50 f_sk)), (a_l, (arW G 6 f_l)), (a_lo, (oc3 e_cl a_hd a_sr a_cd)), (a_sr, (arI G n_sr f_sr)), (a_cd, (arI G n_cd f_cd)), (a_hd, (arI G n_hd f_hd))] hP hD ?_
      clear hP hD
      intro hP hD
      exact kk 346 dX5_meetGlass_346 ((e_br * (10 - k_d)) / 10) (e_we ||| (1 <<< (k_n &&& 31))) e_me (e_wy ^^^ 1) (e_ho - k_l) 0 f_as f_sk ls H locs (hP.sub [0, 1, 2, 3, 4, 5, 6, 7, 8, 9, 10, 11, 12, 13] rfl) (hD.sub [0, 1, 2, 3, 4, 5, 6, 7, 8, 9, 10, 11, 12, 13] (by decide +kernel) rfl) hS (⟨by omega, by omega⟩) (⟨by omega, by omega⟩) (⟨by omega, by omega⟩) (⟨by have zc_o_v : (0 : Int32).toInt = 0 := (by decide +kernel); omega, by have zc_o_v : (0 : Int32).toInt = 0 := (by decide +kernel); omega⟩)
  ·
    have i_3 : ((e_br * (10 - k_d)) / 10).toInt < e_le.toInt := g5_geN (a := ((e_br * (10 - k_d)) / 10).toInt) (b := e_le.toInt) rfl rfl c_3
    exact kk 277 dX5_meetGlass_277 ((e_br * (10 - k_d)) / 10) e_we e_me e_wy e_ho e_ov f_as f_sk ls H locs (hP.sub [0, 1, 2, 3, 4, 5, 6, 7, 8, 9, 10, 11, 12, 13] rfl) (hD.sub [0, 1, 2, 3, 4, 5, 6, 7, 8, 9, 10, 11, 12, 13] (by decide +kernel) rfl) hS (⟨by omega, by omega⟩) (⟨by omega, by omega⟩) (⟨by omega, by omega⟩) (⟨by omega, by omega⟩)
set_option maxHeartbeats 4000000 in
set_option maxRecDepth 100000 in
theorem k_mgpL3 {p : Program} {l : Launch} {e : Env} {s : State} {m : MethodId} {args : Array Value} {below : List Frame} {meth : Method} {c : Code} {Q : State → Prop} {A : Nat → Prop} {H : Heap} {locs : List Loc} {ls : Array Slot} (G : g5_G) (a_k a_h a_g a_gn a_p a_pn a_j a_as a_sk a_l a_lo a_sr a_cd a_hd a_pt a_b a_s a_w a_bb n_sr n_cd n_hd : Nat) (e_ln : Int32) (e_se : Int32) (e_lh : Int32) (e_br : Int32) (e_we : Int32) (e_me : Int32) (e_ce : Int32) (e_wy : Int32) (e_ho : Int32) (e_ov : Int32) (e_le : Int32) (e_st : Int32) (e_fo : Int32) (e_lc : Int32) (e_wa : Int64) (e_gb : Int64) (e_g : Int32) (f_g : Nat → Int32) (e_p : Int32) (f_p : Nat → Int32) (f_as : Nat → Int32) (f_sk : Nat → Int64) (f_l : Nat → Option Nat) (e_cl : Int32) (f_sr : Nat → Int32) (f_cd : Nat → Int32) (f_hd : Nat → Int32) (k_r : Int32) (k_n : Int32) (k_s : Int32) (k_l : Int32) (hx : p.tables.exec = Jvm.exec) (hb : c.code = cX5_meetGlass) (hml : c.maxLocals = 9) (hown : s.vm.findClass RX5 = some m.cls) (hts : ∀ w ∈ tblG, w.before args s = true) (hK : va_K G.1 vwCl (T5 G) s) (hN : g5_N s) (hT : g5_S A s s.heap) (hA : ∀ q : Nat, s.heap.size ≤ q → A q) (hP : va_P G.1 vwCl [(a_k, (oc5 a_h a_j a_pt e_ln e_se e_lh e_br e_we e_me e_ce e_wy e_ho e_ov)), (a_h, (oc1 e_wa e_le e_st e_fo e_lc a_l a_g a_b a_s a_p a_w e_gb a_bb)), (a_g, (oc6 6 5 a_gn e_g)), (a_gn, (arI G 30 f_g)), (a_p, (oc6 8 5 a_pn e_p)), (a_pn, (arI G 40 f_p)), (a_j, (oc2 a_as a_sk)), (a_as, (arI G 8 f_as)), (a_sk, (arJ G 50 f_sk)), (a_l, (arW G 6 f_l)), (a_lo, (oc3 e_cl a_hd a_sr a_cd)), (a_sr, (arI G n_sr f_sr)), (a_cd, (arI G n_cd f_cd)), (a_hd, (arI G n_hd f_hd))] H) (hD : va_D A [(a_k, (oc5 a_h a_j a_pt e_ln e_se e_lh e_br e_we e_me e_ce e_wy e_ho e_ov)), (a_h, (oc1 e_wa e_le e_st e_fo e_lc a_l a_g a_b a_s a_p a_w e_gb a_bb)), (a_g, (oc6 6 5 a_gn e_g)), (a_gn, (arI G 30 f_g)), (a_p, (oc6 8 5 a_pn e_p)), (a_pn, (arI G 40 f_p)), (a_j, (oc2 a_as a_sk)), (a_as, (arI G 8 f_as)), (a_sk, (arJ G 50 f_sk)), (a_l, (arW G 6 f_l)), (a_lo, (oc3 e_cl a_hd a_sr a_cd)), (a_sr, (arI G n_sr f_sr)), (a_cd, (arI G n_cd f_cd)), (a_hd, (arI G n_hd f_hd))]) (hS : va_S A s.heap H locs) (hl : lv_has ls 9 [(0, .ref a_k), (2, .ref a_p), (3, .int k_r), (4, .int k_n), (5, .int k_s), (6, .ref a_lo), (7, .int k_l)]) (h_e_br : 0 ≤ e_br.toInt ∧ e_br.toInt ≤ 1000000) (h_e_ce : 0 ≤ e_ce.toInt ∧ e_ce.toInt ≤ 63) (h_e_wy : 0 ≤ e_wy.toInt ∧ e_wy.toInt ≤ 3) (h_e_ho : 0 ≤ e_ho.toInt ∧ e_ho.toInt ≤ 23) (h_e_ov : 0 ≤ e_ov.toInt ∧ e_ov.toInt ≤ 1) (h_e_g : 0 ≤ e_g.toInt ∧ e_g.toInt ≤ 6) (h_e_p : 0 ≤ e_p.toInt ∧ e_p.toInt ≤ 8) (h_e_cl : 0 ≤ e_cl.toInt ∧ e_cl.toInt ≤ 12) (h_k_r : 0 ≤ k_r.toInt ∧ k_r.toInt ≤ 7) (h_k_s : 0 ≤ k_s.toInt ∧ k_s.toInt ≤ 5) (h_k_l : 0 ≤ k_l.toInt ∧ k_l.toInt ≤ 23) (e_gk : gOK f_g e_g.toInt) (e_pk : gOK f_p e_p.toInt) (e_f : 0 ≤ e_fo.toInt ∧ e_fo.toInt < e_lc.toInt ∧ e_lc.toInt ≤ 6) (e_a : f_l e_fo.toNatClampNeg = some a_lo) (e_hn : n_cd ≤ 400) (e_hs : ∀ j : Nat, j < n_sr → 0 ≤ (f_sr j).toInt ∧ (f_sr j).toInt ≤ (n_cd : Int)) (e_hk : ∀ j : Nat, j < n_cd → (f_cd j >>> (12 &&& 31)).toInt = 1 → (f_cd j &&& 4095).toInt < 8) (e_c : (e_cl.toInt : Int) ≤ (n_hd : Int) ∧ (e_cl.toInt + 1 : Int) ≤ (n_sr : Int)) (e_r : k_r.toInt < e_p.toInt) (kk : ∀ (pc1 : Nat), decode cX5_meetGlass pc1 = .ok (.return_, 1) → ∀ (o_b : Int32) (o_w : Int32) (o_m : Int32) (o_y : Int32) (o_h : Int32) (o_v : Int32) (o_a : Nat → Int32) (o_k : Nat → Int64) (ls : Array Slot) (H : Heap) (locs : List Loc), va_P G.1 vwCl [(a_k, (oc5 a_h a_j a_pt e_ln e_se e_lh o_b o_w o_m e_ce o_y o_h o_v)), (a_h, (oc1 e_wa e_le e_st e_fo e_lc a_l a_g a_b a_s a_p a_w e_gb a_bb)), (a_g, (oc6 6 5 a_gn e_g)), (a_gn, (arI G 30 f_g)), (a_p, (oc6 8 5 a_pn e_p)), (a_pn, (arI G 40 f_p)), (a_j, (oc2 a_as a_sk)), (a_as, (arI G 8 o_a)), (a_sk, (arJ G 50 o_k)), (a_l, (arW G 6 f_l)), (a_lo, (oc3 e_cl a_hd a_sr a_cd)), (a_sr, (arI G n_sr f_sr)), (a_cd, (arI G n_cd f_cd)), (a_hd, (arI G n_hd f_hd))] H → va_D A [(a_k, (oc5 a_h a_j a_pt e_ln e_se e_lh o_b o_w o_m e_ce o_y o_h o_v)), (a_h, (oc1 e_wa e_le e_st e_fo e_lc a_l a_g a_b a_s a_p a_w e_gb a_bb)), (a_g, (oc6 6 5 a_gn e_g)), (a_gn, (arI G 30 f_g)), (a_p, (oc6 8 5 a_pn e_p)), (a_pn, (arI G 40 f_p)), (a_j, (oc2 a_as a_sk)), (a_as, (arI G 8 o_a)), (a_sk, (arJ G 50 o_k)), (a_l, (arW G 6 f_l)), (a_lo, (oc3 e_cl a_hd a_sr a_cd)), (a_sr, (arI G n_sr f_sr)), (a_cd, (arI G n_cd f_cd)), (a_hd, (arI G n_hd f_hd))] → va_S A s.heap H locs → (0 ≤ o_b.toInt ∧ o_b.toInt ≤ 1000000) → (0 ≤ o_y.toInt ∧ o_y.toInt ≤ 3) → (0 ≤ o_h.toInt ∧ o_h.toInt ≤ 23) → (0 ≤ o_v.toInt ∧ o_v.toInt ≤ 1) → W p l e ({ frames := 12, cells := 0, slots := 0, locals := 500 } : Room) s m args below meth c H locs 0 0 Q (F0 m pc1 ls [])) : W p l e ({ frames := 12, cells := 0, slots := 0, locals := 500 } : Room) s m args below meth c H locs 0 0 Q (F0 m 203 ls []) := by
  refine lv_iload hx hb dX5_meetGlass_203 (lv_at hl 6 rfl) ?_
  refine lv_aload_n hx hb dX5_meetGlass_205 rfl (lv_at hl 0 rfl) ?_
  refine va_get (D := G.1) (ci := 5) (v := .int e_ho) (C := RX5) (T := TX5) (N := 13) hx hb hts inG_X5 hown hK hP 0 rfl rfl 11 (by decide +kernel) (hts _ fl_X5_33) (fun _ h9 => h9) rfl dX5_meetGlass_206 ?_
  refine lv_icmp_le (tgt := 213) hx hb dX5_meetGlass_209 (by decide +kernel) (fun c_1 => ?_) (fun c_1 => ?_)
  ·
    have i_1 : k_l.toInt ≤ e_ho.toInt := g5_le (a := k_l.toInt) (b := e_ho.toInt) rfl rfl c_1
    refine lv_aload_n hx hb dX5_meetGlass_213 rfl (lv_at hl 0 rfl) ?_
    refine va_get (D := G.1) (ci := 5) (v := .ref a_j) (C := RX5) (T := TX5) (N := 13) hx hb hts inG_X5 hown hK hP 0 rfl rfl 1 (by decide +kernel) (hts _ fl_X5_12) (fun _ h9 => h9) rfl dX5_meetGlass_214 ?_
    refine lv_aload hx hb dX5_meetGlass_217 (lv_at hl 5 rfl) ?_
    refine lv_iconst (v := 1) hx hb dX5_meetGlass_219 (by decide +kernel) ?_
    refine W.eq (g2 := F0 m 220 ls [.int 1, .ref a_lo, .ref a_j]) rfl ?_
    obtain ⟨hPc, hDc, hFc⟩ := g5_sub3 (wc := [(a_j, (oc2 a_as a_sk)), (a_as, (arI G 8 f_as)), (a_sk, (arJ G 50 f_sk)), (a_lo, (oc3 e_cl a_hd a_sr a_cd)), (a_sr, (arI G n_sr f_sr)), (a_cd, (arI G n_cd f_cd)), (a_hd, (arI G n_hd f_hd))]) hP hD hS hA [6, 7, 8, 10, 11, 12, 13] (by decide +kernel) rfl
    refine va_calli (va_runV (As := [.ref a_lo, .int 1]) (rest := []) ⟨hx, hb, hml, hown, hts⟩ (j_isHeld l G a_j a_as a_sk a_lo a_sr a_cd a_hd H.size 1 e_cl f_as f_sk f_sr f_cd f_hd n_sr n_cd n_hd ⟨by omega, by omega⟩ (e_hn) (e_hs) (e_hk) (e_c)) (cwV 2 hts gV_X5_124 rfl rfl rfl hv_X2_isHeld ⟨Nat.le_of_ble_eq_true rfl, Nat.le_of_ble_eq_true rfl⟩) (g5_preV hPc hK hDc hN hT hS hFc (ci := 2) (q0 := 0) rfl rfl) rfl rfl hl.1 rfl (lv_room (Nat.le_of_ble_eq_true rfl)) dX5_meetGlass_220 ⟨Nat.le_of_ble_eq_true rfl, Nat.le_of_ble_eq_true rfl⟩) hS (fun q _ h => hFc q h) hFc (fun r u t H locs ht hvm hw hB hz1 hk1 hS => ?_)
    obtain ⟨hP1, hD1⟩ := hB
    have hP1 := g5_ht ht hP1
    obtain ⟨z3, z4, (i_2 : 0 ≤ z3.toInt ∧ z3.toInt ≤ 1), y5, rfl⟩ := hw
    have hJ9 := va_join (wr := [(a_k, (oc5 a_h a_j a_pt e_ln e_se e_lh e_br e_we e_me e_ce e_wy e_ho e_ov)), (a_h, (oc1 e_wa e_le e_st e_fo e_lc a_l a_g a_b a_s a_p a_w e_gb a_bb)), (a_g, (oc6 6 5 a_gn e_g)), (a_gn, (arI G 30 f_g)), (a_p, (oc6 8 5 a_pn e_p)), (a_pn, (arI G 40 f_p)), (a_l, (arW G 6 f_l))]) hP hD [6, 7, 8, 10, 11, 12, 13] [0, 1, 2, 3, 4, 5, 9] rfl rfl (by decide +kernel) (by decide +kernel) hk1 hFc hP1 hD1
    clear hP hD hPc hDc hFc ht hvm hz1 hk1 hP1 hD1
    obtain ⟨hP, hD⟩ := hJ9
    refine g5_rs [(a_k, (oc5 a_h a_j a_pt e_ln e_se e_lh e_br e_we e_me e_ce e_wy e_ho e_ov)), (a_h, (oc1 e_wa e_le e_st e_fo e_lc a_l a_g a_b a_s a_p a_w e_gb a_bb)), (a_g, (oc6 6 5 a_gn e_g)), (a_gn, (arI G 30 f_g)), (a_p, (oc6 8 5 a_pn e_p)), (a_pn, (arI G 40 f_p)), (a_l, (arW G 6 f_l)), (a_j, (oc2 a_as a_sk)), (a_as, (arI G 8 f_as)), (a_sk, (arJ G 50 z4)), (a_lo, (oc3 e_cl a_hd a_sr a_cd)), (a_sr, (arI G n_sr f_sr)), (a_cd, (arI G n_cd f_cd)), (a_hd, (arI G n_hd f_hd))] hP hD ?_
    clear hP hD
    intro hP hD
    refine g5_ti (v := z3) y5 ?_
    refine lv_if_eq (tgt := 238) hx hb dX5_meetGlass_223 (by decide +kernel) (fun c_6 => ?_) (fun c_6 => ?_)
    ·
      have i_6 : z3.toInt = 0 := g5_eq (a := z3.toInt) (b := 0) rfl (by decide +kernel) c_6
      refine lv_aload_n hx hb dX5_meetGlass_238 rfl (lv_at hl 1 rfl) ?_
      refine lv_iload_n hx hb dX5_meetGlass_239 rfl (lv_at hl 2 rfl) ?_
      refine lv_iconst (v := 3) hx hb dX5_meetGlass_240 (by decide +kernel) ?_
      obtain ⟨hPc, hDc, hFc⟩ := g5_sub3 (wc := [(a_p, (oc6 8 5 a_pn e_p)), (a_pn, (arI G 40 f_p))]) hP hD hS hA [4, 5] (by decide +kernel) rfl
      refine va_calli (va_runV (As := [.int k_r, .int 3]) (rest := []) ⟨hx, hb, hml, hown, hts⟩ (t_get_P l G a_p a_pn H.size e_p k_r 3 f_p ⟨by omega, by omega⟩) (cwV 2 hts gV_X5_107 rfl rfl rfl hv_X6_get ⟨Nat.le_of_ble_eq_true rfl, Nat.le_of_ble_eq_true rfl⟩) (g5_preV hPc hK hDc hN hT hS hFc (ci := 6) (q0 := 0) rfl rfl) rfl rfl hl.1 rfl (lv_room (Nat.le_of_ble_eq_true rfl)) dX5_meetGlass_241 ⟨Nat.le_of_ble_eq_true rfl, Nat.le_of_ble_eq_true rfl⟩) hS (fun q _ h => hFc q h) hFc (fun r u t H locs ht hvm hw hB hz1 hk1 hS => ?_)
      obtain ⟨hP1, hD1⟩ := hB
      have hP1 := g5_ht ht hP1
      obtain ⟨z8, (i_7 : z8 = tget f_p e_p.toInt 5 k_r.toInt (3 : Int32).toInt), y9, rfl⟩ := hw
      have hJ9 := va_join (wr := [(a_k, (oc5 a_h a_j a_pt e_ln e_se e_lh e_br e_we e_me e_ce e_wy e_ho e_ov)), (a_h, (oc1 e_wa e_le e_st e_fo e_lc a_l a_g a_b a_s a_p a_w e_gb a_bb)), (a_g, (oc6 6 5 a_gn e_g)), (a_gn, (arI G 30 f_g)), (a_l, (arW G 6 f_l)), (a_j, (oc2 a_as a_sk)), (a_as, (arI G 8 f_as)), (a_sk, (arJ G 50 z4)), (a_lo, (oc3 e_cl a_hd a_sr a_cd)), (a_sr, (arI G n_sr f_sr)), (a_cd, (arI G n_cd f_cd)), (a_hd, (arI G n_hd f_hd))]) hP hD [4, 5] [0, 1, 2, 3, 6, 7, 8, 9, 10, 11, 12, 13] rfl rfl (by decide +kernel) (by decide +kernel) hk1 hFc hP1 hD1
      clear hP hD hPc hDc hFc ht hvm hz1 hk1 hP1 hD1
      obtain ⟨hP, hD⟩ := hJ9
      refine g5_rs [(a_k, (oc5 a_h a_j a_pt e_ln e_se e_lh e_br e_we e_me e_ce e_wy e_ho e_ov)), (a_h, (oc1 e_wa e_le e_st e_fo e_lc a_l a_g a_b a_s a_p a_w e_gb a_bb)), (a_g, (oc6 6 5 a_gn e_g)), (a_gn, (arI G 30 f_g)), (a_l, (arW G 6 f_l)), (a_j, (oc2 a_as a_sk)), (a_as, (arI G 8 f_as)), (a_sk, (arJ G 50 z4)), (a_lo, (oc3 e_cl a_hd a_sr a_cd)), (a_sr, (arI G n_sr f_sr)), (a_cd, (arI G n_cd f_cd)), (a_hd, (arI G n_hd f_hd)), (a_p, (oc6 8 5 a_pn e_p)), (a_pn, (arI G 40 f_p))] hP hD ?_
      clear hP hD
      intro hP hD
      refine g5_ti (v := z8) y9 ?_
      have hg_10 : 0 ≤ z8.toInt ∧ z8.toInt ≤ 10 := by rw [i_7]; exact (e_pk k_r.toInt (by omega) (by omega)).2.2.2
      refine W.eq (g2 := F0 m 244 ls [.int z8]) rfl ?_
      refine lv_istore (lv' := [(8, .int z8), (0, .ref a_k), (2, .ref a_p), (3, .int k_r), (4, .int k_n), (5, .int k_s), (6, .ref a_lo), (7, .int k_l)]) hx hb dX5_meetGlass_244 hl (by decide +kernel) rfl ?_
      clear hl
      intro ls hl
      exact k_mgpL4 G a_k a_h a_g a_gn a_p a_pn a_j a_as a_sk a_l a_lo a_sr a_cd a_hd a_pt a_b a_s a_w a_bb n_sr n_cd n_hd e_ln e_se e_lh e_br e_we e_me e_ce e_wy e_ho e_ov e_le e_st e_fo e_lc e_wa e_gb e_g f_g e_p f_p f_as z4 f_l e_cl f_sr f_cd f_hd k_r k_n k_s k_l z8 hx hb hml hown hts hK hN hT hA (hP.sub [0, 1, 2, 3, 12, 13, 5, 6, 7, 4, 8, 9, 10, 11] rfl) (hD.sub [0, 1, 2, 3, 12, 13, 5, 6, 7, 4, 8, 9, 10, 11] (by decide +kernel) rfl) hS (lv_sub hl [1, 2, 3, 4, 5, 7, 0] rfl) ⟨by omega, by omega⟩ ⟨by omega, by omega⟩ ⟨by omega, by omega⟩ ⟨by omega, by omega⟩ ⟨by omega, by omega⟩ ⟨by omega, by omega⟩ ⟨by omega, by omega⟩ ⟨by omega, by omega⟩ ⟨by omega, by omega⟩ ⟨by omega, by omega⟩ ⟨by omega, by omega⟩ ⟨by omega, by omega⟩ (by omega) kk
    ·
      have n_6 : gNe (z3.toInt) (0) := g5_eqN (a := z3.toInt) (b := 0) rfl (by decide +kernel) c_6
      have i_6 : z3.toInt ≥ 1 := by have z := g5_eqN (a := z3.toInt) (b := 0) (by rfl) (by decide +kernel) c_6; omega
      refine lv_aload_n hx hb dX5_meetGlass_226 rfl (lv_at hl 0 rfl) ?_
      refine va_get (D := G.1) (ci := 5) (v := .ref a_j) (C := RX5) (T := TX5) (N := 13) hx hb hts inG_X5 hown hK hP 0 rfl rfl 1 (by decide +kernel) (hts _ fl_X5_12) (fun _ h9 => h9) rfl dX5_meetGlass_227 ?_
      refine lv_bipush (v := 10) hx hb dX5_meetGlass_230 (by decide +kernel) ?_
      obtain ⟨hPc, hDc, hFc⟩ := g5_sub3 (wc := [(a_j, (oc2 a_as a_sk)), (a_sk, (arJ G 50 z4))]) hP hD hS hA [7, 9] (by decide +kernel) rfl
      refine va_calli (va_runV (As := [.int 10]) (rest := []) ⟨hx, hb, hml, hown, hts⟩ (j_told l G a_j a_sk a_as H.size 10 z4 ⟨by decide, by decide⟩) (cwV 1 hts gV_X5_134 rfl rfl rfl hv_X2_toldUpTo ⟨Nat.le_of_ble_eq_true rfl, Nat.le_of_ble_eq_true rfl⟩) (g5_preV hPc hK hDc hN hT hS hFc (ci := 2) (q0 := 0) rfl rfl) rfl rfl hl.1 rfl (lv_room (Nat.le_of_ble_eq_true rfl)) dX5_meetGlass_232 ⟨Nat.le_of_ble_eq_true rfl, Nat.le_of_ble_eq_true rfl⟩) hS (fun q _ h => hFc q h) hFc (fun r u t H locs ht hvm hw hB hz1 hk1 hS => ?_)
      obtain ⟨hP1, hD1⟩ := hB
      have hP1 := g5_ht ht hP1
      obtain ⟨z12, (i_11 : 0 ≤ z12.toInt ∧ z12.toInt ≤ (10 : Int32).toInt), y13, rfl⟩ := hw
      have hJ9 := va_join (wr := [(a_k, (oc5 a_h a_j a_pt e_ln e_se e_lh e_br e_we e_me e_ce e_wy e_ho e_ov)), (a_h, (oc1 e_wa e_le e_st e_fo e_lc a_l a_g a_b a_s a_p a_w e_gb a_bb)), (a_g, (oc6 6 5 a_gn e_g)), (a_gn, (arI G 30 f_g)), (a_p, (oc6 8 5 a_pn e_p)), (a_pn, (arI G 40 f_p)), (a_l, (arW G 6 f_l)), (a_as, (arI G 8 f_as)), (a_lo, (oc3 e_cl a_hd a_sr a_cd)), (a_sr, (arI G n_sr f_sr)), (a_cd, (arI G n_cd f_cd)), (a_hd, (arI G n_hd f_hd))]) hP hD [7, 9] [0, 1, 2, 3, 4, 5, 6, 8, 10, 11, 12, 13] rfl rfl (by decide +kernel) (by decide +kernel) hk1 hFc hP1 hD1
      clear hP hD hPc hDc hFc ht hvm hz1 hk1 hP1 hD1
      obtain ⟨hP, hD⟩ := hJ9
      refine g5_rs [(a_k, (oc5 a_h a_j a_pt e_ln e_se e_lh e_br e_we e_me e_ce e_wy e_ho e_ov)), (a_h, (oc1 e_wa e_le e_st e_fo e_lc a_l a_g a_b a_s a_p a_w e_gb a_bb)), (a_g, (oc6 6 5 a_gn e_g)), (a_gn, (arI G 30 f_g)), (a_p, (oc6 8 5 a_pn e_p)), (a_pn, (arI G 40 f_p)), (a_l, (arW G 6 f_l)), (a_as, (arI G 8 f_as)), (a_lo, (oc3 e_cl a_hd a_sr a_cd)), (a_sr, (arI G n_sr f_sr)), (a_cd, (arI G n_cd f_cd)), (a_hd, (arI G n_hd f_hd)), (a_j, (oc2 a_as a_sk)), (a_sk, (arJ G 50 z4))] hP hD ?_
      clear hP hD
      intro hP hD
      refine g5_ti (v := z12) y13 ?_
      refine W.eq (g2 := F0 m 235 ls [.int z12]) rfl ?_
      refine lv_goto (tgt := 244) hx hb dX5_meetGlass_235 (by decide +kernel) ?_
      have zk_14 : (10 : Int32).toInt = 10 := (by decide +kernel)
      refine lv_istore (lv' := [(8, .int z12), (0, .ref a_k), (2, .ref a_p), (3, .int k_r), (4, .int k_n), (5, .int k_s), (6, .ref a_lo), (7, .int k_l)]) hx hb dX5_meetGlass_244 hl (by decide +kernel) rfl ?_
      clear hl
      intro ls hl
      exact k_mgpL4 G a_k a_h a_g a_gn a_p a_pn a_j a_as a_sk a_l a_lo a_sr a_cd a_hd a_pt a_b a_s a_w a_bb n_sr n_cd n_hd e_ln e_se e_lh e_br e_we e_me e_ce e_wy e_ho e_ov e_le e_st e_fo e_lc e_wa e_gb e_g f_g e_p f_p f_as z4 f_l e_cl f_sr f_cd f_hd k_r k_n k_s k_l z12 hx hb hml hown hts hK hN hT hA (hP.sub [0, 1, 2, 3, 4, 5, 12, 7, 13, 6, 8, 9, 10, 11] rfl) (hD.sub [0, 1, 2, 3, 4, 5, 12, 7, 13, 6, 8, 9, 10, 11] (by decide +kernel) rfl) hS (lv_sub hl [1, 2, 3, 4, 5, 7, 0] rfl) ⟨by omega, by omega⟩ ⟨by omega, by omega⟩ ⟨by omega, by omega⟩ ⟨by omega, by omega⟩ ⟨by omega, by omega⟩ ⟨by omega, by omega⟩ ⟨by omega, by omega⟩ ⟨by omega, by omega⟩ ⟨by omega, by omega⟩ ⟨by omega, by omega⟩ ⟨by omega, by omega⟩ ⟨by omega, by omega⟩ (by omega) kk
  ·
    have i_1 : k_l.toInt > e_ho.toInt := g5_leN (a := k_l.toInt) (b := e_ho.toInt) rfl rfl c_1
    exact kk 212 dX5_meetGlass_212 e_br e_we e_me e_wy e_ho e_ov f_as f_sk ls H locs (hP.sub [0, 1, 2, 3, 4, 5, 6, 7, 8, 9, 10, 11, 12, 13] rfl) (hD.sub [0, 1, 2, 3, 4, 5, 6, 7, 8, 9, 10, 11, 12, 13] (by decide +kernel) rfl) hS (⟨by omega, by omega⟩) (⟨by omega, by omega⟩) (⟨by omega, by omega⟩) (⟨by omega, by omega⟩)
set_option maxHeartbeats 4000000 in
set_option maxRecDepth 100000 in
theorem k_mgpL2 {p : Program} {l : Launch} {e : Env} {s : State} {m : MethodId} {args : Array Value} {below : List Frame} {meth : Method} {c : Code} {Q : State → Prop} {A : Nat → Prop} {H : Heap} {locs : List Loc} {ls : Array Slot} (G : g5_G) (a_k a_h a_g a_gn a_p a_pn a_j a_as a_sk a_l a_lo a_sr a_cd a_hd a_pt a_b a_s a_w a_bb n_sr n_cd n_hd : Nat) (e_ln : Int32) (e_se : Int32) (e_lh : Int32) (e_br : Int32) (e_we : Int32) (e_me : Int32) (e_ce : Int32) (e_wy : Int32) (e_ho : Int32) (e_ov : Int32) (e_le : Int32) (e_st : Int32) (e_fo : Int32) (e_lc : Int32) (e_wa : Int64) (e_gb : Int64) (e_g : Int32) (f_g : Nat → Int32) (e_p : Int32) (f_p : Nat → Int32) (f_as : Nat → Int32) (f_sk : Nat → Int64) (f_l : Nat → Option Nat) (e_cl : Int32) (f_sr : Nat → Int32) (f_cd : Nat → Int32) (f_hd : Nat → Int32) (k_r : Int32) (k_n : Int32) (k_s : Int32) (hx : p.tables.exec = Jvm.exec) (hb : c.code = cX5_meetGlass) (hml : c.maxLocals = 9) (hown : s.vm.findClass RX5 = some m.cls) (hts : ∀ w ∈ tblG, w.before args s = true) (hK : va_K G.1 vwCl (T5 G) s) (hN : g5_N s) (hT : g5_S A s s.heap) (hA : ∀ q : Nat, s.heap.size ≤ q → A q) (hP : va_P G.1 vwCl [(a_k, (oc5 a_h a_j a_pt e_ln e_se e_lh e_br e_we e_me e_ce e_wy e_ho e_ov)), (a_h, (oc1 e_wa e_le e_st e_fo e_lc a_l a_g a_b a_s a_p a_w e_gb a_bb)), (a_g, (oc6 6 5 a_gn e_g)), (a_gn, (arI G 30 f_g)), (a_p, (oc6 8 5 a_pn e_p)), (a_pn, (arI G 40 f_p)), (a_j, (oc2 a_as a_sk)), (a_as, (arI G 8 f_as)), (a_sk, (arJ G 50 f_sk)), (a_l, (arW G 6 f_l)), (a_lo, (oc3 e_cl a_hd a_sr a_cd)), (a_sr, (arI G n_sr f_sr)), (a_cd, (arI G n_cd f_cd)), (a_hd, (arI G n_hd f_hd))] H) (hD : va_D A [(a_k, (oc5 a_h a_j a_pt e_ln e_se e_lh e_br e_we e_me e_ce e_wy e_ho e_ov)), (a_h, (oc1 e_wa e_le e_st e_fo e_lc a_l a_g a_b a_s a_p a_w e_gb a_bb)), (a_g, (oc6 6 5 a_gn e_g)), (a_gn, (arI G 30 f_g)), (a_p, (oc6 8 5 a_pn e_p)), (a_pn, (arI G 40 f_p)), (a_j, (oc2 a_as a_sk)), (a_as, (arI G 8 f_as)), (a_sk, (arJ G 50 f_sk)), (a_l, (arW G 6 f_l)), (a_lo, (oc3 e_cl a_hd a_sr a_cd)), (a_sr, (arI G n_sr f_sr)), (a_cd, (arI G n_cd f_cd)), (a_hd, (arI G n_hd f_hd))]) (hS : va_S A s.heap H locs) (hl : lv_has ls 9 [(0, .ref a_k), (2, .ref a_p), (3, .int k_r), (4, .int k_n), (5, .int k_s), (6, .ref a_lo)]) (h_e_br : 0 ≤ e_br.toInt ∧ e_br.toInt ≤ 1000000) (h_e_ce : 0 ≤ e_ce.toInt ∧ e_ce.toInt ≤ 63) (h_e_wy : 0 ≤ e_wy.toInt ∧ e_wy.toInt ≤ 3) (h_e_ho : 0 ≤ e_ho.toInt ∧ e_ho.toInt ≤ 23) (h_e_ov : 0 ≤ e_ov.toInt ∧ e_ov.toInt ≤ 1) (h_e_g : 0 ≤ e_g.toInt ∧ e_g.toInt ≤ 6) (h_e_p : 0 ≤ e_p.toInt ∧ e_p.toInt ≤ 8) (h_e_cl : 0 ≤ e_cl.toInt ∧ e_cl.toInt ≤ 12) (h_k_r : 0 ≤ k_r.toInt ∧ k_r.toInt ≤ 7) (h_k_s : 0 ≤ k_s.toInt ∧ k_s.toInt ≤ 5) (e_gk : gOK f_g e_g.toInt) (e_pk : gOK f_p e_p.toInt) (e_f : 0 ≤ e_fo.toInt ∧ e_fo.toInt < e_lc.toInt ∧ e_lc.toInt ≤ 6) (e_a : f_l e_fo.toNatClampNeg = some a_lo) (e_hn : n_cd ≤ 400) (e_hs : ∀ j : Nat, j < n_sr → 0 ≤ (f_sr j).toInt ∧ (f_sr j).toInt ≤ (n_cd : Int)) (e_hk : ∀ j : Nat, j < n_cd → (f_cd j >>> (12 &&& 31)).toInt = 1 → (f_cd j &&& 4095).toInt < 8) (e_c : (e_cl.toInt : Int) ≤ (n_hd : Int) ∧ (e_cl.toInt + 1 : Int) ≤ (n_sr : Int)) (e_r : k_r.toInt < e_p.toInt) (kk : ∀ (pc1 : Nat), decode cX5_meetGlass pc1 = .ok (.return_, 1) → ∀ (o_b : Int32) (o_w : Int32) (o_m : Int32) (o_y : Int32) (o_h : Int32) (o_v : Int32) (o_a : Nat → Int32) (o_k : Nat → Int64) (ls : Array Slot) (H : Heap) (locs : List Loc), va_P G.1 vwCl [(a_k, (oc5 a_h a_j a_pt e_ln e_se e_lh o_b o_w o_m e_ce o_y o_h o_v)), (a_h, (oc1 e_wa e_le e_st e_fo e_lc a_l a_g a_b a_s a_p a_w e_gb a_bb)), (a_g, (oc6 6 5 a_gn e_g)), (a_gn, (arI G 30 f_g)), (a_p, (oc6 8 5 a_pn e_p)), (a_pn, (arI G 40 f_p)), (a_j, (oc2 a_as a_sk)), (a_as, (arI G 8 o_a)), (a_sk, (arJ G 50 o_k)), (a_l, (arW G 6 f_l)), (a_lo, (oc3 e_cl a_hd a_sr a_cd)), (a_sr, (arI G n_sr f_sr)), (a_cd, (arI G n_cd f_cd)), (a_hd, (arI G n_hd f_hd))] H → va_D A [(a_k, (oc5 a_h a_j a_pt e_ln e_se e_lh o_b o_w o_m e_ce o_y o_h o_v)), (a_h, (oc1 e_wa e_le e_st e_fo e_lc a_l a_g a_b a_s a_p a_w e_gb a_bb)), (a_g, (oc6 6 5 a_gn e_g)), (a_gn, (arI G 30 f_g)), (a_p, (oc6 8 5 a_pn e_p)), (a_pn, (arI G 40 f_p)), (a_j, (oc2 a_as a_sk)), (a_as, (arI G 8 o_a)), (a_sk, (arJ G 50 o_k)), (a_l, (arW G 6 f_l)), (a_lo, (oc3 e_cl a_hd a_sr a_cd)), (a_sr, (arI G n_sr f_sr)), (a_cd, (arI G n_cd f_cd)), (a_hd, (arI G n_hd f_hd))] → va_S A s.heap H locs → (0 ≤ o_b.toInt ∧ o_b.toInt ≤ 1000000) → (0 ≤ o_y.toInt ∧ o_y.toInt ≤ 3) → (0 ≤ o_h.toInt ∧ o_h.toInt ≤ 23) → (0 ≤ o_v.toInt ∧ o_v.toInt ≤ 1) → W p l e ({ frames := 12, cells := 0, slots := 0, locals := 500 } : Room) s m args below meth c H locs 0 0 Q (F0 m pc1 ls [])) : W p l e ({ frames := 12, cells := 0, slots := 0, locals := 500 } : Room) s m args below meth c H locs 0 0 Q (F0 m 170 ls []) := by
  refine lv_aload_n hx hb dX5_meetGlass_170 rfl (lv_at hl 0 rfl) ?_
  refine va_get (D := G.1) (ci := 5) (v := .ref a_j) (C := RX5) (T := TX5) (N := 13) hx hb hts inG_X5 hown hK hP 0 rfl rfl 1 (by decide +kernel) (hts _ fl_X5_12) (fun _ h9 => h9) rfl dX5_meetGlass_171 ?_
  refine lv_aload hx hb dX5_meetGlass_174 (lv_at hl 5 rfl) ?_
  refine lv_iconst (v := 0) hx hb dX5_meetGlass_176 (by decide +kernel) ?_
  refine W.eq (g2 := F0 m 177 ls [.int 0, .ref a_lo, .ref a_j]) rfl ?_
  obtain ⟨hPc, hDc, hFc⟩ := g5_sub3 (wc := [(a_j, (oc2 a_as a_sk)), (a_as, (arI G 8 f_as)), (a_sk, (arJ G 50 f_sk)), (a_lo, (oc3 e_cl a_hd a_sr a_cd)), (a_sr, (arI G n_sr f_sr)), (a_cd, (arI G n_cd f_cd)), (a_hd, (arI G n_hd f_hd))]) hP hD hS hA [6, 7, 8, 10, 11, 12, 13] (by decide +kernel) rfl
  refine va_calli (va_runV (As := [.ref a_lo, .int 0]) (rest := []) ⟨hx, hb, hml, hown, hts⟩ (j_isHeld l G a_j a_as a_sk a_lo a_sr a_cd a_hd H.size 0 e_cl f_as f_sk f_sr f_cd f_hd n_sr n_cd n_hd ⟨by omega, by omega⟩ (e_hn) (e_hs) (e_hk) (e_c)) (cwV 2 hts gV_X5_124 rfl rfl rfl hv_X2_isHeld ⟨Nat.le_of_ble_eq_true rfl, Nat.le_of_ble_eq_true rfl⟩) (g5_preV hPc hK hDc hN hT hS hFc (ci := 2) (q0 := 0) rfl rfl) rfl rfl hl.1 rfl (lv_room (Nat.le_of_ble_eq_true rfl)) dX5_meetGlass_177 ⟨Nat.le_of_ble_eq_true rfl, Nat.le_of_ble_eq_true rfl⟩) hS (fun q _ h => hFc q h) hFc (fun r u t H locs ht hvm hw hB hz1 hk1 hS => ?_)
  obtain ⟨hP1, hD1⟩ := hB
  have hP1 := g5_ht ht hP1
  obtain ⟨z2, z3, (i_1 : 0 ≤ z2.toInt ∧ z2.toInt ≤ 1), y4, rfl⟩ := hw
  have hJ9 := va_join (wr := [(a_k, (oc5 a_h a_j a_pt e_ln e_se e_lh e_br e_we e_me e_ce e_wy e_ho e_ov)), (a_h, (oc1 e_wa e_le e_st e_fo e_lc a_l a_g a_b a_s a_p a_w e_gb a_bb)), (a_g, (oc6 6 5 a_gn e_g)), (a_gn, (arI G 30 f_g)), (a_p, (oc6 8 5 a_pn e_p)), (a_pn, (arI G 40 f_p)), (a_l, (arW G 6 f_l))]) hP hD [6, 7, 8, 10, 11, 12, 13] [0, 1, 2, 3, 4, 5, 9] rfl rfl (by decide +kernel) (by decide +kernel) hk1 hFc hP1 hD1
  clear hP hD hPc hDc hFc ht hvm hz1 hk1 hP1 hD1
  obtain ⟨hP, hD⟩ := hJ9
  refine g5_rs [(a_k, (oc5 a_h a_j a_pt e_ln e_se e_lh e_br e_we e_me e_ce e_wy e_ho e_ov)), (a_h, (oc1 e_wa e_le e_st e_fo e_lc a_l a_g a_b a_s a_p a_w e_gb a_bb)), (a_g, (oc6 6 5 a_gn e_g)), (a_gn, (arI G 30 f_g)), (a_p, (oc6 8 5 a_pn e_p)), (a_pn, (arI G 40 f_p)), (a_l, (arW G 6 f_l)), (a_j, (oc2 a_as a_sk)), (a_as, (arI G 8 f_as)), (a_sk, (arJ G 50 z3)), (a_lo, (oc3 e_cl a_hd a_sr a_cd)), (a_sr, (arI G n_sr f_sr)), (a_cd, (arI G n_cd f_cd)), (a_hd, (arI G n_hd f_hd))] hP hD ?_
  clear hP hD
  intro hP hD
  refine g5_ti (v := z2) y4 ?_
  refine lv_if_eq (tgt := 195) hx hb dX5_meetGlass_180 (by decide +kernel) (fun c_5 => ?_) (fun c_5 => ?_)
  ·
    have i_5 : z2.toInt = 0 := g5_eq (a := z2.toInt) (b := 0) rfl (by decide +kernel) c_5
    refine lv_aload_n hx hb dX5_meetGlass_195 rfl (lv_at hl 1 rfl) ?_
    refine lv_iload_n hx hb dX5_meetGlass_196 rfl (lv_at hl 2 rfl) ?_
    refine lv_iconst (v := 2) hx hb dX5_meetGlass_197 (by decide +kernel) ?_
    obtain ⟨hPc, hDc, hFc⟩ := g5_sub3 (wc := [(a_p, (oc6 8 5 a_pn e_p)), (a_pn, (arI G 40 f_p))]) hP hD hS hA [4, 5] (by decide +kernel) rfl
    refine va_calli (va_runV (As := [.int k_r, .int 2]) (rest := []) ⟨hx, hb, hml, hown, hts⟩ (t_get_P l G a_p a_pn H.size e_p k_r 2 f_p ⟨by omega, by omega⟩) (cwV 2 hts gV_X5_107 rfl rfl rfl hv_X6_get ⟨Nat.le_of_ble_eq_true rfl, Nat.le_of_ble_eq_true rfl⟩) (g5_preV hPc hK hDc hN hT hS hFc (ci := 6) (q0 := 0) rfl rfl) rfl rfl hl.1 rfl (lv_room (Nat.le_of_ble_eq_true rfl)) dX5_meetGlass_198 ⟨Nat.le_of_ble_eq_true rfl, Nat.le_of_ble_eq_true rfl⟩) hS (fun q _ h => hFc q h) hFc (fun r u t H locs ht hvm hw hB hz1 hk1 hS => ?_)
    obtain ⟨hP1, hD1⟩ := hB
    have hP1 := g5_ht ht hP1
    obtain ⟨z7, (i_6 : z7 = tget f_p e_p.toInt 5 k_r.toInt (2 : Int32).toInt), y8, rfl⟩ := hw
    have hJ9 := va_join (wr := [(a_k, (oc5 a_h a_j a_pt e_ln e_se e_lh e_br e_we e_me e_ce e_wy e_ho e_ov)), (a_h, (oc1 e_wa e_le e_st e_fo e_lc a_l a_g a_b a_s a_p a_w e_gb a_bb)), (a_g, (oc6 6 5 a_gn e_g)), (a_gn, (arI G 30 f_g)), (a_l, (arW G 6 f_l)), (a_j, (oc2 a_as a_sk)), (a_as, (arI G 8 f_as)), (a_sk, (arJ G 50 z3)), (a_lo, (oc3 e_cl a_hd a_sr a_cd)), (a_sr, (arI G n_sr f_sr)), (a_cd, (arI G n_cd f_cd)), (a_hd, (arI G n_hd f_hd))]) hP hD [4, 5] [0, 1, 2, 3, 6, 7, 8, 9, 10, 11, 12, 13] rfl rfl (by decide +kernel) (by decide +kernel) hk1 hFc hP1 hD1
    clear hP hD hPc hDc hFc ht hvm hz1 hk1 hP1 hD1
    obtain ⟨hP, hD⟩ := hJ9
    refine g5_rs [(a_k, (oc5 a_h a_j a_pt e_ln e_se e_lh e_br e_we e_me e_ce e_wy e_ho e_ov)), (a_h, (oc1 e_wa e_le e_st e_fo e_lc a_l a_g a_b a_s a_p a_w e_gb a_bb)), (a_g, (oc6 6 5 a_gn e_g)), (a_gn, (arI G 30 f_g)), (a_l, (arW G 6 f_l)), (a_j, (oc2 a_as a_sk)), (a_as, (arI G 8 f_as)), (a_sk, (arJ G 50 z3)), (a_lo, (oc3 e_cl a_hd a_sr a_cd)), (a_sr, (arI G n_sr f_sr)), (a_cd, (arI G n_cd f_cd)), (a_hd, (arI G n_hd f_hd)), (a_p, (oc6 8 5 a_pn e_p)), (a_pn, (arI G 40 f_p))] hP hD ?_
    clear hP hD
    intro hP hD
    refine g5_ti (v := z7) y8 ?_
    have hg_9 : 0 ≤ z7.toInt ∧ z7.toInt ≤ 23 := by rw [i_6]; exact (e_pk k_r.toInt (by omega) (by omega)).2.2.1
    refine W.eq (g2 := F0 m 201 ls [.int z7]) rfl ?_
    refine lv_istore (lv' := [(7, .int z7), (0, .ref a_k), (2, .ref a_p), (3, .int k_r), (4, .int k_n), (5, .int k_s), (6, .ref a_lo)]) hx hb dX5_meetGlass_201 hl (by decide +kernel) rfl ?_
    clear hl
    intro ls hl
    exact k_mgpL3 G a_k a_h a_g a_gn a_p a_pn a_j a_as a_sk a_l a_lo a_sr a_cd a_hd a_pt a_b a_s a_w a_bb n_sr n_cd n_hd e_ln e_se e_lh e_br e_we e_me e_ce e_wy e_ho e_ov e_le e_st e_fo e_lc e_wa e_gb e_g f_g e_p f_p f_as z3 f_l e_cl f_sr f_cd f_hd k_r k_n k_s z7 hx hb hml hown hts hK hN hT hA (hP.sub [0, 1, 2, 3, 12, 13, 5, 6, 7, 4, 8, 9, 10, 11] rfl) (hD.sub [0, 1, 2, 3, 12, 13, 5, 6, 7, 4, 8, 9, 10, 11] (by decide +kernel) rfl) hS (lv_sub hl [1, 2, 3, 4, 5, 6, 0] rfl) ⟨by omega, by omega⟩ ⟨by omega, by omega⟩ ⟨by omega, by omega⟩ ⟨by omega, by omega⟩ ⟨by omega, by omega⟩ ⟨by omega, by omega⟩ ⟨by omega, by omega⟩ ⟨by omega, by omega⟩ ⟨by omega, by omega⟩ ⟨by omega, by omega⟩ ⟨by omega, by omega⟩ (e_gk) (e_pk) (e_f) (e_a) (e_hn) (e_hs) (e_hk) (e_c) (e_r) kk
  ·
    have n_5 : gNe (z2.toInt) (0) := g5_eqN (a := z2.toInt) (b := 0) rfl (by decide +kernel) c_5
    have i_5 : z2.toInt ≥ 1 := by have z := g5_eqN (a := z2.toInt) (b := 0) (by rfl) (by decide +kernel) c_5; omega
    refine lv_aload_n hx hb dX5_meetGlass_183 rfl (lv_at hl 0 rfl) ?_
    refine va_get (D := G.1) (ci := 5) (v := .ref a_j) (C := RX5) (T := TX5) (N := 13) hx hb hts inG_X5 hown hK hP 0 rfl rfl 1 (by decide +kernel) (hts _ fl_X5_12) (fun _ h9 => h9) rfl dX5_meetGlass_184 ?_
    refine lv_bipush (v := 23) hx hb dX5_meetGlass_187 (by decide +kernel) ?_
    obtain ⟨hPc, hDc, hFc⟩ := g5_sub3 (wc := [(a_j, (oc2 a_as a_sk)), (a_sk, (arJ G 50 z3))]) hP hD hS hA [7, 9] (by decide +kernel) rfl
    refine va_calli (va_runV (As := [.int 23]) (rest := []) ⟨hx, hb, hml, hown, hts⟩ (j_told l G a_j a_sk a_as H.size 23 z3 ⟨by decide, by decide⟩) (cwV 1 hts gV_X5_134 rfl rfl rfl hv_X2_toldUpTo ⟨Nat.le_of_ble_eq_true rfl, Nat.le_of_ble_eq_true rfl⟩) (g5_preV hPc hK hDc hN hT hS hFc (ci := 2) (q0 := 0) rfl rfl) rfl rfl hl.1 rfl (lv_room (Nat.le_of_ble_eq_true rfl)) dX5_meetGlass_189 ⟨Nat.le_of_ble_eq_true rfl, Nat.le_of_ble_eq_true rfl⟩) hS (fun q _ h => hFc q h) hFc (fun r u t H locs ht hvm hw hB hz1 hk1 hS => ?_)
    obtain ⟨hP1, hD1⟩ := hB
    have hP1 := g5_ht ht hP1
    obtain ⟨z11, (i_10 : 0 ≤ z11.toInt ∧ z11.toInt ≤ (23 : Int32).toInt), y12, rfl⟩ := hw
    have hJ9 := va_join (wr := [(a_k, (oc5 a_h a_j a_pt e_ln e_se e_lh e_br e_we e_me e_ce e_wy e_ho e_ov)), (a_h, (oc1 e_wa e_le e_st e_fo e_lc a_l a_g a_b a_s a_p a_w e_gb a_bb)), (a_g, (oc6 6 5 a_gn e_g)), (a_gn, (arI G 30 f_g)), (a_p, (oc6 8 5 a_pn e_p)), (a_pn, (arI G 40 f_p)), (a_l, (arW G 6 f_l)), (a_as, (arI G 8 f_as)), (a_lo, (oc3 e_cl a_hd a_sr a_cd)), (a_sr, (arI G n_sr f_sr)), (a_cd, (arI G n_cd f_cd)), (a_hd, (arI G n_hd f_hd))]) hP hD [7, 9] [0, 1, 2, 3, 4, 5, 6, 8, 10, 11, 12, 13] rfl rfl (by decide +kernel) (by decide +kernel) hk1 hFc hP1 hD1
    clear hP hD hPc hDc hFc ht hvm hz1 hk1 hP1 hD1
    obtain ⟨hP, hD⟩ := hJ9
    refine g5_rs [(a_k, (oc5 a_h a_j a_pt e_ln e_se e_lh e_br e_we e_me e_ce e_wy e_ho e_ov)), (a_h, (oc1 e_wa e_le e_st e_fo e_lc a_l a_g a_b a_s a_p a_w e_gb a_bb)), (a_g, (oc6 6 5 a_gn e_g)), (a_gn, (arI G 30 f_g)), (a_p, (oc6 8 5 a_pn e_p)), (a_pn, (arI G 40 f_p)), (a_l, (arW G 6 f_l)), (a_as, (arI G 8 f_as)), (a_lo, (oc3 e_cl a_hd a_sr a_cd)), (a_sr, (arI G n_sr f_sr)), (a_cd, (arI G n_cd f_cd)), (a_hd, (arI G n_hd f_hd)), (a_j, (oc2 a_as a_sk)), (a_sk, (arJ G 50 z3))] hP hD ?_
    clear hP hD
    intro hP hD
    refine g5_ti (v := z11) y12 ?_
    refine W.eq (g2 := F0 m 192 ls [.int z11]) rfl ?_
    refine lv_goto (tgt := 201) hx hb dX5_meetGlass_192 (by decide +kernel) ?_
    have zk_13 : (23 : Int32).toInt = 23 := (by decide +kernel)
    refine lv_istore (lv' := [(7, .int z11), (0, .ref a_k), (2, .ref a_p), (3, .int k_r), (4, .int k_n), (5, .int k_s), (6, .ref a_lo)]) hx hb dX5_meetGlass_201 hl (by decide +kernel) rfl ?_
    clear hl
    intro ls hl
    exact k_mgpL3 G a_k a_h a_g a_gn a_p a_pn a_j a_as a_sk a_l a_lo a_sr a_cd a_hd a_pt a_b a_s a_w a_bb n_sr n_cd n_hd e_ln e_se e_lh e_br e_we e_me e_ce e_wy e_ho e_ov e_le e_st e_fo e_lc e_wa e_gb e_g f_g e_p f_p f_as z3 f_l e_cl f_sr f_cd f_hd k_r k_n k_s z11 hx hb hml hown hts hK hN hT hA (hP.sub [0, 1, 2, 3, 4, 5, 12, 7, 13, 6, 8, 9, 10, 11] rfl) (hD.sub [0, 1, 2, 3, 4, 5, 12, 7, 13, 6, 8, 9, 10, 11] (by decide +kernel) rfl) hS (lv_sub hl [1, 2, 3, 4, 5, 6, 0] rfl) ⟨by omega, by omega⟩ ⟨by omega, by omega⟩ ⟨by omega, by omega⟩ ⟨by omega, by omega⟩ ⟨by omega, by omega⟩ ⟨by omega, by omega⟩ ⟨by omega, by omega⟩ ⟨by omega, by omega⟩ ⟨by omega, by omega⟩ ⟨by omega, by omega⟩ ⟨by omega, by omega⟩ (e_gk) (e_pk) (e_f) (e_a) (e_hn) (e_hs) (e_hk) (e_c) (e_r) kk
