theorem gS_X4_54 : GoodIn tblG (va_wsS RX4 54 yJ7_copyOf_59c91 (wsG yJ7_copyOf_59c91 cJ7_copyOf_59c91 3 (some (.array .int)))) := tgS ml_X4_54 st_J7_copyOf_59c91 ini_J7 gW_J7_copyOf_59c91
theorem hs_J7_copyOf_59c91 : yJ7_copyOf_59c91.cls ≠ "java/lang/invoke/MethodHandle" ∧ yJ7_copyOf_59c91.cls ≠ "java/lang/invoke/VarHandle" ∧ (parseMethodDescriptor yJ7_copyOf_59c91.desc).map (fun d => d.parameters.length) = some 2 := by decide +kernel
theorem oi_X3_1 : Cond.methodLink RX3 1 objectInit ∈ tblG := tg 777 (by decide +kernel) (by decide +kernel)
theorem oi_im : Cond.instanceMethod objectInit ∈ tblG := tg 117 (by decide +kernel) (by decide +kernel)
theorem oi_cd : Cond.code objectInit ⟨#[0xb1]⟩ 1 none ∈ tblG := tg 118 (by decide +kernel) (by decide +kernel)
theorem fl_X3_7 : Cond.fieldLink RX3 7 "LateGlass$Law" "clauses" "I" ∈ tblG := tg 778 (by decide +kernel) (by decide +kernel)
theorem fl_X3_13 : Cond.fieldLink RX3 13 "LateGlass$Law" "heads" "[I" ∈ tblG := tg 780 (by decide +kernel) (by decide +kernel)
theorem fl_X3_17 : Cond.fieldLink RX3 17 "LateGlass$Law" "starts" "[I" ∈ tblG := tg 782 (by decide +kernel) (by decide +kernel)
theorem fl_X3_20 : Cond.fieldLink RX3 20 "LateGlass$Law" "code" "[I" ∈ tblG := tg 784 (by decide +kernel) (by decide +kernel)
theorem dgX3_init_0 : ∀ r ∈ ([(0, (.aload_n 0, 1)), (1, (.invokespecial 1, 3)), (4, (.aload_n 0, 1)), (5, (.iload_n 1, 1)), (6, (.putfield 7, 3)), (9, (.aload_n 0, 1)), (10, (.aload_n 2, 1)), (11, (.putfield 13, 3)), (14, (.aload_n 0, 1)), (15, (.aload_n 3, 1)), (16, (.putfield 17, 3)), (19, (.aload_n 0, 1)), (20, (.aload 4, 2)), (22, (.putfield 20, 3)), (25, (.return_, 1))] : List (Nat × (Instr × Nat))), decode cX3_init r.1 = .ok r.2 := by decide +kernel
theorem dX3_init_0 : decode cX3_init 0 = .ok (.aload_n 0, 1) := dgX3_init_0 (0, (.aload_n 0, 1)) (List.mem_of_getElem? (i := 0) rfl)
theorem dX3_init_1 : decode cX3_init 1 = .ok (.invokespecial 1, 3) := dgX3_init_0 (1, (.invokespecial 1, 3)) (List.mem_of_getElem? (i := 1) rfl)
theorem dX3_init_4 : decode cX3_init 4 = .ok (.aload_n 0, 1) := dgX3_init_0 (4, (.aload_n 0, 1)) (List.mem_of_getElem? (i := 2) rfl)
theorem dX3_init_5 : decode cX3_init 5 = .ok (.iload_n 1, 1) := dgX3_init_0 (5, (.iload_n 1, 1)) (List.mem_of_getElem? (i := 3) rfl)
theorem dX3_init_6 : decode cX3_init 6 = .ok (.putfield 7, 3) := dgX3_init_0 (6, (.putfield 7, 3)) (List.mem_of_getElem? (i := 4) rfl)
theorem dX3_init_9 : decode cX3_init 9 = .ok (.aload_n 0, 1) := dgX3_init_0 (9, (.aload_n 0, 1)) (List.mem_of_getElem? (i := 5) rfl)
theorem dX3_init_10 : decode cX3_init 10 = .ok (.aload_n 2, 1) := dgX3_init_0 (10, (.aload_n 2, 1)) (List.mem_of_getElem? (i := 6) rfl)
theorem dX3_init_11 : decode cX3_init 11 = .ok (.putfield 13, 3) := dgX3_init_0 (11, (.putfield 13, 3)) (List.mem_of_getElem? (i := 7) rfl)
theorem dX3_init_14 : decode cX3_init 14 = .ok (.aload_n 0, 1) := dgX3_init_0 (14, (.aload_n 0, 1)) (List.mem_of_getElem? (i := 8) rfl)
theorem dX3_init_15 : decode cX3_init 15 = .ok (.aload_n 3, 1) := dgX3_init_0 (15, (.aload_n 3, 1)) (List.mem_of_getElem? (i := 9) rfl)
theorem dX3_init_16 : decode cX3_init 16 = .ok (.putfield 17, 3) := dgX3_init_0 (16, (.putfield 17, 3)) (List.mem_of_getElem? (i := 10) rfl)
theorem dX3_init_19 : decode cX3_init 19 = .ok (.aload_n 0, 1) := dgX3_init_0 (19, (.aload_n 0, 1)) (List.mem_of_getElem? (i := 11) rfl)
theorem dX3_init_20 : decode cX3_init 20 = .ok (.aload 4, 2) := dgX3_init_0 (20, (.aload 4, 2)) (List.mem_of_getElem? (i := 12) rfl)
theorem dX3_init_22 : decode cX3_init 22 = .ok (.putfield 20, 3) := dgX3_init_0 (22, (.putfield 20, 3)) (List.mem_of_getElem? (i := 13) rfl)
theorem dX3_init_25 : decode cX3_init 25 = .ok (.return_, 1) := dgX3_init_0 (25, (.return_, 1)) (List.mem_of_getElem? (i := 14) rfl)
set_option maxHeartbeats 4000000 in
set_option maxRecDepth 100000 in
theorem kX3_init (l : Launch) (G : g5_G) (a0 a1 a2 a3 : Nat) (sz : Nat) (n0 : Int32) (h_n0 : 1 ≤ n0.toInt ∧ n0.toInt ≤ 12) : Met l yX3_init (wsG yX3_init cX3_init 5 none) ({ frames := 1, cells := 0, slots := 0, locals := 12 }) (va_Pc [.ref a0, .int n0, .ref a1, .ref a2, .ref a3] (g5_P G [(a0, .inr (3, [.int 0, .null, .null, .null]))] sz)) (va_Qv (fun (u : va_W) => ((u = [(a0, (oc3 n0 a1 a2 a3))]))) (g5_B G (va_A [(a0, .inr (3, [.int 0, .null, .null, .null]))] sz)) (va_A [(a0, .inr (3, [.int 0, .null, .null, .null]))] sz)) 0 0 (va_A [(a0, .inr (3, [.int 0, .null, .null, .null]))] sz) := by
  refine Met.ofW (cc := cX3_init) (maxL := 5) (ret := none) (by decide) rfl ?_
  intro p e s m args below meth c s₁ B hml hv
  obtain ⟨rfl, hsz, hP, hK, hD0, hN, hT⟩ := hv
  have hx := B.exec
  have hb := B.bytes
  have hr := B.returns
  have hts : ∀ w ∈ tblG, w.before _ s = true := fun w h => atoms_spec (ws := (wsG yX3_init cX3_init 5 none)) B.pre w (List.mem_cons_of_mem _ h)
  have hown : s.vm.findClass RX3 = some m.cls := findClass_of_methodNamed B.named
  have hlocks := B.notSynchronized
  have hin : meth.name = "<init>" := (name_of_methodNamed B.named B.method).1
  subst hsz
  have hD := hD0.self (sz := s.heap.size)
  generalize hAe : va_A [(a0, .inr (3, [.int 0, .null, .null, .null]))] s.heap.size = A at hD hT ⊢
  have hA : ∀ q : Nat, s.heap.size ≤ q → A q := fun q h => by rw [← hAe]; exact Or.inr h
  have hS : va_S A s.heap s.heap [] := va_S.rf
  have hP : va_P G.1 vwCl [(a0, .inr (3, [.int 0, .null, .null, .null]))] s.heap := hP
  have hl := lv_entry ([.ref a0, .int n0, .ref a1, .ref a2, .ref a3]) (n := 5) (Nat.le_of_ble_eq_true rfl)
  rw [lg_entry_eq]
  generalize (lg_sl ([.ref a0, .int n0, .ref a1, .ref a2, .ref a3]) ++ List.replicate (5 - (lg_sl ([.ref a0, .int n0, .ref a1, .ref a2, .ref a3])).length) Slot.unset).toArray = ls at hl ⊢
  have hl : lv_has ls 5 [(0, .ref a0), (1, .int n0), (2, .ref a1), (3, .ref a2), (4, .ref a3)] := hl
  refine lv_aload_n hx hb dX3_init_0 rfl (lv_at hl 0 rfl) ?_
  refine W.objInit hx hb hown (hts _ oi_X3_1) (hts _ oi_im) (hts _ oi_cd) rfl (by rw [hml]; exact hl.1) rfl dX3_init_1 (Nat.le_of_ble_eq_true rfl) (Nat.le_of_ble_eq_true rfl) ?_
  refine W.eq (g2 := F0 m 4 ls []) rfl ?_
  refine lv_aload_n hx hb dX3_init_4 rfl (lv_at hl 0 rfl) ?_
  refine lv_iload_n hx hb dX3_init_5 rfl (lv_at hl 1 rfl) ?_
  refine va_putF (D := G.1) (ci := 3) (v := .int n0) (ty := .int) (C := RX3) (T := TX3) (N := 4) hx hb hts inG_X3 tyX3 tyX3_ok nmX3 hown hK hP hD hS 0 rfl rfl 0 (by decide) (hts _ fl_X3_7) (fun _ h9 => h9) rfl hin rfl (by decide +kernel) rfl rfl (Nat.le_of_ble_eq_true rfl) dX3_init_6 (fun H locs hP hD hS => ?_)
  refine g5_rs [(a0, .inr (3, [.int n0, .null, .null, .null]))] hP hD (fun hP hD => ?_)
  refine lv_aload_n hx hb dX3_init_9 rfl (lv_at hl 0 rfl) ?_
  refine lv_aload_n hx hb dX3_init_10 rfl (lv_at hl 2 rfl) ?_
  refine va_putF (D := G.1) (ci := 3) (v := .ref a1) (ty := .array .int) (C := RX3) (T := TX3) (N := 4) hx hb hts inG_X3 tyX3 tyX3_ok nmX3 hown hK hP hD hS 0 rfl rfl 1 (by decide) (hts _ fl_X3_13) (fun _ h9 => h9) rfl hin rfl (by decide +kernel) rfl rfl (Nat.le_of_ble_eq_true rfl) dX3_init_11 (fun H locs hP hD hS => ?_)
  refine g5_rs [(a0, .inr (3, [.int n0, .ref a1, .null, .null]))] hP hD (fun hP hD => ?_)
  refine lv_aload_n hx hb dX3_init_14 rfl (lv_at hl 0 rfl) ?_
  refine lv_aload_n hx hb dX3_init_15 rfl (lv_at hl 3 rfl) ?_
  refine va_putF (D := G.1) (ci := 3) (v := .ref a2) (ty := .array .int) (C := RX3) (T := TX3) (N := 4) hx hb hts inG_X3 tyX3 tyX3_ok nmX3 hown hK hP hD hS 0 rfl rfl 2 (by decide) (hts _ fl_X3_17) (fun _ h9 => h9) rfl hin rfl (by decide +kernel) rfl rfl (Nat.le_of_ble_eq_true rfl) dX3_init_16 (fun H locs hP hD hS => ?_)
  refine g5_rs [(a0, .inr (3, [.int n0, .ref a1, .ref a2, .null]))] hP hD (fun hP hD => ?_)
  refine lv_aload_n hx hb dX3_init_19 rfl (lv_at hl 0 rfl) ?_
  refine lv_aload hx hb dX3_init_20 (lv_at hl 4 rfl) ?_
  refine va_putF (D := G.1) (ci := 3) (v := .ref a3) (ty := .array .int) (C := RX3) (T := TX3) (N := 4) hx hb hts inG_X3 tyX3 tyX3_ok nmX3 hown hK hP hD hS 0 rfl rfl 3 (by decide) (hts _ fl_X3_20) (fun _ h9 => h9) rfl hin rfl (by decide +kernel) rfl rfl (Nat.le_of_ble_eq_true rfl) dX3_init_22 (fun H locs hP hD hS => ?_)
  refine g5_rs [(a0, (oc3 n0 a1 a2 a3))] hP hD (fun hP hD => ?_)
  exact W.vret hx hb hr (fun t ht hW => ⟨⟨[(a0, (oc3 n0 a1 a2 a3))], rfl, rfl, by rw [ht]; exact hP, hD⟩, hS.F ht⟩) hS.2.2 dX3_init_25
theorem cd_X3_init : Cond.code yX3_init cX3_init 5 none ∈ tblG := tg 776 (by decide +kernel) (by decide +kernel)
theorem gW_X3_init : GoodIn tblG (wsG yX3_init cX3_init 5 none) := tgi cd_X3_init
theorem ml_X4_60 : Cond.methodLink RX4 60 yX3_init ∈ tblG := tg 774 (by decide +kernel) (by decide +kernel)
theorem im_X3_init : Cond.instanceMethod yX3_init ∈ tblG := tg 775 (by decide +kernel) (by decide +kernel)
theorem hs_X3_init : yX3_init.cls ≠ "java/lang/invoke/MethodHandle" ∧ yX3_init.cls ≠ "java/lang/invoke/VarHandle" ∧ (parseMethodDescriptor yX3_init.desc).map (fun d => d.parameters.length) = some 4 := by decide +kernel
set_option maxHeartbeats 4000000 in
set_option maxRecDepth 100000 in
theorem r_read (l : Launch) (G : g5_G) (a_r a_tk a_kd a_nm a_pl a_rc a_rh a_rs a_x : Nat) (sz : Nat) (e_ln : Int32) (e_pa : Int32) (e_at : Int32) (e_fp : Int32) (p_n : Int32) (f_kd : Nat → Int32) (f_nm : Nat → Int32) (f_pl : Nat → Int32) (f_rc : Nat → Int32) (f_rh : Nat → Int32) (f_rs : Nat → Int32) (f_x : Nat → Int32) (h_e_ln : 0 ≤ e_ln.toInt ∧ e_ln.toInt ≤ 400) (h_e_pa : 0 ≤ e_pa.toInt ∧ e_pa.toInt ≤ 50) (h_e_at : 0 ≤ e_at.toInt ∧ e_at.toInt ≤ 401) (h_p_n : 0 ≤ p_n.toInt ∧ p_n.toInt ≤ 400) (e_tk : TOKI f_kd f_nm) : Met l yX4_read (wsG yX4_read cX4_read 4 (some (.object "LateGlass$Law"))) ({ frames := 110, cells := 4, slots := 429, locals := 2639 }) (va_Pc [.ref a_r, .ref a_x, .int p_n] (g5_P G [(a_r, (oc4 a_tk a_rh a_rs a_rc e_ln e_pa e_at e_fp)), (a_tk, (oc8 a_kd a_nm a_pl)), (a_kd, (arI G 401 f_kd)), (a_nm, (arI G 401 f_nm)), (a_pl, (arI G 401 f_pl)), (a_rc, (arI G 400 f_rc)), (a_rh, (arI G 12 f_rh)), (a_rs, (arI G 13 f_rs)), (a_x, (arI G 400 f_x))] sz)) (va_Qq (fun (r : Option Nat) (u : va_W) => (∃ (o_ln : Int32) (o_pa : Int32) (o_at : Int32) (o_rc : Nat → Int32) (o_fp : Int32) (o_rh : Nat → Int32) (o_rs : Nat → Int32) (o_kd : Nat → Int32) (o_nm : Nat → Int32) (o_pl : Nat → Int32), (0 ≤ o_ln.toInt ∧ o_ln.toInt ≤ 400) ∧ (0 ≤ o_at.toInt ∧ o_at.toInt ≤ 401) ∧ (0 ≤ o_pa.toInt ∧ o_pa.toInt ≤ 50) ∧ (TOKI o_kd o_nm) ∧ (r = none) ∧ (u = [(a_r, (oc4 a_tk a_rh a_rs a_rc o_ln o_pa o_at o_fp)), (a_tk, (oc8 a_kd a_nm a_pl)), (a_kd, (arI G 401 o_kd)), (a_nm, (arI G 401 o_nm)), (a_pl, (arI G 401 o_pl)), (a_rc, (arI G 400 o_rc)), (a_rh, (arI G 12 o_rh)), (a_rs, (arI G 13 o_rs)), (a_x, (arI G 400 f_x))])) ∨ (∃ (o_ln : Int32) (o_pa : Int32) (o_at : Int32) (o_rc : Nat → Int32) (o_fp : Int32) (o_rh : Nat → Int32) (o_rs : Nat → Int32) (o_kd : Nat → Int32) (o_nm : Nat → Int32) (o_pl : Nat → Int32) (o_q : Nat) (o_qh : Nat) (o_qs : Nat) (o_qc : Nat) (o_cl : Int32) (o_nh : Nat) (o_ns : Nat) (o_nc : Nat) (o_fh : Nat → Int32) (o_fs : Nat → Int32) (o_fc : Nat → Int32), (0 ≤ o_ln.toInt ∧ o_ln.toInt ≤ 400) ∧ (0 ≤ o_at.toInt ∧ o_at.toInt ≤ 401) ∧ (0 ≤ o_pa.toInt ∧ o_pa.toInt ≤ 50) ∧ (TOKI o_kd o_nm) ∧ (1 ≤ o_cl.toInt ∧ o_cl.toInt ≤ 12) ∧ (o_nc ≤ 400) ∧ (∀ j : Nat, j < o_ns → 0 ≤ (o_fs j).toInt ∧ (o_fs j).toInt ≤ (o_nc : Int)) ∧ (∀ j : Nat, j < o_nc → (o_fc j >>> (12 &&& 31)).toInt = 1 → (o_fc j &&& 4095).toInt < 8) ∧ ((o_cl.toInt : Int) ≤ (o_nh : Int) ∧ (o_cl.toInt + 1 : Int) ≤ (o_ns : Int)) ∧ (r = some o_q) ∧ (u = [(a_r, (oc4 a_tk a_rh a_rs a_rc o_ln o_pa o_at o_fp)), (a_tk, (oc8 a_kd a_nm a_pl)), (a_kd, (arI G 401 o_kd)), (a_nm, (arI G 401 o_nm)), (a_pl, (arI G 401 o_pl)), (a_rc, (arI G 400 o_rc)), (a_rh, (arI G 12 o_rh)), (a_rs, (arI G 13 o_rs)), (a_x, (arI G 400 f_x)), (o_q, (oc3 o_cl o_qh o_qs o_qc)), (o_qh, (arI G o_nh o_fh)), (o_qs, (arI G o_ns o_fs)), (o_qc, (arI G o_nc o_fc))]))) (g5_B G (va_A [(a_r, (oc4 a_tk a_rh a_rs a_rc e_ln e_pa e_at e_fp)), (a_tk, (oc8 a_kd a_nm a_pl)), (a_kd, (arI G 401 f_kd)), (a_nm, (arI G 401 f_nm)), (a_pl, (arI G 401 f_pl)), (a_rc, (arI G 400 f_rc)), (a_rh, (arI G 12 f_rh)), (a_rs, (arI G 13 f_rs)), (a_x, (arI G 400 f_x))] sz)) (va_A [(a_r, (oc4 a_tk a_rh a_rs a_rc e_ln e_pa e_at e_fp)), (a_tk, (oc8 a_kd a_nm a_pl)), (a_kd, (arI G 401 f_kd)), (a_nm, (arI G 401 f_nm)), (a_pl, (arI G 401 f_pl)), (a_rc, (arI G 400 f_rc)), (a_rh, (arI G 12 f_rh)), (a_rs, (arI G 13 f_rs)), (a_x, (arI G 400 f_x))] sz)) 4 429 (va_A [(a_r, (oc4 a_tk a_rh a_rs a_rc e_ln e_pa e_at e_fp)), (a_tk, (oc8 a_kd a_nm a_pl)), (a_kd, (arI G 401 f_kd)), (a_nm, (arI G 401 f_nm)), (a_pl, (arI G 401 f_pl)), (a_rc, (arI G 400 f_rc)), (a_rh, (arI G 12 f_rh)), (a_rs, (arI G 13 f_rs)), (a_x, (arI G 400 f_x))] sz) := by
  refine Met.ofW (cc := cX4_read) (maxL := 4) (ret := (some (.object "LateGlass$Law"))) (by decide) rfl ?_
  intro p e s m args below meth c s₁ B hml hv
  obtain ⟨rfl, hsz, hP, hK, hD0, hN, hT⟩ := hv
  have hx := B.exec
  have hb := B.bytes
  have hr := B.returns
  have hts : ∀ w ∈ tblG, w.before _ s = true := fun w h => atoms_spec (ws := (wsG yX4_read cX4_read 4 (some (.object "LateGlass$Law")))) B.pre w (List.mem_cons_of_mem _ h)
  have hown : s.vm.findClass RX4 = some m.cls := findClass_of_methodNamed B.named
  have hlocks := B.notSynchronized
  subst hsz
  have hD := hD0.self (sz := s.heap.size)
  generalize hAe : va_A [(a_r, (oc4 a_tk a_rh a_rs a_rc e_ln e_pa e_at e_fp)), (a_tk, (oc8 a_kd a_nm a_pl)), (a_kd, (arI G 401 f_kd)), (a_nm, (arI G 401 f_nm)), (a_pl, (arI G 401 f_pl)), (a_rc, (arI G 400 f_rc)), (a_rh, (arI G 12 f_rh)), (a_rs, (arI G 13 f_rs)), (a_x, (arI G 400 f_x))] s.heap.size = A at hD hT ⊢
  have hA : ∀ q : Nat, s.heap.size ≤ q → A q := fun q h => by rw [← hAe]; exact Or.inr h
  have hS : va_S A s.heap s.heap [] := va_S.rf
  have hP : va_P G.1 vwCl [(a_r, (oc4 a_tk a_rh a_rs a_rc e_ln e_pa e_at e_fp)), (a_tk, (oc8 a_kd a_nm a_pl)), (a_kd, (arI G 401 f_kd)), (a_nm, (arI G 401 f_nm)), (a_pl, (arI G 401 f_pl)), (a_rc, (arI G 400 f_rc)), (a_rh, (arI G 12 f_rh)), (a_rs, (arI G 13 f_rs)), (a_x, (arI G 400 f_x))] s.heap := hP
  have hl := lv_entry ([.ref a_r, .ref a_x, .int p_n]) (n := 4) (Nat.le_of_ble_eq_true rfl)
  rw [lg_entry_eq]
  generalize (lg_sl ([.ref a_r, .ref a_x, .int p_n]) ++ List.replicate (4 - (lg_sl ([.ref a_r, .ref a_x, .int p_n])).length) Slot.unset).toArray = ls at hl ⊢
  have hl : lv_has ls 4 [(0, .ref a_r), (1, .ref a_x), (2, .int p_n)] := hl
  refine lv_aload_n hx hb dX4_read_0 rfl (lv_at hl 0 rfl) ?_
  refine va_get (D := G.1) (ci := 4) (v := .ref a_tk) (C := RX4) (T := TX4) (N := 8) hx hb hts inG_X4 hown hK hP 0 rfl rfl 0 (by decide) (hts _ fl_X4_12) (fun _ h9 => h9) rfl dX4_read_1 ?_
  refine lv_aload_n hx hb dX4_read_4 rfl (lv_at hl 1 rfl) ?_
  refine lv_iload_n hx hb dX4_read_5 rfl (lv_at hl 2 rfl) ?_
  obtain ⟨hPc, hDc, hFc⟩ := g5_sub3 (wc := [(a_tk, (oc8 a_kd a_nm a_pl)), (a_kd, (arI G 401 f_kd)), (a_nm, (arI G 401 f_nm)), (a_pl, (arI G 401 f_pl)), (a_x, (arI G 400 f_x))]) hP hD hS hA [1, 2, 3, 4, 8] (by decide) rfl
  refine va_callv (va_runV (As := [.ref a_x, .int p_n]) (rest := []) ⟨hx, hb, hml, hown, hts⟩ (k_cut l G a_tk a_kd a_nm a_pl a_x s.heap.size p_n f_kd f_nm f_pl f_x h_p_n (e_tk)) (cwV 2 hts gV_X4_32 rfl rfl rfl hv_X8_cut ⟨Nat.le_of_ble_eq_true rfl, Nat.le_of_ble_eq_true rfl⟩) (g5_preV hPc hK hDc hN hT hS hFc (ci := 8) (q0 := 0) rfl rfl) rfl rfl hl.1 rfl (lv_room (Nat.le_of_ble_eq_true rfl)) dX4_read_6 ⟨Nat.le_of_ble_eq_true rfl, Nat.le_of_ble_eq_true rfl⟩) hS (fun q _ h => hFc q h) hFc (fun u t H1 locs ht hvm hw hB hz1 hk1 hS => ?_)
  obtain ⟨hP1, hD1⟩ := hB
  rw [ht] at hP1
  obtain ⟨z2, z3, z4, i_1, rfl⟩ := hw
  have i_1 : TOKI z2 z3 := i_1
  obtain ⟨hP, hD⟩ := va_join (wr := [(a_r, (oc4 a_tk a_rh a_rs a_rc e_ln e_pa e_at e_fp)), (a_rc, (arI G 400 f_rc)), (a_rh, (arI G 12 f_rh)), (a_rs, (arI G 13 f_rs))]) hP hD [1, 2, 3, 4, 8] [0, 5, 6, 7] rfl rfl (by decide) (by decide) hk1 hFc hP1 hD1
  generalize H1 = H at hP hS ⊢
  refine g5_rs [(a_r, (oc4 a_tk a_rh a_rs a_rc e_ln e_pa e_at e_fp)), (a_rc, (arI G 400 f_rc)), (a_rh, (arI G 12 f_rh)), (a_rs, (arI G 13 f_rs)), (a_tk, (oc8 a_kd a_nm a_pl)), (a_kd, (arI G 401 z2)), (a_nm, (arI G 401 z3)), (a_pl, (arI G 401 z4)), (a_x, (arI G 400 f_x))] hP hD (fun hP hD => ?_)
  refine lv_aload_n hx hb dX4_read_9 rfl (lv_at hl 0 rfl) ?_
  refine lv_iconst (v := 0) hx hb dX4_read_10 (by decide) ?_
  refine va_put (D := G.1) (ci := 4) (v := .int 0) (ty := .int) (C := RX4) (T := TX4) (N := 8) hx hb hts inG_X4 tyX4 tyX4_ok nmX4 hown hK hP hD hS 0 rfl rfl 4 (by decide) (hts _ fl_X4_36) (fun _ h9 => h9) rfl (by decide +kernel) rfl rfl (Nat.le_of_ble_eq_true rfl) dX4_read_11 (fun H locs hP hD hS => ?_)
  refine g5_rs [(a_r, (oc4 a_tk a_rh a_rs a_rc 0 e_pa e_at e_fp)), (a_rc, (arI G 400 f_rc)), (a_rh, (arI G 12 f_rh)), (a_rs, (arI G 13 f_rs)), (a_tk, (oc8 a_kd a_nm a_pl)), (a_kd, (arI G 401 z2)), (a_nm, (arI G 401 z3)), (a_pl, (arI G 401 z4)), (a_x, (arI G 400 f_x))] hP hD (fun hP hD => ?_)
  refine lv_aload_n hx hb dX4_read_14 rfl (lv_at hl 0 rfl) ?_
  refine lv_iconst (v := 0) hx hb dX4_read_15 (by decide) ?_
  refine va_put (D := G.1) (ci := 4) (v := .int 0) (ty := .int) (C := RX4) (T := TX4) (N := 8) hx hb hts inG_X4 tyX4 tyX4_ok nmX4 hown hK hP hD hS 0 rfl rfl 5 (by decide) (hts _ fl_X4_39) (fun _ h9 => h9) rfl (by decide +kernel) rfl rfl (Nat.le_of_ble_eq_true rfl) dX4_read_16 (fun H locs hP hD hS => ?_)
  refine g5_rs [(a_r, (oc4 a_tk a_rh a_rs a_rc 0 0 e_at e_fp)), (a_rc, (arI G 400 f_rc)), (a_rh, (arI G 12 f_rh)), (a_rs, (arI G 13 f_rs)), (a_tk, (oc8 a_kd a_nm a_pl)), (a_kd, (arI G 401 z2)), (a_nm, (arI G 401 z3)), (a_pl, (arI G 401 z4)), (a_x, (arI G 400 f_x))] hP hD (fun hP hD => ?_)
  refine lv_aload_n hx hb dX4_read_19 rfl (lv_at hl 0 rfl) ?_
  refine lv_iconst (v := 0) hx hb dX4_read_20 (by decide) ?_
  refine va_put (D := G.1) (ci := 4) (v := .int 0) (ty := .int) (C := RX4) (T := TX4) (N := 8) hx hb hts inG_X4 tyX4 tyX4_ok nmX4 hown hK hP hD hS 0 rfl rfl 6 (by decide) (hts _ fl_X4_42) (fun _ h9 => h9) rfl (by decide +kernel) rfl rfl (Nat.le_of_ble_eq_true rfl) dX4_read_21 (fun H locs hP hD hS => ?_)
  refine g5_rs [(a_r, (oc4 a_tk a_rh a_rs a_rc 0 0 0 e_fp)), (a_rc, (arI G 400 f_rc)), (a_rh, (arI G 12 f_rh)), (a_rs, (arI G 13 f_rs)), (a_tk, (oc8 a_kd a_nm a_pl)), (a_kd, (arI G 401 z2)), (a_nm, (arI G 401 z3)), (a_pl, (arI G 401 z4)), (a_x, (arI G 400 f_x))] hP hD (fun hP hD => ?_)
  refine lv_iconst (v := 0) hx hb dX4_read_24 (by decide) ?_
  refine lv_istore_n (lv' := [(3, .int 0), (0, .ref a_r), (1, .ref a_x), (2, .int p_n)]) hx hb dX4_read_25 rfl hl (by decide) rfl (fun ls hl => ?_)
  refine g5_loop (α := (Int32) × (Int32) × (Int32) × (Int32) × (Nat → Int32) × (Nat → Int32) × (Nat → Int32)) (fun (q : (Int32) × (Int32) × (Int32) × (Int32) × (Nat → Int32) × (Nat → Int32) × (Nat → Int32)) (ls : Array Slot) (H : Heap) (locs : List Loc) => match q with | (k_c, k_ln, k_pa, k_at, k_rc, k_rh, k_rs) => lv_has ls 4 [(3, .int k_c), (0, .ref a_r), (1, .ref a_x), (2, .int p_n)] ∧ va_P G.1 vwCl [(a_r, (oc4 a_tk a_rh a_rs a_rc k_ln k_pa k_at e_fp)), (a_rc, (arI G 400 k_rc)), (a_rh, (arI G 12 k_rh)), (a_rs, (arI G 13 k_rs)), (a_tk, (oc8 a_kd a_nm a_pl)), (a_kd, (arI G 401 z2)), (a_nm, (arI G 401 z3)), (a_pl, (arI G 401 z4)), (a_x, (arI G 400 f_x))] H ∧ va_D A [(a_r, (oc4 a_tk a_rh a_rs a_rc k_ln k_pa k_at e_fp)), (a_rc, (arI G 400 k_rc)), (a_rh, (arI G 12 k_rh)), (a_rs, (arI G 13 k_rs)), (a_tk, (oc8 a_kd a_nm a_pl)), (a_kd, (arI G 401 z2)), (a_nm, (arI G 401 z3)), (a_pl, (arI G 401 z4)), (a_x, (arI G 400 f_x))] ∧ va_S A s.heap H locs ∧ (0 ≤ k_c.toInt ∧ k_c.toInt ≤ 12) ∧ (0 ≤ k_ln.toInt ∧ k_ln.toInt ≤ 400) ∧ (0 ≤ k_pa.toInt ∧ k_pa.toInt ≤ 50) ∧ (0 ≤ k_at.toInt ∧ k_at.toInt ≤ 401) ∧ (CDI k_rc k_ln.toInt) ∧ (STI k_rs k_c.toInt k_ln.toInt)) (fun (q : (Int32) × (Int32) × (Int32) × (Int32) × (Nat → Int32) × (Nat → Int32) × (Nat → Int32)) => match q with | (k_c, k_ln, k_pa, k_at, k_rc, k_rh, k_rs) => Int.toNat (12 - k_c.toInt)) (0, 0, 0, 0, f_rc, f_rh, f_rs) ⟨lv_sub hl [0, 1, 2, 3] rfl, hP, hD, hS, ⟨by decide, by decide⟩, ⟨by decide, by decide⟩, ⟨by decide, by decide⟩, ⟨by decide, by decide⟩, cdi_0 (by decide), sti_0⟩ ?_
  rintro ⟨k_c, k_ln, k_pa, k_at, k_rc, k_rh, k_rs⟩ ls H locs ⟨hl, hP, hD, hS, i_5, i_6, i_7, i_8, i_9, i_10⟩ ih_26_11
  have hl : lv_has ls 4 [(3, .int k_c), (0, .ref a_r), (1, .ref a_x), (2, .int p_n)] := hl
  have i_5 : 0 ≤ k_c.toInt ∧ k_c.toInt ≤ 12 := i_5
  have i_6 : 0 ≤ k_ln.toInt ∧ k_ln.toInt ≤ 400 := i_6
  have i_7 : 0 ≤ k_pa.toInt ∧ k_pa.toInt ≤ 50 := i_7
  have i_8 : 0 ≤ k_at.toInt ∧ k_at.toInt ≤ 401 := i_8
  have i_9 : CDI k_rc k_ln.toInt := i_9
  have i_10 : STI k_rs k_c.toInt k_ln.toInt := i_10
  refine g5_rs [(a_r, (oc4 a_tk a_rh a_rs a_rc k_ln k_pa k_at e_fp)), (a_rc, (arI G 400 k_rc)), (a_rh, (arI G 12 k_rh)), (a_rs, (arI G 13 k_rs)), (a_tk, (oc8 a_kd a_nm a_pl)), (a_kd, (arI G 401 z2)), (a_nm, (arI G 401 z3)), (a_pl, (arI G 401 z4)), (a_x, (arI G 400 f_x))] hP hD (fun hP hD => ?_)
  refine lv_iload_n hx hb dX4_read_26 rfl (lv_at hl 0 rfl) ?_
  refine lv_bipush (v := 12) hx hb dX4_read_27 (by decide) ?_
  refine lv_icmp_ge (tgt := 127) hx hb dX4_read_29 (by decide) (fun c_12 => ?_) (fun c_12 => ?_)
  ·
    have i_12 : k_c.toInt ≥ 12 := by have z := g5_ge (a := k_c.toInt) (b := 12) (by rfl) (by decide) c_12; omega
    refine lv_aload_n hx hb dX4_read_127 rfl (lv_at hl 1 rfl) ?_
    refine lv_aload_n hx hb dX4_read_128 rfl (lv_at hl 1 rfl) ?_
    refine va_get (D := G.1) (ci := 4) (v := .int k_at) (C := RX4) (T := TX4) (N := 8) hx hb hts inG_X4 hown hK hP 0 rfl rfl 6 (by decide) (hts _ fl_X4_42) (fun _ h9 => h9) rfl dX4_read_129 ?_
    refine lv_aload_n hx hb dX4_read_132 rfl (lv_at hl 1 rfl) ?_
    refine va_get (D := G.1) (ci := 4) (v := .ref a_tk) (C := RX4) (T := TX4) (N := 8) hx hb hts inG_X4 hown hK hP 0 rfl rfl 0 (by decide) (hts _ fl_X4_12) (fun _ h9 => h9) rfl dX4_read_133 ?_
    refine va_get (D := G.1) (ci := 8) (v := .ref a_pl) (C := RX8) (T := TX8) (N := 3) hx hb hts inG_X8 hown hK hP 4 rfl rfl 2 (by decide) (hts _ fl_X4_66) (fun _ h9 => h9) rfl dX4_read_136 ?_
    refine va_alen hx hb hK hP 7 0 rfl rfl (v := 401) (by show Int32.ofNat 401 = 401; decide) dX4_read_139 ?_
    refine lv_icmp_ge (tgt := 158) hx hb dX4_read_140 (by decide) (fun c_13 => ?_) (fun c_13 => ?_)
    ·
      have i_13 : k_at.toInt ≥ 401 := by have z := g5_ge (a := k_at.toInt) (b := 401) (by rfl) (by decide) c_13; omega
      refine lv_iload_n hx hb dX4_read_158 rfl (lv_at hl 3 rfl) ?_
      refine va_put (D := G.1) (ci := 4) (v := .int p_n) (ty := .int) (C := RX4) (T := TX4) (N := 8) hx hb hts inG_X4 tyX4 tyX4_ok nmX4 hown hK hP hD hS 0 rfl rfl 7 (by decide) (hts _ fl_X4_28) (fun _ h9 => h9) rfl (by decide +kernel) rfl rfl (Nat.le_of_ble_eq_true rfl) dX4_read_159 (fun H locs hP hD hS => ?_)
      refine g5_rs [(a_r, (oc4 a_tk a_rh a_rs a_rc k_ln k_pa k_at p_n)), (a_rc, (arI G 400 k_rc)), (a_rh, (arI G 12 k_rh)), (a_rs, (arI G 13 k_rs)), (a_tk, (oc8 a_kd a_nm a_pl)), (a_kd, (arI G 401 z2)), (a_nm, (arI G 401 z3)), (a_pl, (arI G 401 z4)), (a_x, (arI G 400 f_x))] hP hD (fun hP hD => ?_)
      refine lv_null hx hb dX4_read_162 ?_
      refine W.widen (k := 4) (n := 429) (by decide) (by decide) ?_
      exact W.aret (v := .null) hx hb hr (Or.inl ⟨_, rfl⟩) (Or.inl rfl) (fun t ht hW => ⟨⟨none, [(a_r, (oc4 a_tk a_rh a_rs a_rc k_ln k_pa k_at p_n)), (a_tk, (oc8 a_kd a_nm a_pl)), (a_kd, (arI G 401 z2)), (a_nm, (arI G 401 z3)), (a_pl, (arI G 401 z4)), (a_rc, (arI G 400 k_rc)), (a_rh, (arI G 12 k_rh)), (a_rs, (arI G 13 k_rs)), (a_x, (arI G 400 f_x))], rfl, Or.inl (⟨k_ln, k_pa, k_at, k_rc, p_n, k_rh, k_rs, z2, z3, z4, i_6, i_8, i_7, i_1, rfl, rfl⟩), by rw [ht]; exact hP.sub [0, 4, 5, 6, 7, 1, 2, 3, 8] rfl, hD.sub [0, 4, 5, 6, 7, 1, 2, 3, 8] (by decide) rfl⟩, hS.F ht⟩) hS.2.2 dX4_read_163
    ·
      have i_13 : k_at.toInt < 401 := by have z := g5_geN (a := k_at.toInt) (b := 401) (by rfl) (by decide) c_13; omega
      refine lv_aload_n hx hb dX4_read_143 rfl (lv_at hl 1 rfl) ?_
      refine va_get (D := G.1) (ci := 4) (v := .ref a_tk) (C := RX4) (T := TX4) (N := 8) hx hb hts inG_X4 hown hK hP 0 rfl rfl 0 (by decide) (hts _ fl_X4_12) (fun _ h9 => h9) rfl dX4_read_144 ?_
      refine va_get (D := G.1) (ci := 8) (v := .ref a_pl) (C := RX8) (T := TX8) (N := 3) hx hb hts inG_X8 hown hK hP 4 rfl rfl 2 (by decide) (hts _ fl_X4_66) (fun _ h9 => h9) rfl dX4_read_147 ?_
      refine lv_aload_n hx hb dX4_read_150 rfl (lv_at hl 1 rfl) ?_
      refine va_get (D := G.1) (ci := 4) (v := .int k_at) (C := RX4) (T := TX4) (N := 8) hx hb hts inG_X4 hown hK hP 0 rfl rfl 6 (by decide) (hts _ fl_X4_42) (fun _ h9 => h9) rfl dX4_read_151 ?_
      refine va_iald hx hb hK hP 7 0 rfl rfl (i := k_at) (vp_in_iff.mpr ⟨by omega, by omega⟩) dX4_read_154 ?_
      refine lv_goto (tgt := 159) hx hb dX4_read_155 (by decide) ?_
      refine va_put (D := G.1) (ci := 4) (v := .int (z4 k_at.toNatClampNeg)) (ty := .int) (C := RX4) (T := TX4) (N := 8) hx hb hts inG_X4 tyX4 tyX4_ok nmX4 hown hK hP hD hS 0 rfl rfl 7 (by decide) (hts _ fl_X4_28) (fun _ h9 => h9) rfl (by decide +kernel) rfl rfl (Nat.le_of_ble_eq_true rfl) dX4_read_159 (fun H locs hP hD hS => ?_)
      refine g5_rs [(a_r, (oc4 a_tk a_rh a_rs a_rc k_ln k_pa k_at (z4 k_at.toNatClampNeg))), (a_rc, (arI G 400 k_rc)), (a_rh, (arI G 12 k_rh)), (a_rs, (arI G 13 k_rs)), (a_tk, (oc8 a_kd a_nm a_pl)), (a_kd, (arI G 401 z2)), (a_nm, (arI G 401 z3)), (a_pl, (arI G 401 z4)), (a_x, (arI G 400 f_x))] hP hD (fun hP hD => ?_)
      refine lv_null hx hb dX4_read_162 ?_
      refine W.widen (k := 4) (n := 429) (by decide) (by decide) ?_
      exact W.aret (v := .null) hx hb hr (Or.inl ⟨_, rfl⟩) (Or.inl rfl) (fun t ht hW => ⟨⟨none, [(a_r, (oc4 a_tk a_rh a_rs a_rc k_ln k_pa k_at (z4 k_at.toNatClampNeg))), (a_tk, (oc8 a_kd a_nm a_pl)), (a_kd, (arI G 401 z2)), (a_nm, (arI G 401 z3)), (a_pl, (arI G 401 z4)), (a_rc, (arI G 400 k_rc)), (a_rh, (arI G 12 k_rh)), (a_rs, (arI G 13 k_rs)), (a_x, (arI G 400 f_x))], rfl, Or.inl (⟨k_ln, k_pa, k_at, k_rc, (z4 k_at.toNatClampNeg), k_rh, k_rs, z2, z3, z4, i_6, i_8, i_7, i_1, rfl, rfl⟩), by rw [ht]; exact hP.sub [0, 4, 5, 6, 7, 1, 2, 3, 8] rfl, hD.sub [0, 4, 5, 6, 7, 1, 2, 3, 8] (by decide) rfl⟩, hS.F ht⟩) hS.2.2 dX4_read_163
  ·
    have i_12 : k_c.toInt < 12 := by have z := g5_geN (a := k_c.toInt) (b := 12) (by rfl) (by decide) c_12; omega
    refine lv_aload_n hx hb dX4_read_32 rfl (lv_at hl 1 rfl) ?_
    refine lv_iload_n hx hb dX4_read_33 rfl (lv_at hl 0 rfl) ?_
    obtain ⟨hPc, hDc, hFc⟩ := g5_sub3 (wc := [(a_r, (oc4 a_tk a_rh a_rs a_rc k_ln k_pa k_at e_fp)), (a_tk, (oc8 a_kd a_nm a_pl)), (a_kd, (arI G 401 z2)), (a_nm, (arI G 401 z3)), (a_rc, (arI G 400 k_rc)), (a_rh, (arI G 12 k_rh)), (a_rs, (arI G 13 k_rs))]) hP hD hS hA [0, 4, 5, 6, 1, 2, 3] (by decide) rfl
    refine va_calli (va_runV (As := [.int k_c]) (rest := []) ⟨hx, hb, hml, hown, hts⟩ (r_clause l G a_r a_tk a_kd a_nm a_rc a_rh a_rs a_pl H.size k_ln k_pa k_at e_fp k_c z2 z3 k_rc k_rh k_rs i_6 i_7 i_8 ⟨by omega, by omega⟩ (i_1) (i_9) (i_10)) (cwV 1 hts gV_X4_45 rfl rfl rfl hv_X4_readClause ⟨Nat.le_of_ble_eq_true rfl, Nat.le_of_ble_eq_true rfl⟩) (g5_preV hPc hK hDc hN hT hS hFc (ci := 4) (q0 := 0) rfl rfl) rfl rfl hl.1 rfl (lv_room (Nat.le_of_ble_eq_true rfl)) dX4_read_34 ⟨Nat.le_of_ble_eq_true rfl, Nat.le_of_ble_eq_true rfl⟩) hS (fun q _ h => hFc q h) hFc (fun r u t H1 locs ht hvm hw hB hz1 hk1 hS => ?_)
    obtain ⟨hP1, hD1⟩ := hB
    rw [ht] at hP1
    obtain ⟨z20, z21, z22, z23, z24, z25, z26, i_14, i_15, i_16, i_17, i_18, i_19, y27, rfl⟩ := hw
    have i_14 : 0 ≤ z20.toInt ∧ z20.toInt ≤ 1 := i_14
    have i_15 : k_ln.toInt ≤ z21.toInt ∧ z21.toInt ≤ 400 := i_15
    have i_16 : 0 ≤ z23.toInt ∧ z23.toInt ≤ 401 := i_16
    have i_17 : 0 ≤ z22.toInt ∧ z22.toInt ≤ 50 := i_17
    have i_18 : CDI z24 z21.toInt := i_18
    have i_19 : z20.toInt = 1 → STI z26 (k_c.toInt + 1) z21.toInt := i_19
    obtain ⟨hP, hD⟩ := va_join (wr := [(a_pl, (arI G 401 z4)), (a_x, (arI G 400 f_x))]) hP hD [0, 4, 5, 6, 1, 2, 3] [7, 8] rfl rfl (by decide) (by decide) hk1 hFc hP1 hD1
    generalize H1 = H at hP hS ⊢
    refine g5_rs [(a_pl, (arI G 401 z4)), (a_x, (arI G 400 f_x)), (a_r, (oc4 a_tk a_rh a_rs a_rc z21 z22 z23 e_fp)), (a_tk, (oc8 a_kd a_nm a_pl)), (a_kd, (arI G 401 z2)), (a_nm, (arI G 401 z3)), (a_rc, (arI G 400 z24)), (a_rh, (arI G 12 z25)), (a_rs, (arI G 13 z26))] hP hD (fun hP hD => ?_)
    refine g5_ti (v := z20) y27 ?_
    refine lv_if_eq (tgt := 127) hx hb dX4_read_37 (by decide) (fun c_28 => ?_) (fun c_28 => ?_)
    ·
      have i_28 : z20.toInt = 0 := by have z := g5_eq (a := z20.toInt) (b := 0) (by rfl) (by decide) c_28; omega
      refine lv_aload_n hx hb dX4_read_127 rfl (lv_at hl 1 rfl) ?_
      refine lv_aload_n hx hb dX4_read_128 rfl (lv_at hl 1 rfl) ?_
      refine va_get (D := G.1) (ci := 4) (v := .int z23) (C := RX4) (T := TX4) (N := 8) hx hb hts inG_X4 hown hK hP 2 rfl rfl 6 (by decide) (hts _ fl_X4_42) (fun _ h9 => h9) rfl dX4_read_129 ?_
      refine lv_aload_n hx hb dX4_read_132 rfl (lv_at hl 1 rfl) ?_
      refine va_get (D := G.1) (ci := 4) (v := .ref a_tk) (C := RX4) (T := TX4) (N := 8) hx hb hts inG_X4 hown hK hP 2 rfl rfl 0 (by decide) (hts _ fl_X4_12) (fun _ h9 => h9) rfl dX4_read_133 ?_
      refine va_get (D := G.1) (ci := 8) (v := .ref a_pl) (C := RX8) (T := TX8) (N := 3) hx hb hts inG_X8 hown hK hP 3 rfl rfl 2 (by decide) (hts _ fl_X4_66) (fun _ h9 => h9) rfl dX4_read_136 ?_
      refine va_alen hx hb hK hP 0 0 rfl rfl (v := 401) (by show Int32.ofNat 401 = 401; decide) dX4_read_139 ?_
      refine lv_icmp_ge (tgt := 158) hx hb dX4_read_140 (by decide) (fun c_29 => ?_) (fun c_29 => ?_)
      ·
        have i_29 : z23.toInt ≥ 401 := by have z := g5_ge (a := z23.toInt) (b := 401) (by rfl) (by decide) c_29; omega
        refine lv_iload_n hx hb dX4_read_158 rfl (lv_at hl 3 rfl) ?_
        refine va_put (D := G.1) (ci := 4) (v := .int p_n) (ty := .int) (C := RX4) (T := TX4) (N := 8) hx hb hts inG_X4 tyX4 tyX4_ok nmX4 hown hK hP hD hS 2 rfl rfl 7 (by decide) (hts _ fl_X4_28) (fun _ h9 => h9) rfl (by decide +kernel) rfl rfl (Nat.le_of_ble_eq_true rfl) dX4_read_159 (fun H locs hP hD hS => ?_)
        refine g5_rs [(a_pl, (arI G 401 z4)), (a_x, (arI G 400 f_x)), (a_r, (oc4 a_tk a_rh a_rs a_rc z21 z22 z23 p_n)), (a_tk, (oc8 a_kd a_nm a_pl)), (a_kd, (arI G 401 z2)), (a_nm, (arI G 401 z3)), (a_rc, (arI G 400 z24)), (a_rh, (arI G 12 z25)), (a_rs, (arI G 13 z26))] hP hD (fun hP hD => ?_)
        refine lv_null hx hb dX4_read_162 ?_
        refine W.widen (k := 4) (n := 429) (by decide) (by decide) ?_
        exact W.aret (v := .null) hx hb hr (Or.inl ⟨_, rfl⟩) (Or.inl rfl) (fun t ht hW => ⟨⟨none, [(a_r, (oc4 a_tk a_rh a_rs a_rc z21 z22 z23 p_n)), (a_tk, (oc8 a_kd a_nm a_pl)), (a_kd, (arI G 401 z2)), (a_nm, (arI G 401 z3)), (a_pl, (arI G 401 z4)), (a_rc, (arI G 400 z24)), (a_rh, (arI G 12 z25)), (a_rs, (arI G 13 z26)), (a_x, (arI G 400 f_x))], rfl, Or.inl (⟨z21, z22, z23, z24, p_n, z25, z26, z2, z3, z4, ⟨by omega, by omega⟩, i_16, i_17, i_1, rfl, rfl⟩), by rw [ht]; exact hP.sub [2, 3, 4, 5, 0, 6, 7, 8, 1] rfl, hD.sub [2, 3, 4, 5, 0, 6, 7, 8, 1] (by decide) rfl⟩, hS.F ht⟩) hS.2.2 dX4_read_163
      ·
        have i_29 : z23.toInt < 401 := by have z := g5_geN (a := z23.toInt) (b := 401) (by rfl) (by decide) c_29; omega
        refine lv_aload_n hx hb dX4_read_143 rfl (lv_at hl 1 rfl) ?_
        refine va_get (D := G.1) (ci := 4) (v := .ref a_tk) (C := RX4) (T := TX4) (N := 8) hx hb hts inG_X4 hown hK hP 2 rfl rfl 0 (by decide) (hts _ fl_X4_12) (fun _ h9 => h9) rfl dX4_read_144 ?_
        refine va_get (D := G.1) (ci := 8) (v := .ref a_pl) (C := RX8) (T := TX8) (N := 3) hx hb hts inG_X8 hown hK hP 3 rfl rfl 2 (by decide) (hts _ fl_X4_66) (fun _ h9 => h9) rfl dX4_read_147 ?_
        refine lv_aload_n hx hb dX4_read_150 rfl (lv_at hl 1 rfl) ?_
        refine va_get (D := G.1) (ci := 4) (v := .int z23) (C := RX4) (T := TX4) (N := 8) hx hb hts inG_X4 hown hK hP 2 rfl rfl 6 (by decide) (hts _ fl_X4_42) (fun _ h9 => h9) rfl dX4_read_151 ?_
        refine va_iald hx hb hK hP 0 0 rfl rfl (i := z23) (vp_in_iff.mpr ⟨by omega, by omega⟩) dX4_read_154 ?_
        refine lv_goto (tgt := 159) hx hb dX4_read_155 (by decide) ?_
        refine va_put (D := G.1) (ci := 4) (v := .int (z4 z23.toNatClampNeg)) (ty := .int) (C := RX4) (T := TX4) (N := 8) hx hb hts inG_X4 tyX4 tyX4_ok nmX4 hown hK hP hD hS 2 rfl rfl 7 (by decide) (hts _ fl_X4_28) (fun _ h9 => h9) rfl (by decide +kernel) rfl rfl (Nat.le_of_ble_eq_true rfl) dX4_read_159 (fun H locs hP hD hS => ?_)
        refine g5_rs [(a_pl, (arI G 401 z4)), (a_x, (arI G 400 f_x)), (a_r, (oc4 a_tk a_rh a_rs a_rc z21 z22 z23 (z4 z23.toNatClampNeg))), (a_tk, (oc8 a_kd a_nm a_pl)), (a_kd, (arI G 401 z2)), (a_nm, (arI G 401 z3)), (a_rc, (arI G 400 z24)), (a_rh, (arI G 12 z25)), (a_rs, (arI G 13 z26))] hP hD (fun hP hD => ?_)
        refine lv_null hx hb dX4_read_162 ?_
        refine W.widen (k := 4) (n := 429) (by decide) (by decide) ?_
        exact W.aret (v := .null) hx hb hr (Or.inl ⟨_, rfl⟩) (Or.inl rfl) (fun t ht hW => ⟨⟨none, [(a_r, (oc4 a_tk a_rh a_rs a_rc z21 z22 z23 (z4 z23.toNatClampNeg))), (a_tk, (oc8 a_kd a_nm a_pl)), (a_kd, (arI G 401 z2)), (a_nm, (arI G 401 z3)), (a_pl, (arI G 401 z4)), (a_rc, (arI G 400 z24)), (a_rh, (arI G 12 z25)), (a_rs, (arI G 13 z26)), (a_x, (arI G 400 f_x))], rfl, Or.inl (⟨z21, z22, z23, z24, (z4 z23.toNatClampNeg), z25, z26, z2, z3, z4, ⟨by omega, by omega⟩, i_16, i_17, i_1, rfl, rfl⟩), by rw [ht]; exact hP.sub [2, 3, 4, 5, 0, 6, 7, 8, 1] rfl, hD.sub [2, 3, 4, 5, 0, 6, 7, 8, 1] (by decide) rfl⟩, hS.F ht⟩) hS.2.2 dX4_read_163
    ·
      have n_28 : gNe (z20.toInt) (0) := by have z := g5_eqN (a := z20.toInt) (b := 0) (by rfl) (by decide) c_28; unfold gNe; omega
      have i_28 : z20.toInt ≥ 1 := by have z := g5_eqN (a := z20.toInt) (b := 0) (by rfl) (by decide) c_28; omega
      refine lv_aload_n hx hb dX4_read_40 rfl (lv_at hl 1 rfl) ?_
      refine lv_sipush (v := 302) hx hb dX4_read_41 (by decide) ?_
      obtain ⟨hPc, hDc, hFc⟩ := g5_sub3 (wc := [(a_r, (oc4 a_tk a_rh a_rs a_rc z21 z22 z23 e_fp)), (a_tk, (oc8 a_kd a_nm a_pl)), (a_kd, (arI G 401 z2))]) hP hD hS hA [2, 3, 4] (by decide) rfl
      refine va_calli (va_runV (As := [.int 302]) (rest := []) ⟨hx, hb, hml, hown, hts⟩ (r_isNext l G a_r a_tk a_kd a_rh a_rs a_rc a_nm a_pl H.size z21 z22 z23 e_fp 302 z2 ⟨by omega, by omega⟩ i_17 i_16) (cwV 1 hts gV_X4_49 rfl rfl rfl hv_X4_isNext ⟨Nat.le_of_ble_eq_true rfl, Nat.le_of_ble_eq_true rfl⟩) (g5_preV hPc hK hDc hN hT hS hFc (ci := 4) (q0 := 0) rfl rfl) rfl rfl hl.1 rfl (lv_room (Nat.le_of_ble_eq_true rfl)) dX4_read_44 ⟨Nat.le_of_ble_eq_true rfl, Nat.le_of_ble_eq_true rfl⟩) hS (fun q _ h => hFc q h) hFc (fun r u t H1 locs ht hvm hw hB hz1 hk1 hS => ?_)
      obtain ⟨hP1, hD1⟩ := hB
      rw [ht] at hP1
      rcases hw with ⟨i_30, i_31, rfl, rfl⟩ | ⟨rfl, rfl⟩
      ·
        have i_30 : z23.toInt ≤ 400 := i_30
        have i_31 : z2 z23.toNatClampNeg = (302 : Int32) := i_31
        obtain ⟨hP, hD⟩ := va_join (wr := [(a_pl, (arI G 401 z4)), (a_x, (arI G 400 f_x)), (a_nm, (arI G 401 z3)), (a_rc, (arI G 400 z24)), (a_rh, (arI G 12 z25)), (a_rs, (arI G 13 z26))]) hP hD [2, 3, 4] [0, 1, 5, 6, 7, 8] rfl rfl (by decide) (by decide) hk1 hFc hP1 hD1
        generalize H1 = H at hP hS ⊢
        refine g5_rs [(a_pl, (arI G 401 z4)), (a_x, (arI G 400 f_x)), (a_nm, (arI G 401 z3)), (a_rc, (arI G 400 z24)), (a_rh, (arI G 12 z25)), (a_rs, (arI G 13 z26)), (a_r, (oc4 a_tk a_rh a_rs a_rc z21 z22 z23 e_fp)), (a_tk, (oc8 a_kd a_nm a_pl)), (a_kd, (arI G 401 z2))] hP hD (fun hP hD => ?_)
        refine lv_if_eq (tgt := 109) hx hb dX4_read_47 (by decide) (fun c_32 => ?_) (fun c_32 => ?_)
        ·
          exact absurd c_32 (by decide)
        ·
          refine lv_aload_n hx hb dX4_read_50 rfl (lv_at hl 1 rfl) ?_
          refine lv_iconst (v := (-1)) hx hb dX4_read_51 (by decide) ?_
          refine va_put (D := G.1) (ci := 4) (v := .int (-1)) (ty := .int) (C := RX4) (T := TX4) (N := 8) hx hb hts inG_X4 tyX4 tyX4_ok nmX4 hown hK hP hD hS 6 rfl rfl 7 (by decide) (hts _ fl_X4_28) (fun _ h9 => h9) rfl (by decide +kernel) rfl rfl (Nat.le_of_ble_eq_true rfl) dX4_read_52 (fun H locs hP hD hS => ?_)
          refine g5_rs [(a_pl, (arI G 401 z4)), (a_x, (arI G 400 f_x)), (a_nm, (arI G 401 z3)), (a_rc, (arI G 400 z24)), (a_rh, (arI G 12 z25)), (a_rs, (arI G 13 z26)), (a_r, (oc4 a_tk a_rh a_rs a_rc z21 z22 z23 (-1))), (a_tk, (oc8 a_kd a_nm a_pl)), (a_kd, (arI G 401 z2))] hP hD (fun hP hD => ?_)
          refine lv_aload_n hx hb dX4_read_55 rfl (lv_at hl 1 rfl) ?_
          refine va_get (D := G.1) (ci := 4) (v := .ref a_rs) (C := RX4) (T := TX4) (N := 8) hx hb hts inG_X4 hown hK hP 6 rfl rfl 2 (by decide) (hts _ fl_X4_22) (fun _ h9 => h9) rfl dX4_read_56 ?_
          refine lv_iload_n hx hb dX4_read_59 rfl (lv_at hl 0 rfl) ?_
          refine lv_iconst (v := 1) hx hb dX4_read_60 (by decide) ?_
          refine lv_iadd hx hb dX4_read_61 ?_
          have t_33 : (k_c + 1).toInt = k_c.toInt + 1 := g5_iadd (a := k_c.toInt) (b := 1) (by rfl) (by decide) (by omega) (by omega)
          refine lv_aload_n hx hb dX4_read_62 rfl (lv_at hl 1 rfl) ?_
          refine va_get (D := G.1) (ci := 4) (v := .int z21) (C := RX4) (T := TX4) (N := 8) hx hb hts inG_X4 hown hK hP 6 rfl rfl 4 (by decide) (hts _ fl_X4_36) (fun _ h9 => h9) rfl dX4_read_63 ?_
          refine va_iast hx hb hK hP hD hS 5 0 rfl rfl (i := (k_c + 1)) (x := z21) (vp_in_iff.mpr ⟨by omega, by omega⟩) dX4_read_66 (fun H locs hP hD hS => ?_)
          refine g5_rs [(a_pl, (arI G 401 z4)), (a_x, (arI G 400 f_x)), (a_nm, (arI G 401 z3)), (a_rc, (arI G 400 z24)), (a_rh, (arI G 12 z25)), (a_rs, (arI G 13 (upd z26 (k_c + 1).toNatClampNeg z21))), (a_r, (oc4 a_tk a_rh a_rs a_rc z21 z22 z23 (-1))), (a_tk, (oc8 a_kd a_nm a_pl)), (a_kd, (arI G 401 z2))] hP hD (fun hP hD => ?_)
          refine va_new (D := G.1) (ci := 3) (fs := [.int 0, .null, .null, .null]) (C := RX3) (T := TX3) (N := 4) hx hb hts inG_X3 tyX3 tyX3_ok hown (hts _ cl_X4_52) (hts _ isn_X3) (hts _ ini_X3) hK hP hD hS hA rfl (fun j hj => by rcases (show j = 0 ∨ j = 1 ∨ j = 2 ∨ j = 3 by omega) with rfl | rfl | rfl | rfl <;> rfl) (Nat.le_of_ble_eq_true rfl) (Nat.le_of_ble_eq_true rfl) dX4_read_67 (fun q34 H hP hD hS => ?_)
          refine g5_rs [(a_pl, (arI G 401 z4)), (a_x, (arI G 400 f_x)), (a_nm, (arI G 401 z3)), (a_rc, (arI G 400 z24)), (a_rh, (arI G 12 z25)), (a_rs, (arI G 13 (upd z26 (k_c + 1).toNatClampNeg z21))), (a_r, (oc4 a_tk a_rh a_rs a_rc z21 z22 z23 (-1))), (a_tk, (oc8 a_kd a_nm a_pl)), (a_kd, (arI G 401 z2)), (q34, .inr (3, [.int 0, .null, .null, .null]))] hP hD (fun hP hD => ?_)
          refine W.widen (k := 1) (n := 4) (Nat.le_of_ble_eq_true rfl) (Nat.le_of_ble_eq_true rfl) ?_
          refine lv_dup hx hb dX4_read_70 rfl ?_
          refine lv_iload_n hx hb dX4_read_71 rfl (lv_at hl 0 rfl) ?_
          refine lv_iconst (v := 1) hx hb dX4_read_72 (by decide) ?_
          refine lv_iadd hx hb dX4_read_73 ?_
          have t_35 : (k_c + 1).toInt = k_c.toInt + 1 := g5_iadd (a := k_c.toInt) (b := 1) (by rfl) (by decide) (by omega) (by omega)
          refine lv_aload_n hx hb dX4_read_74 rfl (lv_at hl 1 rfl) ?_
          refine va_get (D := G.1) (ci := 4) (v := .ref a_rh) (C := RX4) (T := TX4) (N := 8) hx hb hts inG_X4 hown hK hP 6 rfl rfl 1 (by decide) (hts _ fl_X4_18) (fun _ h9 => h9) rfl dX4_read_75 ?_
          refine lv_iload_n hx hb dX4_read_78 rfl (lv_at hl 0 rfl) ?_
          refine lv_iconst (v := 1) hx hb dX4_read_79 (by decide) ?_
          refine lv_iadd hx hb dX4_read_80 ?_
          have t_36 : (k_c + 1).toInt = k_c.toInt + 1 := g5_iadd (a := k_c.toInt) (b := 1) (by rfl) (by decide) (by omega) (by omega)
          obtain ⟨hPc, hDc, hFc⟩ := g5_sub3 (wc := [(a_rh, (arI G 12 z25))]) hP hD hS hA [4] (by decide) rfl
          refine va_callq (va_runS (As := [.ref a_rh, .int (k_c + 1)]) (rest := [.int (k_c + 1), .ref q34, .ref q34]) ⟨hx, hb, hml, hown, hts⟩ (k_copyOf12 l G a_rh H.size (k_c + 1) z25 ⟨by omega, by omega⟩) (va_cwS 2 hts gS_X4_54 rfl rfl rfl hs_J7_copyOf_59c91 ⟨Nat.le_of_ble_eq_true rfl, Nat.le_of_ble_eq_true rfl⟩) (g5_preS hPc hK hDc hN hT hS hFc) rfl rfl hl.1 rfl (lv_room (Nat.le_of_ble_eq_true rfl)) dX4_read_81 ⟨Nat.le_of_ble_eq_true rfl, Nat.le_of_ble_eq_true rfl⟩) hS (fun q _ h => hFc q h) hFc (fun r u t H1 locs ht hvm hw hB hz1 hk1 hS => ?_)
          obtain ⟨hP1, hD1⟩ := hB
          rw [ht] at hP1
          refine W.widen (k := 2) (n := 16) (Nat.le_of_ble_eq_true rfl) (Nat.le_of_ble_eq_true rfl) ?_
          obtain ⟨z39, z40, z41, i_37, i_38, rfl, rfl⟩ := hw
          have i_37 : (z40 : Int) = (k_c + 1).toInt := i_37
          have i_38 : ∀ j : Nat, j < z40 → z41 j = z25 j := i_38
          obtain ⟨hP, hD⟩ := va_join (wr := [(a_pl, (arI G 401 z4)), (a_x, (arI G 400 f_x)), (a_nm, (arI G 401 z3)), (a_rc, (arI G 400 z24)), (a_rs, (arI G 13 (upd z26 (k_c + 1).toNatClampNeg z21))), (a_r, (oc4 a_tk a_rh a_rs a_rc z21 z22 z23 (-1))), (a_tk, (oc8 a_kd a_nm a_pl)), (a_kd, (arI G 401 z2)), (q34, .inr (3, [.int 0, .null, .null, .null]))]) hP hD [4] [0, 1, 2, 3, 5, 6, 7, 8, 9] rfl rfl (by decide) (by decide) hk1 hFc hP1 hD1
          generalize H1 = H at hP hS ⊢
          refine g5_rs [(a_pl, (arI G 401 z4)), (a_x, (arI G 400 f_x)), (a_nm, (arI G 401 z3)), (a_rc, (arI G 400 z24)), (a_rs, (arI G 13 (upd z26 (k_c + 1).toNatClampNeg z21))), (a_r, (oc4 a_tk a_rh a_rs a_rc z21 z22 z23 (-1))), (a_tk, (oc8 a_kd a_nm a_pl)), (a_kd, (arI G 401 z2)), (q34, .inr (3, [.int 0, .null, .null, .null])), (a_rh, (arI G 12 z25)), (z39, (arI G z40 z41))] hP hD (fun hP hD => ?_)
          refine g5_tv (v := .ref z39) rfl ?_
          refine lv_aload_n hx hb dX4_read_84 rfl (lv_at hl 1 rfl) ?_
          refine va_get (D := G.1) (ci := 4) (v := .ref a_rs) (C := RX4) (T := TX4) (N := 8) hx hb hts inG_X4 hown hK hP 5 rfl rfl 2 (by decide) (hts _ fl_X4_22) (fun _ h9 => h9) rfl dX4_read_85 ?_
          refine lv_iload_n hx hb dX4_read_88 rfl (lv_at hl 0 rfl) ?_
          refine lv_iconst (v := 2) hx hb dX4_read_89 (by decide) ?_
          refine lv_iadd hx hb dX4_read_90 ?_
          have t_42 : (k_c + 2).toInt = k_c.toInt + 2 := g5_iadd (a := k_c.toInt) (b := 2) (by rfl) (by decide) (by omega) (by omega)
          obtain ⟨hPc, hDc, hFc⟩ := g5_sub3 (wc := [(a_rs, (arI G 13 (upd z26 (k_c + 1).toNatClampNeg z21)))]) hP hD hS hA [4] (by decide) rfl
          refine va_callq (va_runS (As := [.ref a_rs, .int (k_c + 2)]) (rest := [.ref z39, .int (k_c + 1), .ref q34, .ref q34]) ⟨hx, hb, hml, hown, hts⟩ (k_copyOf13 l G a_rs H.size (k_c + 2) (upd z26 (k_c + 1).toNatClampNeg z21) ⟨by omega, by omega⟩) (va_cwS 2 hts gS_X4_54 rfl rfl rfl hs_J7_copyOf_59c91 ⟨Nat.le_of_ble_eq_true rfl, Nat.le_of_ble_eq_true rfl⟩) (g5_preS hPc hK hDc hN hT hS hFc) rfl rfl hl.1 rfl (lv_room (Nat.le_of_ble_eq_true rfl)) dX4_read_91 ⟨Nat.le_of_ble_eq_true rfl, Nat.le_of_ble_eq_true rfl⟩) hS (fun q _ h => hFc q h) hFc (fun r u t H1 locs ht hvm hw hB hz1 hk1 hS => ?_)
          obtain ⟨hP1, hD1⟩ := hB
          rw [ht] at hP1
          refine W.widen (k := 3) (n := 29) (Nat.le_of_ble_eq_true rfl) (Nat.le_of_ble_eq_true rfl) ?_
          obtain ⟨z45, z46, z47, i_43, i_44, rfl, rfl⟩ := hw
          have i_43 : (z46 : Int) = (k_c + 2).toInt := i_43
          have i_44 : ∀ j : Nat, j < z46 → z47 j = (upd z26 (k_c + 1).toNatClampNeg z21) j := i_44
          obtain ⟨hP, hD⟩ := va_join (wr := [(a_pl, (arI G 401 z4)), (a_x, (arI G 400 f_x)), (a_nm, (arI G 401 z3)), (a_rc, (arI G 400 z24)), (a_r, (oc4 a_tk a_rh a_rs a_rc z21 z22 z23 (-1))), (a_tk, (oc8 a_kd a_nm a_pl)), (a_kd, (arI G 401 z2)), (q34, .inr (3, [.int 0, .null, .null, .null])), (a_rh, (arI G 12 z25)), (z39, (arI G z40 z41))]) hP hD [4] [0, 1, 2, 3, 5, 6, 7, 8, 9, 10] rfl rfl (by decide) (by decide) hk1 hFc hP1 hD1
          generalize H1 = H at hP hS ⊢
          refine g5_rs [(a_pl, (arI G 401 z4)), (a_x, (arI G 400 f_x)), (a_nm, (arI G 401 z3)), (a_rc, (arI G 400 z24)), (a_r, (oc4 a_tk a_rh a_rs a_rc z21 z22 z23 (-1))), (a_tk, (oc8 a_kd a_nm a_pl)), (a_kd, (arI G 401 z2)), (q34, .inr (3, [.int 0, .null, .null, .null])), (a_rh, (arI G 12 z25)), (z39, (arI G z40 z41)), (a_rs, (arI G 13 (upd z26 (k_c + 1).toNatClampNeg z21))), (z45, (arI G z46 z47))] hP hD (fun hP hD => ?_)
          refine g5_tv (v := .ref z45) rfl ?_
          refine lv_aload_n hx hb dX4_read_94 rfl (lv_at hl 1 rfl) ?_
          refine va_get (D := G.1) (ci := 4) (v := .ref a_rc) (C := RX4) (T := TX4) (N := 8) hx hb hts inG_X4 hown hK hP 4 rfl rfl 3 (by decide) (hts _ fl_X4_25) (fun _ h9 => h9) rfl dX4_read_95 ?_
          refine lv_aload_n hx hb dX4_read_98 rfl (lv_at hl 1 rfl) ?_
          refine va_get (D := G.1) (ci := 4) (v := .int z21) (C := RX4) (T := TX4) (N := 8) hx hb hts inG_X4 hown hK hP 4 rfl rfl 4 (by decide) (hts _ fl_X4_36) (fun _ h9 => h9) rfl dX4_read_99 ?_
          obtain ⟨hPc, hDc, hFc⟩ := g5_sub3 (wc := [(a_rc, (arI G 400 z24))]) hP hD hS hA [3] (by decide) rfl
          refine va_callq (va_runS (As := [.ref a_rc, .int z21]) (rest := [.ref z45, .ref z39, .int (k_c + 1), .ref q34, .ref q34]) ⟨hx, hb, hml, hown, hts⟩ (k_copyOf400 l G a_rc H.size z21 z24 ⟨by omega, by omega⟩) (va_cwS 2 hts gS_X4_54 rfl rfl rfl hs_J7_copyOf_59c91 ⟨Nat.le_of_ble_eq_true rfl, Nat.le_of_ble_eq_true rfl⟩) (g5_preS hPc hK hDc hN hT hS hFc) rfl rfl hl.1 rfl (lv_room (Nat.le_of_ble_eq_true rfl)) dX4_read_102 ⟨Nat.le_of_ble_eq_true rfl, Nat.le_of_ble_eq_true rfl⟩) hS (fun q _ h => hFc q h) hFc (fun r u t H1 locs ht hvm hw hB hz1 hk1 hS => ?_)
          obtain ⟨hP1, hD1⟩ := hB
          rw [ht] at hP1
          refine W.widen (k := 4) (n := 429) (Nat.le_of_ble_eq_true rfl) (Nat.le_of_ble_eq_true rfl) ?_
          obtain ⟨z50, z51, z52, i_48, i_49, rfl, rfl⟩ := hw
          have i_48 : (z51 : Int) = z21.toInt := i_48
          have i_49 : ∀ j : Nat, j < z51 → z52 j = z24 j := i_49
          obtain ⟨hP, hD⟩ := va_join (wr := [(a_pl, (arI G 401 z4)), (a_x, (arI G 400 f_x)), (a_nm, (arI G 401 z3)), (a_r, (oc4 a_tk a_rh a_rs a_rc z21 z22 z23 (-1))), (a_tk, (oc8 a_kd a_nm a_pl)), (a_kd, (arI G 401 z2)), (q34, .inr (3, [.int 0, .null, .null, .null])), (a_rh, (arI G 12 z25)), (z39, (arI G z40 z41)), (a_rs, (arI G 13 (upd z26 (k_c + 1).toNatClampNeg z21))), (z45, (arI G z46 z47))]) hP hD [3] [0, 1, 2, 4, 5, 6, 7, 8, 9, 10, 11] rfl rfl (by decide) (by decide) hk1 hFc hP1 hD1
          generalize H1 = H at hP hS ⊢
          refine g5_rs [(a_pl, (arI G 401 z4)), (a_x, (arI G 400 f_x)), (a_nm, (arI G 401 z3)), (a_r, (oc4 a_tk a_rh a_rs a_rc z21 z22 z23 (-1))), (a_tk, (oc8 a_kd a_nm a_pl)), (a_kd, (arI G 401 z2)), (q34, .inr (3, [.int 0, .null, .null, .null])), (a_rh, (arI G 12 z25)), (z39, (arI G z40 z41)), (a_rs, (arI G 13 (upd z26 (k_c + 1).toNatClampNeg z21))), (z45, (arI G z46 z47)), (a_rc, (arI G 400 z24)), (z50, (arI G z51 z52))] hP hD (fun hP hD => ?_)
          refine g5_tv (v := .ref z50) rfl ?_
          obtain ⟨hPc, hDc, hFc⟩ := g5_sub3 (wc := [(q34, .inr (3, [.int 0, .null, .null, .null]))]) hP hD hS hA [6] (by decide) rfl
          refine va_callv (va_runI (As := [.int (k_c + 1), .ref z39, .ref z45, .ref z50]) (rest := [.ref q34]) ⟨hx, hb, hml, hown, hts⟩ (kX3_init l G q34 z39 z45 z50 H.size (k_c + 1) ⟨by omega, by omega⟩) (cwI 4 hts gW_X3_init rfl rfl rfl (hts _ ini_X3) (hts _ ml_X4_60) (hts _ im_X3_init) rfl hs_X3_init ⟨Nat.le_of_ble_eq_true rfl, Nat.le_of_ble_eq_true rfl⟩) (g5_preS hPc hK hDc hN hT hS hFc) rfl rfl hl.1 rfl (lv_room (Nat.le_of_ble_eq_true rfl)) dX4_read_105 ⟨Nat.le_of_ble_eq_true rfl, Nat.le_of_ble_eq_true rfl⟩) hS (fun q _ h => hFc q h) hFc (fun u t H1 locs ht hvm hw hB hz1 hk1 hS => ?_)
          obtain ⟨hP1, hD1⟩ := hB
          rw [ht] at hP1
          obtain rfl := hw
          obtain ⟨hP, hD⟩ := va_join (wr := [(a_pl, (arI G 401 z4)), (a_x, (arI G 400 f_x)), (a_nm, (arI G 401 z3)), (a_r, (oc4 a_tk a_rh a_rs a_rc z21 z22 z23 (-1))), (a_tk, (oc8 a_kd a_nm a_pl)), (a_kd, (arI G 401 z2)), (a_rh, (arI G 12 z25)), (z39, (arI G z40 z41)), (a_rs, (arI G 13 (upd z26 (k_c + 1).toNatClampNeg z21))), (z45, (arI G z46 z47)), (a_rc, (arI G 400 z24)), (z50, (arI G z51 z52))]) hP hD [6] [0, 1, 2, 3, 4, 5, 7, 8, 9, 10, 11, 12] rfl rfl (by decide) (by decide) hk1 hFc hP1 hD1
          generalize H1 = H at hP hS ⊢
          refine g5_rs [(a_pl, (arI G 401 z4)), (a_x, (arI G 400 f_x)), (a_nm, (arI G 401 z3)), (a_r, (oc4 a_tk a_rh a_rs a_rc z21 z22 z23 (-1))), (a_tk, (oc8 a_kd a_nm a_pl)), (a_kd, (arI G 401 z2)), (a_rh, (arI G 12 z25)), (z39, (arI G z40 z41)), (a_rs, (arI G 13 (upd z26 (k_c + 1).toNatClampNeg z21))), (z45, (arI G z46 z47)), (a_rc, (arI G 400 z24)), (z50, (arI G z51 z52)), (q34, (oc3 (k_c + 1) z39 z45 z50))] hP hD (fun hP hD => ?_)
          exact W.aret (v := .ref q34) hx hb hr (Or.inl ⟨_, rfl⟩) (Or.inr ⟨_, rfl⟩) (fun t ht hW => ⟨⟨some q34, [(a_r, (oc4 a_tk a_rh a_rs a_rc z21 z22 z23 (-1))), (a_tk, (oc8 a_kd a_nm a_pl)), (a_kd, (arI G 401 z2)), (a_nm, (arI G 401 z3)), (a_pl, (arI G 401 z4)), (a_rc, (arI G 400 z24)), (a_rh, (arI G 12 z25)), (a_rs, (arI G 13 (upd z26 (k_c + 1).toNatClampNeg z21))), (a_x, (arI G 400 f_x)), (q34, (oc3 (k_c + 1) z39 z45 z50)), (z39, (arI G z40 z41)), (z45, (arI G z46 z47)), (z50, (arI G z51 z52))], rfl, Or.inr (⟨z21, z22, z23, z24, (-1), z25, (upd z26 (k_c + 1).toNatClampNeg z21), z2, z3, z4, q34, z39, z45, z50, (k_c + 1), z40, z46, z51, z41, z47, z52, ⟨by omega, by omega⟩, i_16, i_17, i_1, ⟨by omega, by omega⟩, by omega, g_sti (i_19 (by omega)) (by omega) (by omega) (by omega) (by omega) (by omega) i_44, cdi_at i_18 (by omega) i_49, ⟨by omega, by omega⟩, rfl, rfl⟩), by rw [ht]; exact hP.sub [3, 4, 5, 2, 0, 10, 6, 8, 1, 12, 7, 9, 11] rfl, hD.sub [3, 4, 5, 2, 0, 10, 6, 8, 1, 12, 7, 9, 11] (by decide) rfl⟩, hS.F ht⟩) hS.2.2 dX4_read_108
      ·
        obtain ⟨hP, hD⟩ := va_join (wr := [(a_pl, (arI G 401 z4)), (a_x, (arI G 400 f_x)), (a_nm, (arI G 401 z3)), (a_rc, (arI G 400 z24)), (a_rh, (arI G 12 z25)), (a_rs, (arI G 13 z26))]) hP hD [2, 3, 4] [0, 1, 5, 6, 7, 8] rfl rfl (by decide) (by decide) hk1 hFc hP1 hD1
        generalize H1 = H at hP hS ⊢
        refine g5_rs [(a_pl, (arI G 401 z4)), (a_x, (arI G 400 f_x)), (a_nm, (arI G 401 z3)), (a_rc, (arI G 400 z24)), (a_rh, (arI G 12 z25)), (a_rs, (arI G 13 z26)), (a_r, (oc4 a_tk a_rh a_rs a_rc z21 z22 z23 e_fp)), (a_tk, (oc8 a_kd a_nm a_pl)), (a_kd, (arI G 401 z2))] hP hD (fun hP hD => ?_)
        refine lv_if_eq (tgt := 109) hx hb dX4_read_47 (by decide) (fun c_53 => ?_) (fun c_53 => ?_)
        ·
          refine lv_aload_n hx hb dX4_read_109 rfl (lv_at hl 1 rfl) ?_
          refine lv_bipush (v := 59) hx hb dX4_read_110 (by decide) ?_
          obtain ⟨hPc, hDc, hFc⟩ := g5_sub3 (wc := [(a_r, (oc4 a_tk a_rh a_rs a_rc z21 z22 z23 e_fp)), (a_tk, (oc8 a_kd a_nm a_pl)), (a_kd, (arI G 401 z2))]) hP hD hS hA [6, 7, 8] (by decide) rfl
          refine va_calli (va_runV (As := [.int 59]) (rest := []) ⟨hx, hb, hml, hown, hts⟩ (r_passed l G a_r a_tk a_kd a_rh a_rs a_rc a_nm a_pl H.size z21 z22 z23 e_fp 59 z2 ⟨by omega, by omega⟩ i_17 i_16) (cwV 1 hts gV_X4_63 rfl rfl rfl hv_X4_passed ⟨Nat.le_of_ble_eq_true rfl, Nat.le_of_ble_eq_true rfl⟩) (g5_preV hPc hK hDc hN hT hS hFc (ci := 4) (q0 := 0) rfl rfl) rfl rfl hl.1 rfl (lv_room (Nat.le_of_ble_eq_true rfl)) dX4_read_112 ⟨Nat.le_of_ble_eq_true rfl, Nat.le_of_ble_eq_true rfl⟩) hS (fun q _ h => hFc q h) hFc (fun r u t H1 locs ht hvm hw hB hz1 hk1 hS => ?_)
          obtain ⟨hP1, hD1⟩ := hB
          rw [ht] at hP1
          obtain ⟨z56, z57, i_54, i_55, y58, rfl⟩ := hw
          have i_54 : 0 ≤ z56.toInt ∧ z56.toInt ≤ 1 := i_54
          have i_55 : 0 ≤ z57.toInt ∧ z57.toInt ≤ 401 := i_55
          obtain ⟨hP, hD⟩ := va_join (wr := [(a_pl, (arI G 401 z4)), (a_x, (arI G 400 f_x)), (a_nm, (arI G 401 z3)), (a_rc, (arI G 400 z24)), (a_rh, (arI G 12 z25)), (a_rs, (arI G 13 z26))]) hP hD [6, 7, 8] [0, 1, 2, 3, 4, 5] rfl rfl (by decide) (by decide) hk1 hFc hP1 hD1
          generalize H1 = H at hP hS ⊢
          refine g5_rs [(a_pl, (arI G 401 z4)), (a_x, (arI G 400 f_x)), (a_nm, (arI G 401 z3)), (a_rc, (arI G 400 z24)), (a_rh, (arI G 12 z25)), (a_rs, (arI G 13 z26)), (a_r, (oc4 a_tk a_rh a_rs a_rc z21 z22 z57 e_fp)), (a_tk, (oc8 a_kd a_nm a_pl)), (a_kd, (arI G 401 z2))] hP hD (fun hP hD => ?_)
          refine g5_ti (v := z56) y58 ?_
          refine lv_if_ne (tgt := 121) hx hb dX4_read_115 (by decide) (fun c_59 => ?_) (fun c_59 => ?_)
          ·
            have n_59 : gNe (z56.toInt) (0) := by have z := g5_ne (a := z56.toInt) (b := 0) (by rfl) (by decide) c_59; unfold gNe; omega
            have i_59 : z56.toInt ≥ 1 := by have z := g5_ne (a := z56.toInt) (b := 0) (by rfl) (by decide) c_59; omega
            refine lv_iinc (v := (k_c + 1)) (lv' := [(3, .int (k_c + 1)), (0, .ref a_r), (1, .ref a_x), (2, .int p_n)]) hx hb dX4_read_121 hl (k := 0) rfl rfl (by decide) rfl (fun ls hl => ?_)
            have t_60 : (k_c + 1).toInt = k_c.toInt + 1 := g5_iadd (a := k_c.toInt) (b := 1) rfl (by decide) (by omega) (by omega)
            refine lv_goto (tgt := 26) hx hb dX4_read_124 (by decide) ?_
            exact ih_26_11 ((k_c + 1), z21, z22, z57, z24, z25, z26) ls H locs (show Int.toNat (12 - (k_c + 1).toInt) < Int.toNat (12 - k_c.toInt) from g_up (show k_c.toInt < (k_c + 1).toInt by omega) (show k_c.toInt < 12 by omega)) ⟨lv_sub hl [0, 1, 2, 3] rfl, hP.sub [6, 3, 4, 5, 7, 8, 2, 0, 1] rfl, hD.sub [6, 3, 4, 5, 7, 8, 2, 0, 1] (by decide) rfl, hS, ⟨by omega, by omega⟩, ⟨by omega, by omega⟩, i_17, i_55, i_18, g_stiN (i_19 (by omega)) (by omega)⟩
          ·
            have i_59 : z56.toInt = 0 := by have z := g5_neN (a := z56.toInt) (b := 0) (by rfl) (by decide) c_59; omega
            refine lv_goto (tgt := 127) hx hb dX4_read_118 (by decide) ?_
            refine lv_aload_n hx hb dX4_read_127 rfl (lv_at hl 1 rfl) ?_
            refine lv_aload_n hx hb dX4_read_128 rfl (lv_at hl 1 rfl) ?_
            refine va_get (D := G.1) (ci := 4) (v := .int z57) (C := RX4) (T := TX4) (N := 8) hx hb hts inG_X4 hown hK hP 6 rfl rfl 6 (by decide) (hts _ fl_X4_42) (fun _ h9 => h9) rfl dX4_read_129 ?_
            refine lv_aload_n hx hb dX4_read_132 rfl (lv_at hl 1 rfl) ?_
            refine va_get (D := G.1) (ci := 4) (v := .ref a_tk) (C := RX4) (T := TX4) (N := 8) hx hb hts inG_X4 hown hK hP 6 rfl rfl 0 (by decide) (hts _ fl_X4_12) (fun _ h9 => h9) rfl dX4_read_133 ?_
            refine va_get (D := G.1) (ci := 8) (v := .ref a_pl) (C := RX8) (T := TX8) (N := 3) hx hb hts inG_X8 hown hK hP 7 rfl rfl 2 (by decide) (hts _ fl_X4_66) (fun _ h9 => h9) rfl dX4_read_136 ?_
            refine va_alen hx hb hK hP 0 0 rfl rfl (v := 401) (by show Int32.ofNat 401 = 401; decide) dX4_read_139 ?_
            refine lv_icmp_ge (tgt := 158) hx hb dX4_read_140 (by decide) (fun c_61 => ?_) (fun c_61 => ?_)
            ·
              have i_61 : z57.toInt ≥ 401 := by have z := g5_ge (a := z57.toInt) (b := 401) (by rfl) (by decide) c_61; omega
              refine lv_iload_n hx hb dX4_read_158 rfl (lv_at hl 3 rfl) ?_
              refine va_put (D := G.1) (ci := 4) (v := .int p_n) (ty := .int) (C := RX4) (T := TX4) (N := 8) hx hb hts inG_X4 tyX4 tyX4_ok nmX4 hown hK hP hD hS 6 rfl rfl 7 (by decide) (hts _ fl_X4_28) (fun _ h9 => h9) rfl (by decide +kernel) rfl rfl (Nat.le_of_ble_eq_true rfl) dX4_read_159 (fun H locs hP hD hS => ?_)
              refine g5_rs [(a_pl, (arI G 401 z4)), (a_x, (arI G 400 f_x)), (a_nm, (arI G 401 z3)), (a_rc, (arI G 400 z24)), (a_rh, (arI G 12 z25)), (a_rs, (arI G 13 z26)), (a_r, (oc4 a_tk a_rh a_rs a_rc z21 z22 z57 p_n)), (a_tk, (oc8 a_kd a_nm a_pl)), (a_kd, (arI G 401 z2))] hP hD (fun hP hD => ?_)
              refine lv_null hx hb dX4_read_162 ?_
              refine W.widen (k := 4) (n := 429) (by decide) (by decide) ?_
              exact W.aret (v := .null) hx hb hr (Or.inl ⟨_, rfl⟩) (Or.inl rfl) (fun t ht hW => ⟨⟨none, [(a_r, (oc4 a_tk a_rh a_rs a_rc z21 z22 z57 p_n)), (a_tk, (oc8 a_kd a_nm a_pl)), (a_kd, (arI G 401 z2)), (a_nm, (arI G 401 z3)), (a_pl, (arI G 401 z4)), (a_rc, (arI G 400 z24)), (a_rh, (arI G 12 z25)), (a_rs, (arI G 13 z26)), (a_x, (arI G 400 f_x))], rfl, Or.inl (⟨z21, z22, z57, z24, p_n, z25, z26, z2, z3, z4, ⟨by omega, by omega⟩, i_55, i_17, i_1, rfl, rfl⟩), by rw [ht]; exact hP.sub [6, 7, 8, 2, 0, 3, 4, 5, 1] rfl, hD.sub [6, 7, 8, 2, 0, 3, 4, 5, 1] (by decide) rfl⟩, hS.F ht⟩) hS.2.2 dX4_read_163
            ·
              have i_61 : z57.toInt < 401 := by have z := g5_geN (a := z57.toInt) (b := 401) (by rfl) (by decide) c_61; omega
              refine lv_aload_n hx hb dX4_read_143 rfl (lv_at hl 1 rfl) ?_
              refine va_get (D := G.1) (ci := 4) (v := .ref a_tk) (C := RX4) (T := TX4) (N := 8) hx hb hts inG_X4 hown hK hP 6 rfl rfl 0 (by decide) (hts _ fl_X4_12) (fun _ h9 => h9) rfl dX4_read_144 ?_
              refine va_get (D := G.1) (ci := 8) (v := .ref a_pl) (C := RX8) (T := TX8) (N := 3) hx hb hts inG_X8 hown hK hP 7 rfl rfl 2 (by decide) (hts _ fl_X4_66) (fun _ h9 => h9) rfl dX4_read_147 ?_
              refine lv_aload_n hx hb dX4_read_150 rfl (lv_at hl 1 rfl) ?_
              refine va_get (D := G.1) (ci := 4) (v := .int z57) (C := RX4) (T := TX4) (N := 8) hx hb hts inG_X4 hown hK hP 6 rfl rfl 6 (by decide) (hts _ fl_X4_42) (fun _ h9 => h9) rfl dX4_read_151 ?_
              refine va_iald hx hb hK hP 0 0 rfl rfl (i := z57) (vp_in_iff.mpr ⟨by omega, by omega⟩) dX4_read_154 ?_
              refine lv_goto (tgt := 159) hx hb dX4_read_155 (by decide) ?_
              refine va_put (D := G.1) (ci := 4) (v := .int (z4 z57.toNatClampNeg)) (ty := .int) (C := RX4) (T := TX4) (N := 8) hx hb hts inG_X4 tyX4 tyX4_ok nmX4 hown hK hP hD hS 6 rfl rfl 7 (by decide) (hts _ fl_X4_28) (fun _ h9 => h9) rfl (by decide +kernel) rfl rfl (Nat.le_of_ble_eq_true rfl) dX4_read_159 (fun H locs hP hD hS => ?_)
              refine g5_rs [(a_pl, (arI G 401 z4)), (a_x, (arI G 400 f_x)), (a_nm, (arI G 401 z3)), (a_rc, (arI G 400 z24)), (a_rh, (arI G 12 z25)), (a_rs, (arI G 13 z26)), (a_r, (oc4 a_tk a_rh a_rs a_rc z21 z22 z57 (z4 z57.toNatClampNeg))), (a_tk, (oc8 a_kd a_nm a_pl)), (a_kd, (arI G 401 z2))] hP hD (fun hP hD => ?_)
              refine lv_null hx hb dX4_read_162 ?_
              refine W.widen (k := 4) (n := 429) (by decide) (by decide) ?_
              exact W.aret (v := .null) hx hb hr (Or.inl ⟨_, rfl⟩) (Or.inl rfl) (fun t ht hW => ⟨⟨none, [(a_r, (oc4 a_tk a_rh a_rs a_rc z21 z22 z57 (z4 z57.toNatClampNeg))), (a_tk, (oc8 a_kd a_nm a_pl)), (a_kd, (arI G 401 z2)), (a_nm, (arI G 401 z3)), (a_pl, (arI G 401 z4)), (a_rc, (arI G 400 z24)), (a_rh, (arI G 12 z25)), (a_rs, (arI G 13 z26)), (a_x, (arI G 400 f_x))], rfl, Or.inl (⟨z21, z22, z57, z24, (z4 z57.toNatClampNeg), z25, z26, z2, z3, z4, ⟨by omega, by omega⟩, i_55, i_17, i_1, rfl, rfl⟩), by rw [ht]; exact hP.sub [6, 7, 8, 2, 0, 3, 4, 5, 1] rfl, hD.sub [6, 7, 8, 2, 0, 3, 4, 5, 1] (by decide) rfl⟩, hS.F ht⟩) hS.2.2 dX4_read_163
        ·
          exact absurd c_53 (by decide)
