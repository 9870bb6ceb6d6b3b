theorem fl_X5_81 : Cond.fieldLink RX5 81 "LateGlass$House" "bodyBoards" "[J" ∈ tblG := tg 192 (by decide +kernel) (by decide +kernel)
theorem ml_X5_85 : Cond.methodLink RX5 85 yX5_meetBodies ∈ tblG := tg 826 (by decide +kernel) (by decide +kernel)
theorem im_X5_meetBodies : Cond.instanceMethod yX5_meetBodies ∈ tblG := tg 828 (by decide +kernel) (by decide +kernel)
theorem se_X5_meetBodies : Cond.selects RX5 yX5_meetBodies yX5_meetBodies ∈ tblG := tg 14 (by decide +kernel) (by decide +kernel)
theorem cd_X5_meetBodies : Cond.code yX5_meetBodies cX5_meetBodies 3 none ∈ tblG := tg 829 (by decide +kernel) (by decide +kernel)
theorem gW_X5_meetBodies : GoodIn tblG (wsG yX5_meetBodies cX5_meetBodies 3 none) := tgi cd_X5_meetBodies
theorem gV_X5_85 : GoodIn tblG (wsV RX5 85 RX5 yX5_meetBodies (wsG yX5_meetBodies cX5_meetBodies 3 none)) := tgV ml_X5_85 im_X5_meetBodies se_X5_meetBodies ini_X5 gW_X5_meetBodies
theorem hv_X5_meetBodies : yX5_meetBodies.cls = RX5 ∧ yX5_meetBodies.cls ≠ "java/lang/invoke/MethodHandle" ∧ yX5_meetBodies.cls ≠ "java/lang/invoke/VarHandle" ∧ (parseMethodDescriptor yX5_meetBodies.desc).map (fun d => d.parameters.length) = some 0 := by decide +kernel
theorem ml_X5_88 : Cond.methodLink RX5 88 yX5_meetGlass ∈ tblG := tg 855 (by decide +kernel) (by decide +kernel)
theorem im_X5_meetGlass : Cond.instanceMethod yX5_meetGlass ∈ tblG := tg 857 (by decide +kernel) (by decide +kernel)
theorem se_X5_meetGlass : Cond.selects RX5 yX5_meetGlass yX5_meetGlass ∈ tblG := tg 18 (by decide +kernel) (by decide +kernel)
theorem cd_X5_meetGlass : Cond.code yX5_meetGlass cX5_meetGlass 9 none ∈ tblG := tg 858 (by decide +kernel) (by decide +kernel)
theorem gW_X5_meetGlass : GoodIn tblG (wsG yX5_meetGlass cX5_meetGlass 9 none) := tgi cd_X5_meetGlass
theorem gV_X5_88 : GoodIn tblG (wsV RX5 88 RX5 yX5_meetGlass (wsG yX5_meetGlass cX5_meetGlass 9 none)) := tgV ml_X5_88 im_X5_meetGlass se_X5_meetGlass ini_X5 gW_X5_meetGlass
theorem hv_X5_meetGlass : yX5_meetGlass.cls = RX5 ∧ yX5_meetGlass.cls ≠ "java/lang/invoke/MethodHandle" ∧ yX5_meetGlass.cls ≠ "java/lang/invoke/VarHandle" ∧ (parseMethodDescriptor yX5_meetGlass.desc).map (fun d => d.parameters.length) = some 0 := by decide +kernel
set_option maxHeartbeats 4000000 in
set_option maxRecDepth 100000 in
theorem k_runN (l : Launch) (G : g5_G) (a_k a_h a_g a_gn a_b a_bn a_p a_pn a_bb a_j a_as a_sk a_l a_pt a_s a_w : Nat) (sz : Nat) (e_le : Int32) (e_st : Int32) (e_fo : Int32) (e_lc : Int32) (e_g : Int32) (e_b : Int32) (e_p : Int32) (e_ln : Int32) (e_se : Int32) (e_lh : Int32) (e_br : Int32) (e_we : Int32) (e_me : Int32) (e_ce : Int32) (e_wy : Int32) (e_ho : Int32) (e_ov : Int32) (p_c : Int32) (p_w : Int32) (p_h : Int32) (p_u : Int32) (e_wa : Int64) (e_gb : Int64) (f_g : Nat → Int32) (f_b : Nat → Int32) (f_p : Nat → Int32) (f_bb : Nat → Int64) (f_as : Nat → Int32) (f_sk : Nat → Int64) (f_l : Nat → Option Nat) (f_pt : Nat → Int32) (h_e_g : 0 ≤ e_g.toInt ∧ e_g.toInt ≤ 6) (h_e_b : 0 ≤ e_b.toInt ∧ e_b.toInt ≤ 5) (h_e_p : 0 ≤ e_p.toInt ∧ e_p.toInt ≤ 8) (h_e_ov : 0 ≤ e_ov.toInt ∧ e_ov.toInt ≤ 1) (e_gk : gOK f_g e_g.toInt) (e_pk : gOK f_p e_p.toInt) (e_gi : inT e_gb f_g e_g.toInt) (e_f : e_fo.toInt < 0 ∨ e_lc.toInt ≤ e_fo.toInt) : Met l yX5_run (wsG yX5_run cX5_run 9 none) ({ frames := 13, cells := 0, slots := 0, locals := 528 }) (va_Pc [.ref a_k, .int p_c, .int p_w, .int p_h, .int p_u] (g5_P G [(a_k, (oc5 a_h a_j a_pt e_ln e_se e_lh e_br e_we e_me e_ce e_wy e_ho e_ov)), (a_h, (oc1 e_wa e_le e_st e_fo e_lc a_l a_g a_b a_s a_p a_w e_gb a_bb)), (a_g, (oc6 6 5 a_gn e_g)), (a_gn, (arI G 30 f_g)), (a_b, (oc6 5 24 a_bn e_b)), (a_bn, (arI G 120 f_b)), (a_p, (oc6 8 5 a_pn e_p)), (a_pn, (arI G 40 f_p)), (a_bb, (arJ G 24 f_bb)), (a_j, (oc2 a_as a_sk)), (a_as, (arI G 8 f_as)), (a_sk, (arJ G 50 f_sk)), (a_l, (arW G 6 f_l)), (a_pt, (arI G 200 f_pt))] sz)) (va_Qv (fun (u : va_W) => (∃ (o_ln : Int32) (o_se : Int32) (o_lh : Int32) (o_br : Int32) (o_we : Int32) (o_me : Int32) (o_ce : Int32) (o_wy : Int32) (o_ho : Int32) (o_ov : Int32) (o_pt : Nat → Int32) (o_as : Nat → Int32) (o_sk : Nat → Int64), (0 ≤ o_ln.toInt ∧ o_ln.toInt ≤ 200) ∧ (0 ≤ o_ov.toInt ∧ o_ov.toInt ≤ 1) ∧ (∀ j : Nat, (j : Int) < o_ln.toInt → 0 ≤ (o_pt j).toInt ∧ (o_pt j).toInt ≤ 1535) ∧ (u = [(a_k, (oc5 a_h a_j a_pt o_ln o_se o_lh o_br o_we o_me o_ce o_wy o_ho o_ov)), (a_h, (oc1 e_wa e_le e_st e_fo e_lc a_l a_g a_b a_s a_p a_w e_gb a_bb)), (a_g, (oc6 6 5 a_gn e_g)), (a_gn, (arI G 30 f_g)), (a_b, (oc6 5 24 a_bn e_b)), (a_bn, (arI G 120 f_b)), (a_p, (oc6 8 5 a_pn e_p)), (a_pn, (arI G 40 f_p)), (a_bb, (arJ G 24 f_bb)), (a_j, (oc2 a_as a_sk)), (a_as, (arI G 8 o_as)), (a_sk, (arJ G 50 o_sk)), (a_l, (arW G 6 f_l)), (a_pt, (arI G 200 o_pt))]))) (g5_B G (va_A [(a_k, (oc5 a_h a_j a_pt e_ln e_se e_lh e_br e_we e_me e_ce e_wy e_ho e_ov)), (a_h, (oc1 e_wa e_le e_st e_fo e_lc a_l a_g a_b a_s a_p a_w e_gb a_bb)), (a_g, (oc6 6 5 a_gn e_g)), (a_gn, (arI G 30 f_g)), (a_b, (oc6 5 24 a_bn e_b)), (a_bn, (arI G 120 f_b)), (a_p, (oc6 8 5 a_pn e_p)), (a_pn, (arI G 40 f_p)), (a_bb, (arJ G 24 f_bb)), (a_j, (oc2 a_as a_sk)), (a_as, (arI G 8 f_as)), (a_sk, (arJ G 50 f_sk)), (a_l, (arW G 6 f_l)), (a_pt, (arI G 200 f_pt))] sz)) (va_A [(a_k, (oc5 a_h a_j a_pt e_ln e_se e_lh e_br e_we e_me e_ce e_wy e_ho e_ov)), (a_h, (oc1 e_wa e_le e_st e_fo e_lc a_l a_g a_b a_s a_p a_w e_gb a_bb)), (a_g, (oc6 6 5 a_gn e_g)), (a_gn, (arI G 30 f_g)), (a_b, (oc6 5 24 a_bn e_b)), (a_bn, (arI G 120 f_b)), (a_p, (oc6 8 5 a_pn e_p)), (a_pn, (arI G 40 f_p)), (a_bb, (arJ G 24 f_bb)), (a_j, (oc2 a_as a_sk)), (a_as, (arI G 8 f_as)), (a_sk, (arJ G 50 f_sk)), (a_l, (arW G 6 f_l)), (a_pt, (arI G 200 f_pt))] sz)) 0 0 (va_A [(a_k, (oc5 a_h a_j a_pt e_ln e_se e_lh e_br e_we e_me e_ce e_wy e_ho e_ov)), (a_h, (oc1 e_wa e_le e_st e_fo e_lc a_l a_g a_b a_s a_p a_w e_gb a_bb)), (a_g, (oc6 6 5 a_gn e_g)), (a_gn, (arI G 30 f_g)), (a_b, (oc6 5 24 a_bn e_b)), (a_bn, (arI G 120 f_b)), (a_p, (oc6 8 5 a_pn e_p)), (a_pn, (arI G 40 f_p)), (a_bb, (arJ G 24 f_bb)), (a_j, (oc2 a_as a_sk)), (a_as, (arI G 8 f_as)), (a_sk, (arJ G 50 f_sk)), (a_l, (arW G 6 f_l)), (a_pt, (arI G 200 f_pt))] sz) := by
  refine Met.ofW (cc := cX5_run) (maxL := 9) (ret := none) (by decide) rfl ?_
  intro p e s m args below meth c s₁ B hml hv
  obtain ⟨rfl, hsz, hP, hK, hD0, hN, hT⟩ := hv
  have hx := B.exec
  have hb := B.bytes
  have hr := B.returns
  have hts : ∀ w ∈ tblG, w.before _ s = true := fun w h => atoms_spec (ws := (wsG yX5_run cX5_run 9 none)) B.pre w (List.mem_cons_of_mem _ h)
  have hown : s.vm.findClass RX5 = some m.cls := findClass_of_methodNamed B.named
  have hlocks := B.notSynchronized
  subst hsz
  have hD := hD0.self (sz := s.heap.size)
  generalize hAe : va_A [(a_k, (oc5 a_h a_j a_pt e_ln e_se e_lh e_br e_we e_me e_ce e_wy e_ho e_ov)), (a_h, (oc1 e_wa e_le e_st e_fo e_lc a_l a_g a_b a_s a_p a_w e_gb a_bb)), (a_g, (oc6 6 5 a_gn e_g)), (a_gn, (arI G 30 f_g)), (a_b, (oc6 5 24 a_bn e_b)), (a_bn, (arI G 120 f_b)), (a_p, (oc6 8 5 a_pn e_p)), (a_pn, (arI G 40 f_p)), (a_bb, (arJ G 24 f_bb)), (a_j, (oc2 a_as a_sk)), (a_as, (arI G 8 f_as)), (a_sk, (arJ G 50 f_sk)), (a_l, (arW G 6 f_l)), (a_pt, (arI G 200 f_pt))] s.heap.size = A at hD hT ⊢
  have hA : ∀ q : Nat, s.heap.size ≤ q → A q := fun q h => by rw [← hAe]; exact Or.inr h
  have hS : va_S A s.heap s.heap [] := va_S.rf
  have hP : va_P G.1 vwCl [(a_k, (oc5 a_h a_j a_pt e_ln e_se e_lh e_br e_we e_me e_ce e_wy e_ho e_ov)), (a_h, (oc1 e_wa e_le e_st e_fo e_lc a_l a_g a_b a_s a_p a_w e_gb a_bb)), (a_g, (oc6 6 5 a_gn e_g)), (a_gn, (arI G 30 f_g)), (a_b, (oc6 5 24 a_bn e_b)), (a_bn, (arI G 120 f_b)), (a_p, (oc6 8 5 a_pn e_p)), (a_pn, (arI G 40 f_p)), (a_bb, (arJ G 24 f_bb)), (a_j, (oc2 a_as a_sk)), (a_as, (arI G 8 f_as)), (a_sk, (arJ G 50 f_sk)), (a_l, (arW G 6 f_l)), (a_pt, (arI G 200 f_pt))] s.heap := hP
  have hl := lv_entry ([.ref a_k, .int p_c, .int p_w, .int p_h, .int p_u]) (n := 9) (Nat.le_of_ble_eq_true rfl)
  rw [lg_entry_eq]
  generalize (lg_sl ([.ref a_k, .int p_c, .int p_w, .int p_h, .int p_u]) ++ List.replicate (9 - (lg_sl ([.ref a_k, .int p_c, .int p_w, .int p_h, .int p_u])).length) Slot.unset).toArray = ls at hl ⊢
  have hl : lv_has ls 9 [(0, .ref a_k), (1, .int p_c), (2, .int p_w), (3, .int p_h), (4, .int p_u)] := hl
  refine lv_aload_n hx hb dX5_run_0 rfl (lv_at hl 0 rfl) ?_
  refine lv_iload_n hx hb dX5_run_1 rfl (lv_at hl 1 rfl) ?_
  refine va_put (D := G.1) (ci := 5) (v := .int p_c) (ty := .int) (C := RX5) (T := TX5) (N := 13) hx hb hts inG_X5 tyX5 tyX5_ok nmX5 hown hK hP hD hS 0 rfl rfl 9 (by decide) (hts _ fl_X5_26) (fun _ h9 => h9) rfl (by decide +kernel) rfl rfl (Nat.le_of_ble_eq_true rfl) dX5_run_2 (fun H locs hP hD hS => ?_)
  refine g5_rs [(a_k, (oc5 a_h a_j a_pt e_ln e_se e_lh e_br e_we e_me p_c e_wy e_ho e_ov)), (a_h, (oc1 e_wa e_le e_st e_fo e_lc a_l a_g a_b a_s a_p a_w e_gb a_bb)), (a_g, (oc6 6 5 a_gn e_g)), (a_gn, (arI G 30 f_g)), (a_b, (oc6 5 24 a_bn e_b)), (a_bn, (arI G 120 f_b)), (a_p, (oc6 8 5 a_pn e_p)), (a_pn, (arI G 40 f_p)), (a_bb, (arJ G 24 f_bb)), (a_j, (oc2 a_as a_sk)), (a_as, (arI G 8 f_as)), (a_sk, (arJ G 50 f_sk)), (a_l, (arW G 6 f_l)), (a_pt, (arI G 200 f_pt))] hP hD (fun hP hD => ?_)
  refine lv_aload_n hx hb dX5_run_5 rfl (lv_at hl 0 rfl) ?_
  refine lv_iload_n hx hb dX5_run_6 rfl (lv_at hl 2 rfl) ?_
  refine va_put (D := G.1) (ci := 5) (v := .int p_w) (ty := .int) (C := RX5) (T := TX5) (N := 13) hx hb hts inG_X5 tyX5 tyX5_ok nmX5 hown hK hP hD hS 0 rfl rfl 10 (by decide) (hts _ fl_X5_30) (fun _ h9 => h9) rfl (by decide +kernel) rfl rfl (Nat.le_of_ble_eq_true rfl) dX5_run_7 (fun H locs hP hD hS => ?_)
  refine g5_rs [(a_k, (oc5 a_h a_j a_pt e_ln e_se e_lh e_br e_we e_me p_c p_w e_ho e_ov)), (a_h, (oc1 e_wa e_le e_st e_fo e_lc a_l a_g a_b a_s a_p a_w e_gb a_bb)), (a_g, (oc6 6 5 a_gn e_g)), (a_gn, (arI G 30 f_g)), (a_b, (oc6 5 24 a_bn e_b)), (a_bn, (arI G 120 f_b)), (a_p, (oc6 8 5 a_pn e_p)), (a_pn, (arI G 40 f_p)), (a_bb, (arJ G 24 f_bb)), (a_j, (oc2 a_as a_sk)), (a_as, (arI G 8 f_as)), (a_sk, (arJ G 50 f_sk)), (a_l, (arW G 6 f_l)), (a_pt, (arI G 200 f_pt))] hP hD (fun hP hD => ?_)
  refine lv_aload_n hx hb dX5_run_10 rfl (lv_at hl 0 rfl) ?_
  refine lv_iload_n hx hb dX5_run_11 rfl (lv_at hl 3 rfl) ?_
  refine va_put (D := G.1) (ci := 5) (v := .int p_h) (ty := .int) (C := RX5) (T := TX5) (N := 13) hx hb hts inG_X5 tyX5 tyX5_ok nmX5 hown hK hP hD hS 0 rfl rfl 11 (by decide) (hts _ fl_X5_33) (fun _ h9 => h9) rfl (by decide +kernel) rfl rfl (Nat.le_of_ble_eq_true rfl) dX5_run_12 (fun H locs hP hD hS => ?_)
  refine g5_rs [(a_k, (oc5 a_h a_j a_pt e_ln e_se e_lh e_br e_we e_me p_c p_w p_h e_ov)), (a_h, (oc1 e_wa e_le e_st e_fo e_lc a_l a_g a_b a_s a_p a_w e_gb a_bb)), (a_g, (oc6 6 5 a_gn e_g)), (a_gn, (arI G 30 f_g)), (a_b, (oc6 5 24 a_bn e_b)), (a_bn, (arI G 120 f_b)), (a_p, (oc6 8 5 a_pn e_p)), (a_pn, (arI G 40 f_p)), (a_bb, (arJ G 24 f_bb)), (a_j, (oc2 a_as a_sk)), (a_as, (arI G 8 f_as)), (a_sk, (arJ G 50 f_sk)), (a_l, (arW G 6 f_l)), (a_pt, (arI G 200 f_pt))] hP hD (fun hP hD => ?_)
  refine lv_aload_n hx hb dX5_run_15 rfl (lv_at hl 0 rfl) ?_
  refine lv_iconst (v := 0) hx hb dX5_run_16 (by decide) ?_
  refine va_put (D := G.1) (ci := 5) (v := .int 0) (ty := .int) (C := RX5) (T := TX5) (N := 13) hx hb hts inG_X5 tyX5 tyX5_ok nmX5 hown hK hP hD hS 0 rfl rfl 3 (by decide) (hts _ fl_X5_36) (fun _ h9 => h9) rfl (by decide +kernel) rfl rfl (Nat.le_of_ble_eq_true rfl) dX5_run_17 (fun H locs hP hD hS => ?_)
  refine g5_rs [(a_k, (oc5 a_h a_j a_pt 0 e_se e_lh e_br e_we e_me p_c p_w p_h e_ov)), (a_h, (oc1 e_wa e_le e_st e_fo e_lc a_l a_g a_b a_s a_p a_w e_gb a_bb)), (a_g, (oc6 6 5 a_gn e_g)), (a_gn, (arI G 30 f_g)), (a_b, (oc6 5 24 a_bn e_b)), (a_bn, (arI G 120 f_b)), (a_p, (oc6 8 5 a_pn e_p)), (a_pn, (arI G 40 f_p)), (a_bb, (arJ G 24 f_bb)), (a_j, (oc2 a_as a_sk)), (a_as, (arI G 8 f_as)), (a_sk, (arJ G 50 f_sk)), (a_l, (arW G 6 f_l)), (a_pt, (arI G 200 f_pt))] hP hD (fun hP hD => ?_)
  refine lv_aload_n hx hb dX5_run_20 rfl (lv_at hl 0 rfl) ?_
  refine lv_iconst (v := (-1)) hx hb dX5_run_21 (by decide) ?_
  refine va_put (D := G.1) (ci := 5) (v := .int (-1)) (ty := .int) (C := RX5) (T := TX5) (N := 13) hx hb hts inG_X5 tyX5 tyX5_ok nmX5 hown hK hP hD hS 0 rfl rfl 4 (by decide) (hts _ fl_X5_39) (fun _ h9 => h9) rfl (by decide +kernel) rfl rfl (Nat.le_of_ble_eq_true rfl) dX5_run_22 (fun H locs hP hD hS => ?_)
  refine g5_rs [(a_k, (oc5 a_h a_j a_pt 0 (-1) e_lh e_br e_we e_me p_c p_w p_h e_ov)), (a_h, (oc1 e_wa e_le e_st e_fo e_lc a_l a_g a_b a_s a_p a_w e_gb a_bb)), (a_g, (oc6 6 5 a_gn e_g)), (a_gn, (arI G 30 f_g)), (a_b, (oc6 5 24 a_bn e_b)), (a_bn, (arI G 120 f_b)), (a_p, (oc6 8 5 a_pn e_p)), (a_pn, (arI G 40 f_p)), (a_bb, (arJ G 24 f_bb)), (a_j, (oc2 a_as a_sk)), (a_as, (arI G 8 f_as)), (a_sk, (arJ G 50 f_sk)), (a_l, (arW G 6 f_l)), (a_pt, (arI G 200 f_pt))] hP hD (fun hP hD => ?_)
  refine lv_aload_n hx hb dX5_run_25 rfl (lv_at hl 0 rfl) ?_
  refine lv_iconst (v := (-1)) hx hb dX5_run_26 (by decide) ?_
  refine va_put (D := G.1) (ci := 5) (v := .int (-1)) (ty := .int) (C := RX5) (T := TX5) (N := 13) hx hb hts inG_X5 tyX5 tyX5_ok nmX5 hown hK hP hD hS 0 rfl rfl 5 (by decide) (hts _ fl_X5_42) (fun _ h9 => h9) rfl (by decide +kernel) rfl rfl (Nat.le_of_ble_eq_true rfl) dX5_run_27 (fun H locs hP hD hS => ?_)
  refine g5_rs [(a_k, (oc5 a_h a_j a_pt 0 (-1) (-1) e_br e_we e_me p_c p_w p_h e_ov)), (a_h, (oc1 e_wa e_le e_st e_fo e_lc a_l a_g a_b a_s a_p a_w e_gb a_bb)), (a_g, (oc6 6 5 a_gn e_g)), (a_gn, (arI G 30 f_g)), (a_b, (oc6 5 24 a_bn e_b)), (a_bn, (arI G 120 f_b)), (a_p, (oc6 8 5 a_pn e_p)), (a_pn, (arI G 40 f_p)), (a_bb, (arJ G 24 f_bb)), (a_j, (oc2 a_as a_sk)), (a_as, (arI G 8 f_as)), (a_sk, (arJ G 50 f_sk)), (a_l, (arW G 6 f_l)), (a_pt, (arI G 200 f_pt))] hP hD (fun hP hD => ?_)
  refine lv_aload_n hx hb dX5_run_30 rfl (lv_at hl 0 rfl) ?_
  refine lv_ldc (v := 1000000) hx hb hown (hts _ ki_X5_45) dX5_run_31 ?_
  refine va_put (D := G.1) (ci := 5) (v := .int 1000000) (ty := .int) (C := RX5) (T := TX5) (N := 13) hx hb hts inG_X5 tyX5 tyX5_ok nmX5 hown hK hP hD hS 0 rfl rfl 6 (by decide) (hts _ fl_X5_46) (fun _ h9 => h9) rfl (by decide +kernel) rfl rfl (Nat.le_of_ble_eq_true rfl) dX5_run_33 (fun H locs hP hD hS => ?_)
  refine g5_rs [(a_k, (oc5 a_h a_j a_pt 0 (-1) (-1) 1000000 e_we e_me p_c p_w p_h e_ov)), (a_h, (oc1 e_wa e_le e_st e_fo e_lc a_l a_g a_b a_s a_p a_w e_gb a_bb)), (a_g, (oc6 6 5 a_gn e_g)), (a_gn, (arI G 30 f_g)), (a_b, (oc6 5 24 a_bn e_b)), (a_bn, (arI G 120 f_b)), (a_p, (oc6 8 5 a_pn e_p)), (a_pn, (arI G 40 f_p)), (a_bb, (arJ G 24 f_bb)), (a_j, (oc2 a_as a_sk)), (a_as, (arI G 8 f_as)), (a_sk, (arJ G 50 f_sk)), (a_l, (arW G 6 f_l)), (a_pt, (arI G 200 f_pt))] hP hD (fun hP hD => ?_)
  refine lv_aload_n hx hb dX5_run_36 rfl (lv_at hl 0 rfl) ?_
  refine lv_iconst (v := 0) hx hb dX5_run_37 (by decide) ?_
  refine va_put (D := G.1) (ci := 5) (v := .int 0) (ty := .int) (C := RX5) (T := TX5) (N := 13) hx hb hts inG_X5 tyX5 tyX5_ok nmX5 hown hK hP hD hS 0 rfl rfl 7 (by decide) (hts _ fl_X5_49) (fun _ h9 => h9) rfl (by decide +kernel) rfl rfl (Nat.le_of_ble_eq_true rfl) dX5_run_38 (fun H locs hP hD hS => ?_)
  refine g5_rs [(a_k, (oc5 a_h a_j a_pt 0 (-1) (-1) 1000000 0 e_me p_c p_w p_h e_ov)), (a_h, (oc1 e_wa e_le e_st e_fo e_lc a_l a_g a_b a_s a_p a_w e_gb a_bb)), (a_g, (oc6 6 5 a_gn e_g)), (a_gn, (arI G 30 f_g)), (a_b, (oc6 5 24 a_bn e_b)), (a_bn, (arI G 120 f_b)), (a_p, (oc6 8 5 a_pn e_p)), (a_pn, (arI G 40 f_p)), (a_bb, (arJ G 24 f_bb)), (a_j, (oc2 a_as a_sk)), (a_as, (arI G 8 f_as)), (a_sk, (arJ G 50 f_sk)), (a_l, (arW G 6 f_l)), (a_pt, (arI G 200 f_pt))] hP hD (fun hP hD => ?_)
  refine lv_aload_n hx hb dX5_run_41 rfl (lv_at hl 0 rfl) ?_
  refine lv_iload_n hx hb dX5_run_42 rfl (lv_at hl 1 rfl) ?_
  refine lv_iload_n hx hb dX5_run_43 rfl (lv_at hl 2 rfl) ?_
  refine lv_iload_n hx hb dX5_run_44 rfl (lv_at hl 3 rfl) ?_
  obtain ⟨hPc, hDc, hFc⟩ := g5_sub3 (wc := []) hP hD hS hA [] (by decide) rfl
  refine va_calli (va_runSN (As := [.int p_c, .int p_w, .int p_h]) (rest := [.ref a_k]) ⟨hx, hb, hml, hown, hts⟩ (x_isLook l G H.size p_c p_w p_h) ⟨va_cnB 3 hts gW_X11_isLook rfl rfl rfl (hN.1 _ g5_nw_X5_52) (hts _ ini_X11) hs_X11_isLook ⟨Nat.le_of_ble_eq_true rfl, Nat.le_of_ble_eq_true rfl⟩, hts _ st_X11_isLook, trivial⟩ (g5_preS hPc hK hDc hN hT hS hFc) rfl rfl hl.1 rfl (lv_room (Nat.le_of_ble_eq_true rfl)) dX5_run_45 ⟨Nat.le_of_ble_eq_true rfl, Nat.le_of_ble_eq_true rfl⟩) hS (fun q _ h => hFc q h) hFc (fun r u t H1 locs ht hvm hw hB hz1 hk1 hS => ?_)
  obtain ⟨hP1, hD1⟩ := hB
  rw [ht] at hP1
  rcases hw with ⟨i_1, rfl, rfl⟩ | ⟨rfl, rfl⟩
  ·
    have i_1 : (0 ≤ p_c.toInt ∧ p_c.toInt ≤ 63) ∧ (0 ≤ p_w.toInt ∧ p_w.toInt ≤ 3) ∧ (0 ≤ p_h.toInt ∧ p_h.toInt ≤ 23) := i_1
    have hP := g5_same hP hk1
    generalize H1 = H at hP hS ⊢
    refine lv_if_ne (tgt := 55) hx hb dX5_run_48 (by decide) (fun c_2 => ?_) (fun c_2 => ?_)
    ·
      refine lv_iconst (v := 0) hx hb dX5_run_55 (by decide) ?_
      refine va_put (D := G.1) (ci := 5) (v := .int 0) (ty := .boolean) (C := RX5) (T := TX5) (N := 13) hx hb hts inG_X5 tyX5 tyX5_ok nmX5 hown hK hP hD hS 0 rfl rfl 12 (by decide) (hts _ fl_X5_56) (fun _ h9 => h9) rfl (by decide +kernel) rfl rfl (Nat.le_of_ble_eq_true rfl) dX5_run_56 (fun H locs hP hD hS => ?_)
      refine g5_rs [(a_k, (oc5 a_h a_j a_pt 0 (-1) (-1) 1000000 0 e_me p_c p_w p_h 0)), (a_h, (oc1 e_wa e_le e_st e_fo e_lc a_l a_g a_b a_s a_p a_w e_gb a_bb)), (a_g, (oc6 6 5 a_gn e_g)), (a_gn, (arI G 30 f_g)), (a_b, (oc6 5 24 a_bn e_b)), (a_bn, (arI G 120 f_b)), (a_p, (oc6 8 5 a_pn e_p)), (a_pn, (arI G 40 f_p)), (a_bb, (arJ G 24 f_bb)), (a_j, (oc2 a_as a_sk)), (a_as, (arI G 8 f_as)), (a_sk, (arJ G 50 f_sk)), (a_l, (arW G 6 f_l)), (a_pt, (arI G 200 f_pt))] hP hD (fun hP hD => ?_)
      refine lv_aload_n hx hb dX5_run_59 rfl (lv_at hl 0 rfl) ?_
      refine va_get (D := G.1) (ci := 5) (v := .ref a_h) (C := RX5) (T := TX5) (N := 13) hx hb hts inG_X5 hown hK hP 0 rfl rfl 0 (by decide) (hts _ fl_X5_22) (fun _ h9 => h9) rfl dX5_run_60 ?_
      refine va_get (D := G.1) (ci := 1) (v := .long e_gb) (C := RX1) (T := TX1) (N := 13) hx hb hts inG_X1 hown hK hP 1 rfl rfl 11 (by decide) (hts _ fl_X5_60) (fun _ h9 => h9) rfl dX5_run_63 ?_
      refine lv_aload_n hx hb dX5_run_66 rfl (lv_at hl 0 rfl) ?_
      refine lv_iload hx hb dX5_run_67 (lv_at hl 4 rfl) ?_
      obtain ⟨hPc, hDc, hFc⟩ := g5_sub3 (wc := [(a_k, (oc5 a_h a_j a_pt 0 (-1) (-1) 1000000 0 e_me p_c p_w p_h 0)), (a_h, (oc1 e_wa e_le e_st e_fo e_lc a_l a_g a_b a_s a_p a_w e_gb a_bb)), (a_p, (oc6 8 5 a_pn e_p)), (a_pn, (arI G 40 f_p))]) hP hD hS hA [0, 1, 6, 7] (by decide) rfl
      refine va_calll (va_runV (As := [.int p_u]) (rest := [.long e_gb]) ⟨hx, hb, hml, hown, hts⟩ (k_hung l G a_k a_h a_p a_pn a_j a_pt a_l a_g a_b a_s a_w a_bb H.size e_le e_st e_fo e_lc e_p 0 (-1) (-1) 1000000 0 e_me p_c p_w p_h 0 p_u e_wa e_gb f_p h_e_p ⟨by decide, by decide⟩ (gOK_cell e_pk)) (cwV 1 hts gV_X5_66 rfl rfl rfl hv_X5_hungBoard ⟨Nat.le_of_ble_eq_true rfl, Nat.le_of_ble_eq_true rfl⟩) (g5_preV hPc hK hDc hN hT hS hFc (ci := 5) (q0 := 0) rfl rfl) rfl rfl hl.1 rfl (lv_room (Nat.le_of_ble_eq_true rfl)) dX5_run_69 ⟨Nat.le_of_ble_eq_true rfl, Nat.le_of_ble_eq_true rfl⟩) hS (fun q _ h => hFc q h) hFc (fun r u t H1 locs ht hvm hw hB hz1 hk1 hS => ?_)
      obtain ⟨hP1, hD1⟩ := hB
      rw [ht] at hP1
      obtain ⟨z4, i_3, y5, rfl⟩ := hw
      have i_3 : inT z4 f_p e_p.toInt := i_3
      obtain ⟨hP, hD⟩ := va_join (wr := [(a_g, (oc6 6 5 a_gn e_g)), (a_gn, (arI G 30 f_g)), (a_b, (oc6 5 24 a_bn e_b)), (a_bn, (arI G 120 f_b)), (a_bb, (arJ G 24 f_bb)), (a_j, (oc2 a_as a_sk)), (a_as, (arI G 8 f_as)), (a_sk, (arJ G 50 f_sk)), (a_l, (arW G 6 f_l)), (a_pt, (arI G 200 f_pt))]) hP hD [0, 1, 6, 7] [2, 3, 4, 5, 8, 9, 10, 11, 12, 13] rfl rfl (by decide) (by decide) hk1 hFc hP1 hD1
      generalize H1 = H at hP hS ⊢
      refine g5_rs [(a_g, (oc6 6 5 a_gn e_g)), (a_gn, (arI G 30 f_g)), (a_b, (oc6 5 24 a_bn e_b)), (a_bn, (arI G 120 f_b)), (a_bb, (arJ G 24 f_bb)), (a_j, (oc2 a_as a_sk)), (a_as, (arI G 8 f_as)), (a_sk, (arJ G 50 f_sk)), (a_l, (arW G 6 f_l)), (a_pt, (arI G 200 f_pt)), (a_k, (oc5 a_h a_j a_pt 0 (-1) (-1) 1000000 0 e_me p_c p_w p_h 0)), (a_h, (oc1 e_wa e_le e_st e_fo e_lc a_l a_g a_b a_s a_p a_w e_gb a_bb)), (a_p, (oc6 8 5 a_pn e_p)), (a_pn, (arI G 40 f_p))] hP hD (fun hP hD => ?_)
      refine g5_tl (v := z4) y5 ?_
      refine lv_lor hx hb dX5_run_72 ?_
      refine lv_lstore (lv' := [(5, .long (e_gb ||| z4)), (0, .ref a_k), (1, .int p_c), (2, .int p_w), (3, .int p_h), (4, .int p_u)]) hx hb dX5_run_73 hl (by decide) rfl (fun ls hl => ?_)
      refine lv_iconst (v := 0) hx hb dX5_run_75 (by decide) ?_
      refine lv_istore (lv' := [(7, .int 0), (5, .long (e_gb ||| z4)), (0, .ref a_k), (1, .int p_c), (2, .int p_w), (3, .int p_h), (4, .int p_u)]) hx hb dX5_run_76 hl (by decide) rfl (fun ls hl => ?_)
      refine g5_loop (α := (Int32) × (Int32) × (Int32) × (Int32) × (Int32) × (Int32) × (Int32) × (Int32) × (Int32) × (Int32) × (Int32) × (Nat → Int32) × (Nat → Int32) × (Nat → Int64)) (fun (q : (Int32) × (Int32) × (Int32) × (Int32) × (Int32) × (Int32) × (Int32) × (Int32) × (Int32) × (Int32) × (Int32) × (Nat → Int32) × (Nat → Int32) × (Nat → Int64)) (ls : Array Slot) (H : Heap) (locs : List Loc) => match q with | (k_i, k_ln, k_se, k_lh, k_br, k_we, k_me, k_ce, k_wy, k_ho, k_ov, k_pt, k_as, k_sk) => lv_has ls 9 [(7, .int k_i), (5, .long (e_gb ||| z4)), (0, .ref a_k), (1, .int p_c), (2, .int p_w), (3, .int p_h), (4, .int p_u)] ∧ va_P G.1 vwCl [(a_g, (oc6 6 5 a_gn e_g)), (a_gn, (arI G 30 f_g)), (a_b, (oc6 5 24 a_bn e_b)), (a_bn, (arI G 120 f_b)), (a_bb, (arJ G 24 f_bb)), (a_j, (oc2 a_as a_sk)), (a_as, (arI G 8 k_as)), (a_sk, (arJ G 50 k_sk)), (a_l, (arW G 6 f_l)), (a_pt, (arI G 200 k_pt)), (a_k, (oc5 a_h a_j a_pt k_ln k_se k_lh k_br k_we k_me k_ce k_wy k_ho k_ov)), (a_h, (oc1 e_wa e_le e_st e_fo e_lc a_l a_g a_b a_s a_p a_w e_gb a_bb)), (a_p, (oc6 8 5 a_pn e_p)), (a_pn, (arI G 40 f_p))] H ∧ va_D A [(a_g, (oc6 6 5 a_gn e_g)), (a_gn, (arI G 30 f_g)), (a_b, (oc6 5 24 a_bn e_b)), (a_bn, (arI G 120 f_b)), (a_bb, (arJ G 24 f_bb)), (a_j, (oc2 a_as a_sk)), (a_as, (arI G 8 k_as)), (a_sk, (arJ G 50 k_sk)), (a_l, (arW G 6 f_l)), (a_pt, (arI G 200 k_pt)), (a_k, (oc5 a_h a_j a_pt k_ln k_se k_lh k_br k_we k_me k_ce k_wy k_ho k_ov)), (a_h, (oc1 e_wa e_le e_st e_fo e_lc a_l a_g a_b a_s a_p a_w e_gb a_bb)), (a_p, (oc6 8 5 a_pn e_p)), (a_pn, (arI G 40 f_p))] ∧ va_S A s.heap H locs ∧ (0 ≤ k_i.toInt ∧ k_i.toInt ≤ 200) ∧ (0 ≤ k_ln.toInt ∧ k_ln.toInt ≤ 200) ∧ ((-1) ≤ k_lh.toInt ∧ k_lh.toInt ≤ 23) ∧ (0 ≤ k_br.toInt ∧ k_br.toInt ≤ 1000000) ∧ (0 ≤ k_ce.toInt ∧ k_ce.toInt ≤ 63) ∧ (0 ≤ k_wy.toInt ∧ k_wy.toInt ≤ 3) ∧ (0 ≤ k_ho.toInt ∧ k_ho.toInt ≤ 23) ∧ (0 ≤ k_ov.toInt ∧ k_ov.toInt ≤ 1) ∧ (k_ln.toInt = k_i.toInt) ∧ (∀ j : Nat, (j : Int) < k_ln.toInt → 0 ≤ (k_pt j).toInt ∧ (k_pt j).toInt ≤ 1535)) (fun (q : (Int32) × (Int32) × (Int32) × (Int32) × (Int32) × (Int32) × (Int32) × (Int32) × (Int32) × (Int32) × (Int32) × (Nat → Int32) × (Nat → Int32) × (Nat → Int64)) => match q with | (k_i, k_ln, k_se, k_lh, k_br, k_we, k_me, k_ce, k_wy, k_ho, k_ov, k_pt, k_as, k_sk) => Int.toNat (200 - k_i.toInt)) (0, 0, (-1), (-1), 1000000, 0, e_me, p_c, p_w, p_h, 0, f_pt, f_as, f_sk) ⟨lv_sub hl [0, 1, 2, 3, 4, 5, 6] rfl, hP, hD, hS, ⟨by decide, by decide⟩, ⟨by decide, by decide⟩, ⟨by decide, by decide⟩, ⟨by decide, by decide⟩, ⟨by omega, by omega⟩, ⟨by omega, by omega⟩, ⟨by omega, by omega⟩, ⟨by decide, by decide⟩, (by decide), fun j h => absurd h (by have z : (0 : Int32).toInt = 0 := (by decide); omega)⟩ ?_
      rintro ⟨k_i, k_ln, k_se, k_lh, k_br, k_we, k_me, k_ce, k_wy, k_ho, k_ov, k_pt, k_as, k_sk⟩ ls H locs ⟨hl, hP, hD, hS, i_6, i_7, i_8, i_9, i_10, i_11, i_12, i_13, i_14, i_15⟩ ih_78_16
      have hl : lv_has ls 9 [(7, .int k_i), (5, .long (e_gb ||| z4)), (0, .ref a_k), (1, .int p_c), (2, .int p_w), (3, .int p_h), (4, .int p_u)] := hl
      have i_6 : 0 ≤ k_i.toInt ∧ k_i.toInt ≤ 200 := i_6
      have i_7 : 0 ≤ k_ln.toInt ∧ k_ln.toInt ≤ 200 := i_7
      have i_8 : (-1) ≤ k_lh.toInt ∧ k_lh.toInt ≤ 23 := i_8
      have i_9 : 0 ≤ k_br.toInt ∧ k_br.toInt ≤ 1000000 := i_9
      have i_10 : 0 ≤ k_ce.toInt ∧ k_ce.toInt ≤ 63 := i_10
      have i_11 : 0 ≤ k_wy.toInt ∧ k_wy.toInt ≤ 3 := i_11
      have i_12 : 0 ≤ k_ho.toInt ∧ k_ho.toInt ≤ 23 := i_12
      have i_13 : 0 ≤ k_ov.toInt ∧ k_ov.toInt ≤ 1 := i_13
      have i_14 : k_ln.toInt = k_i.toInt := i_14
      have i_15 : ∀ j : Nat, (j : Int) < k_ln.toInt → 0 ≤ (k_pt j).toInt ∧ (k_pt j).toInt ≤ 1535 := i_15
      refine g5_rs [(a_g, (oc6 6 5 a_gn e_g)), (a_gn, (arI G 30 f_g)), (a_b, (oc6 5 24 a_bn e_b)), (a_bn, (arI G 120 f_b)), (a_bb, (arJ G 24 f_bb)), (a_j, (oc2 a_as a_sk)), (a_as, (arI G 8 k_as)), (a_sk, (arJ G 50 k_sk)), (a_l, (arW G 6 f_l)), (a_pt, (arI G 200 k_pt)), (a_k, (oc5 a_h a_j a_pt k_ln k_se k_lh k_br k_we k_me k_ce k_wy k_ho k_ov)), (a_h, (oc1 e_wa e_le e_st e_fo e_lc a_l a_g a_b a_s a_p a_w e_gb a_bb)), (a_p, (oc6 8 5 a_pn e_p)), (a_pn, (arI G 40 f_p))] hP hD (fun hP hD => ?_)
      refine lv_iload hx hb dX5_run_78 (lv_at hl 0 rfl) ?_
      refine lv_sipush (v := 200) hx hb dX5_run_80 (by decide) ?_
      refine lv_icmp_ge (tgt := 227) hx hb dX5_run_83 (by decide) (fun c_17 => ?_) (fun c_17 => ?_)
      ·
        have i_17 : k_i.toInt ≥ 200 := by have z := g5_ge (a := k_i.toInt) (b := 200) (by rfl) (by decide) c_17; omega
        exact W.vret hx hb hr (fun t ht hW => ⟨⟨[(a_k, (oc5 a_h a_j a_pt k_ln k_se k_lh k_br k_we k_me k_ce k_wy k_ho k_ov)), (a_h, (oc1 e_wa e_le e_st e_fo e_lc a_l a_g a_b a_s a_p a_w e_gb a_bb)), (a_g, (oc6 6 5 a_gn e_g)), (a_gn, (arI G 30 f_g)), (a_b, (oc6 5 24 a_bn e_b)), (a_bn, (arI G 120 f_b)), (a_p, (oc6 8 5 a_pn e_p)), (a_pn, (arI G 40 f_p)), (a_bb, (arJ G 24 f_bb)), (a_j, (oc2 a_as a_sk)), (a_as, (arI G 8 k_as)), (a_sk, (arJ G 50 k_sk)), (a_l, (arW G 6 f_l)), (a_pt, (arI G 200 k_pt))], rfl, ⟨k_ln, k_se, k_lh, k_br, k_we, k_me, k_ce, k_wy, k_ho, k_ov, k_pt, k_as, k_sk, i_7, i_13, i_15, rfl⟩, by rw [ht]; exact hP.sub [10, 11, 0, 1, 2, 3, 12, 13, 4, 5, 6, 7, 8, 9] rfl, hD.sub [10, 11, 0, 1, 2, 3, 12, 13, 4, 5, 6, 7, 8, 9] (by decide) rfl⟩, hS.F ht⟩) hS.2.2 dX5_run_227
      ·
        have i_17 : k_i.toInt < 200 := by have z := g5_geN (a := k_i.toInt) (b := 200) (by rfl) (by decide) c_17; omega
        refine lv_aload_n hx hb dX5_run_86 rfl (lv_at hl 2 rfl) ?_
        refine va_get (D := G.1) (ci := 5) (v := .int k_ov) (C := RX5) (T := TX5) (N := 13) hx hb hts inG_X5 hown hK hP 10 rfl rfl 12 (by decide) (hts _ fl_X5_56) (fun _ h9 => h9) rfl dX5_run_87 ?_
        refine lv_if_ne (tgt := 227) hx hb dX5_run_90 (by decide) (fun c_18 => ?_) (fun c_18 => ?_)
        ·
          have n_18 : gNe (k_ov.toInt) (0) := by have z := g5_ne (a := k_ov.toInt) (b := 0) (by rfl) (by decide) c_18; unfold gNe; omega
          have i_18 : k_ov.toInt ≥ 1 := by have z := g5_ne (a := k_ov.toInt) (b := 0) (by rfl) (by decide) c_18; omega
          exact W.vret hx hb hr (fun t ht hW => ⟨⟨[(a_k, (oc5 a_h a_j a_pt k_ln k_se k_lh k_br k_we k_me k_ce k_wy k_ho k_ov)), (a_h, (oc1 e_wa e_le e_st e_fo e_lc a_l a_g a_b a_s a_p a_w e_gb a_bb)), (a_g, (oc6 6 5 a_gn e_g)), (a_gn, (arI G 30 f_g)), (a_b, (oc6 5 24 a_bn e_b)), (a_bn, (arI G 120 f_b)), (a_p, (oc6 8 5 a_pn e_p)), (a_pn, (arI G 40 f_p)), (a_bb, (arJ G 24 f_bb)), (a_j, (oc2 a_as a_sk)), (a_as, (arI G 8 k_as)), (a_sk, (arJ G 50 k_sk)), (a_l, (arW G 6 f_l)), (a_pt, (arI G 200 k_pt))], rfl, ⟨k_ln, k_se, k_lh, k_br, k_we, k_me, k_ce, k_wy, k_ho, k_ov, k_pt, k_as, k_sk, i_7, i_13, i_15, rfl⟩, by rw [ht]; exact hP.sub [10, 11, 0, 1, 2, 3, 12, 13, 4, 5, 6, 7, 8, 9] rfl, hD.sub [10, 11, 0, 1, 2, 3, 12, 13, 4, 5, 6, 7, 8, 9] (by decide) rfl⟩, hS.F ht⟩) hS.2.2 dX5_run_227
        ·
          have i_18 : k_ov.toInt = 0 := by have z := g5_neN (a := k_ov.toInt) (b := 0) (by rfl) (by decide) c_18; omega
          refine lv_aload_n hx hb dX5_run_93 rfl (lv_at hl 2 rfl) ?_
          refine va_get (D := G.1) (ci := 5) (v := .int k_ce) (C := RX5) (T := TX5) (N := 13) hx hb hts inG_X5 hown hK hP 10 rfl rfl 9 (by decide) (hts _ fl_X5_26) (fun _ h9 => h9) rfl dX5_run_94 ?_
          refine lv_aload_n hx hb dX5_run_97 rfl (lv_at hl 2 rfl) ?_
          refine va_get (D := G.1) (ci := 5) (v := .int k_wy) (C := RX5) (T := TX5) (N := 13) hx hb hts inG_X5 hown hK hP 10 rfl rfl 10 (by decide) (hts _ fl_X5_30) (fun _ h9 => h9) rfl dX5_run_98 ?_
          obtain ⟨hPc, hDc, hFc⟩ := g5_sub3 (wc := []) hP hD hS hA [] (by decide) rfl
          refine va_calli (va_runSN (As := [.int k_ce, .int k_wy]) (rest := []) ⟨hx, hb, hml, hown, hts⟩ (k_beside l G H.size k_ce k_wy i_10) ⟨va_cnB 2 hts gW_X11_beside rfl rfl rfl (hN.1 _ g5_nw_X5_70) (hts _ ini_X11) hs_X11_beside ⟨Nat.le_of_ble_eq_true rfl, Nat.le_of_ble_eq_true rfl⟩, hts _ st_X11_beside, trivial⟩ (g5_preS hPc hK hDc hN hT hS hFc) rfl rfl hl.1 rfl (lv_room (Nat.le_of_ble_eq_true rfl)) dX5_run_101 ⟨Nat.le_of_ble_eq_true rfl, Nat.le_of_ble_eq_true rfl⟩) hS (fun q _ h => hFc q h) hFc (fun r u t H1 locs ht hvm hw hB hz1 hk1 hS => ?_)
          obtain ⟨hP1, hD1⟩ := hB
          rw [ht] at hP1
          obtain ⟨z21, i_19, i_20, y22, rfl⟩ := hw
          have i_19 : z21.toInt = bs k_ce.toInt k_wy.toInt := i_19
          have i_20 : -1 ≤ z21.toInt ∧ z21.toInt ≤ 63 := i_20
          have hP := g5_same hP hk1
          generalize H1 = H at hP hS ⊢
          refine g5_ti (v := z21) y22 ?_
          refine lv_istore (lv' := [(8, .int z21), (7, .int k_i), (5, .long (e_gb ||| z4)), (0, .ref a_k), (1, .int p_c), (2, .int p_w), (3, .int p_h), (4, .int p_u)]) hx hb dX5_run_104 hl (by decide) rfl (fun ls hl => ?_)
          refine lv_iload hx hb dX5_run_106 (lv_at hl 0 rfl) ?_
          refine lv_iconst (v := (-1)) hx hb dX5_run_108 (by decide) ?_
          refine lv_icmp_eq (tgt := 127) hx hb dX5_run_109 (by decide) (fun c_23 => ?_) (fun c_23 => ?_)
          ·
            have i_23 : z21.toInt = (-1) := by have z := g5_eq (a := z21.toInt) (b := (-1)) (by rfl) (by decide) c_23; omega
            exact W.vret hx hb hr (fun t ht hW => ⟨⟨[(a_k, (oc5 a_h a_j a_pt k_ln k_se k_lh k_br k_we k_me k_ce k_wy k_ho k_ov)), (a_h, (oc1 e_wa e_le e_st e_fo e_lc a_l a_g a_b a_s a_p a_w e_gb a_bb)), (a_g, (oc6 6 5 a_gn e_g)), (a_gn, (arI G 30 f_g)), (a_b, (oc6 5 24 a_bn e_b)), (a_bn, (arI G 120 f_b)), (a_p, (oc6 8 5 a_pn e_p)), (a_pn, (arI G 40 f_p)), (a_bb, (arJ G 24 f_bb)), (a_j, (oc2 a_as a_sk)), (a_as, (arI G 8 k_as)), (a_sk, (arJ G 50 k_sk)), (a_l, (arW G 6 f_l)), (a_pt, (arI G 200 k_pt))], rfl, ⟨k_ln, k_se, k_lh, k_br, k_we, k_me, k_ce, k_wy, k_ho, k_ov, k_pt, k_as, k_sk, i_7, i_13, i_15, rfl⟩, by rw [ht]; exact hP.sub [10, 11, 0, 1, 2, 3, 12, 13, 4, 5, 6, 7, 8, 9] rfl, hD.sub [10, 11, 0, 1, 2, 3, 12, 13, 4, 5, 6, 7, 8, 9] (by decide) rfl⟩, hS.F ht⟩) hS.2.2 dX5_run_127
          ·
            have n_23 : gNe (z21.toInt) ((-1)) := by have z := g5_eqN (a := z21.toInt) (b := (-1)) (by rfl) (by decide) c_23; unfold gNe; omega
            have i_23 : z21.toInt ≥ 0 := by have z := g5_eqN (a := z21.toInt) (b := (-1)) (by rfl) (by decide) c_23; omega
            refine lv_aload_n hx hb dX5_run_112 rfl (lv_at hl 3 rfl) ?_
            refine va_get (D := G.1) (ci := 5) (v := .ref a_h) (C := RX5) (T := TX5) (N := 13) hx hb hts inG_X5 hown hK hP 10 rfl rfl 0 (by decide) (hts _ fl_X5_22) (fun _ h9 => h9) rfl dX5_run_113 ?_
            refine va_get (D := G.1) (ci := 1) (v := .long e_wa) (C := RX1) (T := TX1) (N := 13) hx hb hts inG_X1 hown hK hP 11 rfl rfl 0 (by decide) (hts _ fl_X5_74) (fun _ h9 => h9) rfl dX5_run_116 ?_
            refine lv_iload hx hb dX5_run_119 (lv_at hl 0 rfl) ?_
            obtain ⟨hPc, hDc, hFc⟩ := g5_sub3 (wc := []) hP hD hS hA [] (by decide) rfl
            refine va_calli (va_runSN (As := [.long e_wa, .int z21]) (rest := []) ⟨hx, hb, hml, hown, hts⟩ (k_isOn l G H.size z21 e_wa ⟨by omega, by omega⟩) ⟨va_cnB 2 hts gW_X11_isOn rfl rfl rfl (hN.1 _ g5_nw_X5_77) (hts _ ini_X11) hs_X11_isOn ⟨Nat.le_of_ble_eq_true rfl, Nat.le_of_ble_eq_true rfl⟩, hts _ st_X11_isOn, trivial⟩ (g5_preS hPc hK hDc hN hT hS hFc) rfl rfl hl.1 rfl (lv_room (Nat.le_of_ble_eq_true rfl)) dX5_run_121 ⟨Nat.le_of_ble_eq_true rfl, Nat.le_of_ble_eq_true rfl⟩) hS (fun q _ h => hFc q h) hFc (fun r u t H1 locs ht hvm hw hB hz1 hk1 hS => ?_)
            obtain ⟨hP1, hD1⟩ := hB
            rw [ht] at hP1
            rcases hw with ⟨i_24, rfl, rfl⟩ | ⟨i_25, rfl, rfl⟩
            ·
              have i_24 : onB e_wa z21.toInt = false := i_24
              have hP := g5_same hP hk1
              generalize H1 = H at hP hS ⊢
              refine lv_if_eq (tgt := 128) hx hb dX5_run_124 (by decide) (fun c_26 => ?_) (fun c_26 => ?_)
              ·
                refine lv_aload_n hx hb dX5_run_128 rfl (lv_at hl 3 rfl) ?_
                refine lv_iload hx hb dX5_run_129 (lv_at hl 0 rfl) ?_
                refine va_put (D := G.1) (ci := 5) (v := .int z21) (ty := .int) (C := RX5) (T := TX5) (N := 13) hx hb hts inG_X5 tyX5 tyX5_ok nmX5 hown hK hP hD hS 10 rfl rfl 9 (by decide) (hts _ fl_X5_26) (fun _ h9 => h9) rfl (by decide +kernel) rfl rfl (Nat.le_of_ble_eq_true rfl) dX5_run_131 (fun H locs hP hD hS => ?_)
                refine g5_rs [(a_g, (oc6 6 5 a_gn e_g)), (a_gn, (arI G 30 f_g)), (a_b, (oc6 5 24 a_bn e_b)), (a_bn, (arI G 120 f_b)), (a_bb, (arJ G 24 f_bb)), (a_j, (oc2 a_as a_sk)), (a_as, (arI G 8 k_as)), (a_sk, (arJ G 50 k_sk)), (a_l, (arW G 6 f_l)), (a_pt, (arI G 200 k_pt)), (a_k, (oc5 a_h a_j a_pt k_ln k_se k_lh k_br k_we k_me z21 k_wy k_ho k_ov)), (a_h, (oc1 e_wa e_le e_st e_fo e_lc a_l a_g a_b a_s a_p a_w e_gb a_bb)), (a_p, (oc6 8 5 a_pn e_p)), (a_pn, (arI G 40 f_p))] hP hD (fun hP hD => ?_)
                refine lv_aload_n hx hb dX5_run_134 rfl (lv_at hl 3 rfl) ?_
                refine lv_aload_n hx hb dX5_run_135 rfl (lv_at hl 3 rfl) ?_
                refine va_get (D := G.1) (ci := 5) (v := .int k_ho) (C := RX5) (T := TX5) (N := 13) hx hb hts inG_X5 hown hK hP 10 rfl rfl 11 (by decide) (hts _ fl_X5_33) (fun _ h9 => h9) rfl dX5_run_136 ?_
                refine va_put (D := G.1) (ci := 5) (v := .int k_ho) (ty := .int) (C := RX5) (T := TX5) (N := 13) hx hb hts inG_X5 tyX5 tyX5_ok nmX5 hown hK hP hD hS 10 rfl rfl 5 (by decide) (hts _ fl_X5_42) (fun _ h9 => h9) rfl (by decide +kernel) rfl rfl (Nat.le_of_ble_eq_true rfl) dX5_run_139 (fun H locs hP hD hS => ?_)
                refine g5_rs [(a_g, (oc6 6 5 a_gn e_g)), (a_gn, (arI G 30 f_g)), (a_b, (oc6 5 24 a_bn e_b)), (a_bn, (arI G 120 f_b)), (a_bb, (arJ G 24 f_bb)), (a_j, (oc2 a_as a_sk)), (a_as, (arI G 8 k_as)), (a_sk, (arJ G 50 k_sk)), (a_l, (arW G 6 f_l)), (a_pt, (arI G 200 k_pt)), (a_k, (oc5 a_h a_j a_pt k_ln k_se k_ho k_br k_we k_me z21 k_wy k_ho k_ov)), (a_h, (oc1 e_wa e_le e_st e_fo e_lc a_l a_g a_b a_s a_p a_w e_gb a_bb)), (a_p, (oc6 8 5 a_pn e_p)), (a_pn, (arI G 40 f_p))] hP hD (fun hP hD => ?_)
                refine lv_aload_n hx hb dX5_run_142 rfl (lv_at hl 3 rfl) ?_
                refine va_get (D := G.1) (ci := 5) (v := .ref a_pt) (C := RX5) (T := TX5) (N := 13) hx hb hts inG_X5 hown hK hP 10 rfl rfl 2 (by decide) (hts _ fl_X5_18) (fun _ h9 => h9) rfl dX5_run_143 ?_
                refine lv_iload hx hb dX5_run_146 (lv_at hl 1 rfl) ?_
                refine lv_aload_n hx hb dX5_run_148 rfl (lv_at hl 3 rfl) ?_
                refine va_get (D := G.1) (ci := 5) (v := .int k_ho) (C := RX5) (T := TX5) (N := 13) hx hb hts inG_X5 hown hK hP 10 rfl rfl 11 (by decide) (hts _ fl_X5_33) (fun _ h9 => h9) rfl dX5_run_149 ?_
                refine lv_bipush (v := 64) hx hb dX5_run_152 (by decide) ?_
                refine lv_imul hx hb dX5_run_154 ?_
                have t_27 : (k_ho * 64).toInt = k_ho.toInt * 64 := g5_imul (a := k_ho.toInt) (b := 64) (by rfl) (by decide) (by omega) (by omega)
                refine lv_aload_n hx hb dX5_run_155 rfl (lv_at hl 3 rfl) ?_
                refine va_get (D := G.1) (ci := 5) (v := .int z21) (C := RX5) (T := TX5) (N := 13) hx hb hts inG_X5 hown hK hP 10 rfl rfl 9 (by decide) (hts _ fl_X5_26) (fun _ h9 => h9) rfl dX5_run_156 ?_
                refine lv_iadd hx hb dX5_run_159 ?_
                have t_28 : ((k_ho * 64) + z21).toInt = (k_ho * 64).toInt + z21.toInt := g5_iadd (a := (k_ho * 64).toInt) (b := z21.toInt) (by rfl) (by rfl) (by omega) (by omega)
                refine va_iast hx hb hK hP hD hS 9 0 rfl rfl (i := k_i) (x := ((k_ho * 64) + z21)) (vp_in_iff.mpr ⟨by omega, by omega⟩) dX5_run_160 (fun H locs hP hD hS => ?_)
                refine g5_rs [(a_g, (oc6 6 5 a_gn e_g)), (a_gn, (arI G 30 f_g)), (a_b, (oc6 5 24 a_bn e_b)), (a_bn, (arI G 120 f_b)), (a_bb, (arJ G 24 f_bb)), (a_j, (oc2 a_as a_sk)), (a_as, (arI G 8 k_as)), (a_sk, (arJ G 50 k_sk)), (a_l, (arW G 6 f_l)), (a_pt, (arI G 200 (upd k_pt k_i.toNatClampNeg ((k_ho * 64) + z21)))), (a_k, (oc5 a_h a_j a_pt k_ln k_se k_ho k_br k_we k_me z21 k_wy k_ho k_ov)), (a_h, (oc1 e_wa e_le e_st e_fo e_lc a_l a_g a_b a_s a_p a_w e_gb a_bb)), (a_p, (oc6 8 5 a_pn e_p)), (a_pn, (arI G 40 f_p))] hP hD (fun hP hD => ?_)
                refine lv_aload_n hx hb dX5_run_161 rfl (lv_at hl 3 rfl) ?_
                refine lv_iload hx hb dX5_run_162 (lv_at hl 1 rfl) ?_
                refine lv_iconst (v := 1) hx hb dX5_run_164 (by decide) ?_
                refine lv_iadd hx hb dX5_run_165 ?_
                have t_29 : (k_i + 1).toInt = k_i.toInt + 1 := g5_iadd (a := k_i.toInt) (b := 1) (by rfl) (by decide) (by omega) (by omega)
                refine va_put (D := G.1) (ci := 5) (v := .int (k_i + 1)) (ty := .int) (C := RX5) (T := TX5) (N := 13) hx hb hts inG_X5 tyX5 tyX5_ok nmX5 hown hK hP hD hS 10 rfl rfl 3 (by decide) (hts _ fl_X5_36) (fun _ h9 => h9) rfl (by decide +kernel) rfl rfl (Nat.le_of_ble_eq_true rfl) dX5_run_166 (fun H locs hP hD hS => ?_)
                refine g5_rs [(a_g, (oc6 6 5 a_gn e_g)), (a_gn, (arI G 30 f_g)), (a_b, (oc6 5 24 a_bn e_b)), (a_bn, (arI G 120 f_b)), (a_bb, (arJ G 24 f_bb)), (a_j, (oc2 a_as a_sk)), (a_as, (arI G 8 k_as)), (a_sk, (arJ G 50 k_sk)), (a_l, (arW G 6 f_l)), (a_pt, (arI G 200 (upd k_pt k_i.toNatClampNeg ((k_ho * 64) + z21)))), (a_k, (oc5 a_h a_j a_pt (k_i + 1) k_se k_ho k_br k_we k_me z21 k_wy k_ho k_ov)), (a_h, (oc1 e_wa e_le e_st e_fo e_lc a_l a_g a_b a_s a_p a_w e_gb a_bb)), (a_p, (oc6 8 5 a_pn e_p)), (a_pn, (arI G 40 f_p))] hP hD (fun hP hD => ?_)
                refine lv_aload_n hx hb dX5_run_169 rfl (lv_at hl 3 rfl) ?_
                refine va_get (D := G.1) (ci := 5) (v := .ref a_h) (C := RX5) (T := TX5) (N := 13) hx hb hts inG_X5 hown hK hP 10 rfl rfl 0 (by decide) (hts _ fl_X5_22) (fun _ h9 => h9) rfl dX5_run_170 ?_
                refine va_get (D := G.1) (ci := 1) (v := .ref a_bb) (C := RX1) (T := TX1) (N := 13) hx hb hts inG_X1 hown hK hP 11 rfl rfl 12 (by decide) (hts _ fl_X5_81) (fun _ h9 => h9) rfl dX5_run_173 ?_
                refine lv_aload_n hx hb dX5_run_176 rfl (lv_at hl 3 rfl) ?_
                refine va_get (D := G.1) (ci := 5) (v := .int k_ho) (C := RX5) (T := TX5) (N := 13) hx hb hts inG_X5 hown hK hP 10 rfl rfl 11 (by decide) (hts _ fl_X5_33) (fun _ h9 => h9) rfl dX5_run_177 ?_
                refine va_lald hx hb hK hP 4 1 rfl rfl (i := k_ho) (vp_in_iff.mpr ⟨by omega, by omega⟩) dX5_run_180 ?_
                refine lv_lload hx hb dX5_run_181 (lv_at hl 2 rfl) ?_
                refine lv_lor hx hb dX5_run_183 ?_
                refine lv_aload_n hx hb dX5_run_184 rfl (lv_at hl 3 rfl) ?_
                refine va_get (D := G.1) (ci := 5) (v := .int z21) (C := RX5) (T := TX5) (N := 13) hx hb hts inG_X5 hown hK hP 10 rfl rfl 9 (by decide) (hts _ fl_X5_26) (fun _ h9 => h9) rfl dX5_run_185 ?_
                obtain ⟨hPc, hDc, hFc⟩ := g5_sub3 (wc := []) hP hD hS hA [] (by decide) rfl
                refine va_calli (va_runSN (As := [.long ((f_bb k_ho.toNatClampNeg) ||| (e_gb ||| z4)), .int z21]) (rest := []) ⟨hx, hb, hml, hown, hts⟩ (k_isOn l G H.size z21 ((f_bb k_ho.toNatClampNeg) ||| (e_gb ||| z4)) ⟨by omega, by omega⟩) ⟨va_cnB 2 hts gW_X11_isOn rfl rfl rfl (hN.1 _ g5_nw_X5_77) (hts _ ini_X11) hs_X11_isOn ⟨Nat.le_of_ble_eq_true rfl, Nat.le_of_ble_eq_true rfl⟩, hts _ st_X11_isOn, trivial⟩ (g5_preS hPc hK hDc hN hT hS hFc) rfl rfl hl.1 rfl (lv_room (Nat.le_of_ble_eq_true rfl)) dX5_run_188 ⟨Nat.le_of_ble_eq_true rfl, Nat.le_of_ble_eq_true rfl⟩) hS (fun q _ h => hFc q h) hFc (fun r u t H1 locs ht hvm hw hB hz1 hk1 hS => ?_)
                obtain ⟨hP1, hD1⟩ := hB
                rw [ht] at hP1
                rcases hw with ⟨i_30, rfl, rfl⟩ | ⟨i_31, rfl, rfl⟩
                ·
                  have i_30 : onB ((f_bb k_ho.toNatClampNeg) ||| (e_gb ||| z4)) z21.toInt = false := i_30
                  have hP := g5_same hP hk1
                  generalize H1 = H at hP hS ⊢
                  refine lv_if_eq (tgt := 221) hx hb dX5_run_191 (by decide) (fun c_32 => ?_) (fun c_32 => ?_)
                  ·
                    refine lv_iinc (v := (k_i + 1)) (lv' := [(7, .int (k_i + 1)), (8, .int z21), (5, .long (e_gb ||| z4)), (0, .ref a_k), (1, .int p_c), (2, .int p_w), (3, .int p_h), (4, .int p_u)]) hx hb dX5_run_221 hl (k := 1) rfl rfl (by decide) rfl (fun ls hl => ?_)
                    have t_33 : (k_i + 1).toInt = k_i.toInt + 1 := g5_iadd (a := k_i.toInt) (b := 1) rfl (by decide) (by omega) (by omega)
                    refine lv_goto (tgt := 78) hx hb dX5_run_224 (by decide) ?_
                    exact ih_78_16 ((k_i + 1), (k_i + 1), k_se, k_ho, k_br, k_we, k_me, z21, k_wy, k_ho, k_ov, (upd k_pt k_i.toNatClampNeg ((k_ho * 64) + z21)), k_as, k_sk) ls H locs (show Int.toNat (200 - (k_i + 1).toInt) < Int.toNat (200 - k_i.toInt) from g_up (show k_i.toInt < (k_i + 1).toInt by omega) (show k_i.toInt < 200 by omega)) ⟨lv_sub hl [0, 2, 3, 4, 5, 6, 7] rfl, hP, hD, hS, ⟨by omega, by omega⟩, ⟨by omega, by omega⟩, ⟨by omega, by omega⟩, i_9, ⟨by omega, by omega⟩, i_11, i_12, i_13, by omega, g_rows (k := k_i) (fun j hj => i_15 j (by omega)) (by omega) (by omega) (by omega)⟩
                  ·
                    exact absurd c_32 (by decide)
                ·
                  have i_31 : onB ((f_bb k_ho.toNatClampNeg) ||| (e_gb ||| z4)) z21.toInt = true := i_31
                  have hP := g5_same hP hk1
                  generalize H1 = H at hP hS ⊢
                  refine lv_if_eq (tgt := 221) hx hb dX5_run_191 (by decide) (fun c_34 => ?_) (fun c_34 => ?_)
                  ·
                    exact absurd c_34 (by decide)
                  ·
                    refine lv_aload_n hx hb dX5_run_194 rfl (lv_at hl 3 rfl) ?_
                    obtain ⟨hPc, hDc, hFc⟩ := g5_sub3 (wc := [(a_k, (oc5 a_h a_j a_pt (k_i + 1) k_se k_ho k_br k_we k_me z21 k_wy k_ho k_ov)), (a_h, (oc1 e_wa e_le e_st e_fo e_lc a_l a_g a_b a_s a_p a_w e_gb a_bb)), (a_b, (oc6 5 24 a_bn e_b)), (a_bn, (arI G 120 f_b)), (a_j, (oc2 a_as a_sk)), (a_as, (arI G 8 k_as)), (a_sk, (arJ G 50 k_sk)), (a_l, (arW G 6 f_l))]) hP hD hS hA [10, 11, 2, 3, 5, 6, 7, 8] (by decide) rfl
                    refine va_callv (va_runV (As := []) (rest := []) ⟨hx, hb, hml, hown, hts⟩ (k_meetBodiesN l G a_k a_h a_b a_bn a_j a_as a_sk a_l a_pt a_g a_s a_p a_w a_bb H.size (k_i + 1) k_se k_ho k_br k_we k_me z21 k_wy k_ho k_ov e_le e_st e_fo e_lc e_b e_wa e_gb f_b k_as k_sk f_l i_9 ⟨by omega, by omega⟩ i_11 i_12 i_13 h_e_b (e_f)) (cwV 0 hts gV_X5_85 rfl rfl rfl hv_X5_meetBodies ⟨Nat.le_of_ble_eq_true rfl, Nat.le_of_ble_eq_true rfl⟩) (g5_preV hPc hK hDc hN hT hS hFc (ci := 5) (q0 := 0) rfl rfl) rfl rfl hl.1 rfl (lv_room (Nat.le_of_ble_eq_true rfl)) dX5_run_195 ⟨Nat.le_of_ble_eq_true rfl, Nat.le_of_ble_eq_true rfl⟩) hS (fun q _ h => hFc q h) hFc (fun u t H1 locs ht hvm hw hB hz1 hk1 hS => ?_)
                    obtain ⟨hP1, hD1⟩ := hB
                    rw [ht] at hP1
                    obtain ⟨z36, z37, z38, z39, i_35, rfl⟩ := hw
                    have i_35 : 0 ≤ z37.toInt ∧ z37.toInt ≤ 1 := i_35
                    obtain ⟨hP, hD⟩ := va_join (wr := [(a_g, (oc6 6 5 a_gn e_g)), (a_gn, (arI G 30 f_g)), (a_bb, (arJ G 24 f_bb)), (a_pt, (arI G 200 (upd k_pt k_i.toNatClampNeg ((k_ho * 64) + z21)))), (a_p, (oc6 8 5 a_pn e_p)), (a_pn, (arI G 40 f_p))]) hP hD [10, 11, 2, 3, 5, 6, 7, 8] [0, 1, 4, 9, 12, 13] rfl rfl (by decide) (by decide) hk1 hFc hP1 hD1
                    generalize H1 = H at hP hS ⊢
                    refine g5_rs [(a_g, (oc6 6 5 a_gn e_g)), (a_gn, (arI G 30 f_g)), (a_bb, (arJ G 24 f_bb)), (a_pt, (arI G 200 (upd k_pt k_i.toNatClampNeg ((k_ho * 64) + z21)))), (a_p, (oc6 8 5 a_pn e_p)), (a_pn, (arI G 40 f_p)), (a_k, (oc5 a_h a_j a_pt (k_i + 1) z36 k_ho k_br k_we k_me z21 k_wy k_ho z37)), (a_h, (oc1 e_wa e_le e_st e_fo e_lc a_l a_g a_b a_s a_p a_w e_gb a_bb)), (a_b, (oc6 5 24 a_bn e_b)), (a_bn, (arI G 120 f_b)), (a_j, (oc2 a_as a_sk)), (a_as, (arI G 8 z38)), (a_sk, (arJ G 50 z39)), (a_l, (arW G 6 f_l))] hP hD (fun hP hD => ?_)
                    refine lv_aload_n hx hb dX5_run_198 rfl (lv_at hl 3 rfl) ?_
                    refine va_get (D := G.1) (ci := 5) (v := .int z37) (C := RX5) (T := TX5) (N := 13) hx hb hts inG_X5 hown hK hP 6 rfl rfl 12 (by decide) (hts _ fl_X5_56) (fun _ h9 => h9) rfl dX5_run_199 ?_
                    refine lv_if_ne (tgt := 221) hx hb dX5_run_202 (by decide) (fun c_40 => ?_) (fun c_40 => ?_)
                    ·
                      have n_40 : gNe (z37.toInt) (0) := by have z := g5_ne (a := z37.toInt) (b := 0) (by rfl) (by decide) c_40; unfold gNe; omega
                      have i_40 : z37.toInt ≥ 1 := by have z := g5_ne (a := z37.toInt) (b := 0) (by rfl) (by decide) c_40; omega
                      refine lv_iinc (v := (k_i + 1)) (lv' := [(7, .int (k_i + 1)), (8, .int z21), (5, .long (e_gb ||| z4)), (0, .ref a_k), (1, .int p_c), (2, .int p_w), (3, .int p_h), (4, .int p_u)]) hx hb dX5_run_221 hl (k := 1) rfl rfl (by decide) rfl (fun ls hl => ?_)
                      have t_41 : (k_i + 1).toInt = k_i.toInt + 1 := g5_iadd (a := k_i.toInt) (b := 1) rfl (by decide) (by omega) (by omega)
                      refine lv_goto (tgt := 78) hx hb dX5_run_224 (by decide) ?_
                      exact ih_78_16 ((k_i + 1), (k_i + 1), z36, k_ho, k_br, k_we, k_me, z21, k_wy, k_ho, z37, (upd k_pt k_i.toNatClampNeg ((k_ho * 64) + z21)), z38, z39) ls H locs (show Int.toNat (200 - (k_i + 1).toInt) < Int.toNat (200 - k_i.toInt) from g_up (show k_i.toInt < (k_i + 1).toInt by omega) (show k_i.toInt < 200 by omega)) ⟨lv_sub hl [0, 2, 3, 4, 5, 6, 7] rfl, hP.sub [0, 1, 8, 9, 2, 10, 11, 12, 13, 3, 6, 7, 4, 5] rfl, hD.sub [0, 1, 8, 9, 2, 10, 11, 12, 13, 3, 6, 7, 4, 5] (by decide) rfl, hS, ⟨by omega, by omega⟩, ⟨by omega, by omega⟩, ⟨by omega, by omega⟩, i_9, ⟨by omega, by omega⟩, i_11, i_12, i_35, by omega, g_rows (k := k_i) (fun j hj => i_15 j (by omega)) (by omega) (by omega) (by omega)⟩
                    ·
                      have i_40 : z37.toInt = 0 := by have z := g5_neN (a := z37.toInt) (b := 0) (by rfl) (by decide) c_40; omega
                      refine lv_lload hx hb dX5_run_205 (lv_at hl 2 rfl) ?_
                      refine lv_aload_n hx hb dX5_run_207 rfl (lv_at hl 3 rfl) ?_
                      refine va_get (D := G.1) (ci := 5) (v := .int z21) (C := RX5) (T := TX5) (N := 13) hx hb hts inG_X5 hown hK hP 6 rfl rfl 9 (by decide) (hts _ fl_X5_26) (fun _ h9 => h9) rfl dX5_run_208 ?_
                      obtain ⟨hPc, hDc, hFc⟩ := g5_sub3 (wc := []) hP hD hS hA [] (by decide) rfl
                      refine va_calli (va_runSN (As := [.long (e_gb ||| z4), .int z21]) (rest := []) ⟨hx, hb, hml, hown, hts⟩ (k_isOn l G H.size z21 (e_gb ||| z4) ⟨by omega, by omega⟩) ⟨va_cnB 2 hts gW_X11_isOn rfl rfl rfl (hN.1 _ g5_nw_X5_77) (hts _ ini_X11) hs_X11_isOn ⟨Nat.le_of_ble_eq_true rfl, Nat.le_of_ble_eq_true rfl⟩, hts _ st_X11_isOn, trivial⟩ (g5_preS hPc hK hDc hN hT hS hFc) rfl rfl hl.1 rfl (lv_room (Nat.le_of_ble_eq_true rfl)) dX5_run_211 ⟨Nat.le_of_ble_eq_true rfl, Nat.le_of_ble_eq_true rfl⟩) hS (fun q _ h => hFc q h) hFc (fun r u t H1 locs ht hvm hw hB hz1 hk1 hS => ?_)
                      obtain ⟨hP1, hD1⟩ := hB
                      rw [ht] at hP1
                      rcases hw with ⟨i_42, rfl, rfl⟩ | ⟨i_43, rfl, rfl⟩
                      ·
                        have i_42 : onB (e_gb ||| z4) z21.toInt = false := i_42
                        have hP := g5_same hP hk1
                        generalize H1 = H at hP hS ⊢
                        refine lv_if_eq (tgt := 221) hx hb dX5_run_214 (by decide) (fun c_44 => ?_) (fun c_44 => ?_)
                        ·
                          refine lv_iinc (v := (k_i + 1)) (lv' := [(7, .int (k_i + 1)), (8, .int z21), (5, .long (e_gb ||| z4)), (0, .ref a_k), (1, .int p_c), (2, .int p_w), (3, .int p_h), (4, .int p_u)]) hx hb dX5_run_221 hl (k := 1) rfl rfl (by decide) rfl (fun ls hl => ?_)
                          have t_45 : (k_i + 1).toInt = k_i.toInt + 1 := g5_iadd (a := k_i.toInt) (b := 1) rfl (by decide) (by omega) (by omega)
                          refine lv_goto (tgt := 78) hx hb dX5_run_224 (by decide) ?_
                          exact ih_78_16 ((k_i + 1), (k_i + 1), z36, k_ho, k_br, k_we, k_me, z21, k_wy, k_ho, z37, (upd k_pt k_i.toNatClampNeg ((k_ho * 64) + z21)), z38, z39) ls H locs (show Int.toNat (200 - (k_i + 1).toInt) < Int.toNat (200 - k_i.toInt) from g_up (show k_i.toInt < (k_i + 1).toInt by omega) (show k_i.toInt < 200 by omega)) ⟨lv_sub hl [0, 2, 3, 4, 5, 6, 7] rfl, hP.sub [0, 1, 8, 9, 2, 10, 11, 12, 13, 3, 6, 7, 4, 5] rfl, hD.sub [0, 1, 8, 9, 2, 10, 11, 12, 13, 3, 6, 7, 4, 5] (by decide) rfl, hS, ⟨by omega, by omega⟩, ⟨by omega, by omega⟩, ⟨by omega, by omega⟩, i_9, ⟨by omega, by omega⟩, i_11, i_12, i_35, by omega, g_rows (k := k_i) (fun j hj => i_15 j (by omega)) (by omega) (by omega) (by omega)⟩
                        ·
                          exact absurd c_44 (by decide)
                      ·
                        have i_43 : onB (e_gb ||| z4) z21.toInt = true := i_43
                        have hP := g5_same hP hk1
                        generalize H1 = H at hP hS ⊢
                        refine lv_if_eq (tgt := 221) hx hb dX5_run_214 (by decide) (fun c_46 => ?_) (fun c_46 => ?_)
                        ·
                          exact absurd c_46 (by decide)
                        ·
                          have hin_47 : inR f_g e_g.toInt z21.toInt ∨ inR f_p e_p.toInt z21.toInt := g_inor e_gi i_3 (by omega) (by omega) i_43
                          refine lv_aload_n hx hb dX5_run_217 rfl (lv_at hl 3 rfl) ?_
                          obtain ⟨hPc, hDc, hFc⟩ := g5_sub3 (wc := [(a_k, (oc5 a_h a_j a_pt (k_i + 1) z36 k_ho k_br k_we k_me z21 k_wy k_ho z37)), (a_h, (oc1 e_wa e_le e_st e_fo e_lc a_l a_g a_b a_s a_p a_w e_gb a_bb)), (a_g, (oc6 6 5 a_gn e_g)), (a_gn, (arI G 30 f_g)), (a_p, (oc6 8 5 a_pn e_p)), (a_pn, (arI G 40 f_p)), (a_j, (oc2 a_as a_sk)), (a_as, (arI G 8 z38)), (a_sk, (arJ G 50 z39)), (a_l, (arW G 6 f_l))]) hP hD hS hA [6, 7, 0, 1, 4, 5, 10, 11, 12, 13] (by decide) rfl
                          refine va_callv (va_runV (As := []) (rest := []) ⟨hx, hb, hml, hown, hts⟩ (k_meetGlassN l G a_k a_h a_g a_gn a_p a_pn a_j a_as a_sk a_l a_pt a_b a_s a_w a_bb H.size (k_i + 1) z36 k_ho k_br k_we k_me z21 k_wy k_ho z37 e_le e_st e_fo e_lc e_g e_p e_wa e_gb f_g f_p z38 z39 f_l i_9 ⟨by omega, by omega⟩ i_11 i_12 i_35 h_e_g h_e_p (e_gk) (e_pk) (hin_47) (e_f)) (cwV 0 hts gV_X5_88 rfl rfl rfl hv_X5_meetGlass ⟨Nat.le_of_ble_eq_true rfl, Nat.le_of_ble_eq_true rfl⟩) (g5_preV hPc hK hDc hN hT hS hFc (ci := 5) (q0 := 0) rfl rfl) rfl rfl hl.1 rfl (lv_room (Nat.le_of_ble_eq_true rfl)) dX5_run_218 ⟨Nat.le_of_ble_eq_true rfl, Nat.le_of_ble_eq_true rfl⟩) hS (fun q _ h => hFc q h) hFc (fun u t H1 locs ht hvm hw hB hz1 hk1 hS => ?_)
                          obtain ⟨hP1, hD1⟩ := hB
                          rw [ht] at hP1
                          obtain ⟨z52, z53, z54, z55, z56, z57, z58, z59, i_48, i_49, i_50, i_51, rfl⟩ := hw
                          have i_48 : 0 ≤ z52.toInt ∧ z52.toInt ≤ 1000000 := i_48
                          have i_49 : 0 ≤ z55.toInt ∧ z55.toInt ≤ 3 := i_49
                          have i_50 : 0 ≤ z56.toInt ∧ z56.toInt ≤ 23 := i_50
                          have i_51 : 0 ≤ z57.toInt ∧ z57.toInt ≤ 1 := i_51
                          obtain ⟨hP, hD⟩ := va_join (wr := [(a_bb, (arJ G 24 f_bb)), (a_pt, (arI G 200 (upd k_pt k_i.toNatClampNeg ((k_ho * 64) + z21)))), (a_b, (oc6 5 24 a_bn e_b)), (a_bn, (arI G 120 f_b))]) hP hD [6, 7, 0, 1, 4, 5, 10, 11, 12, 13] [2, 3, 8, 9] rfl rfl (by decide) (by decide) hk1 hFc hP1 hD1
                          generalize H1 = H at hP hS ⊢
                          refine g5_rs [(a_bb, (arJ G 24 f_bb)), (a_pt, (arI G 200 (upd k_pt k_i.toNatClampNeg ((k_ho * 64) + z21)))), (a_b, (oc6 5 24 a_bn e_b)), (a_bn, (arI G 120 f_b)), (a_k, (oc5 a_h a_j a_pt (k_i + 1) z36 k_ho z52 z53 z54 z21 z55 z56 z57)), (a_h, (oc1 e_wa e_le e_st e_fo e_lc a_l a_g a_b a_s a_p a_w e_gb a_bb)), (a_g, (oc6 6 5 a_gn e_g)), (a_gn, (arI G 30 f_g)), (a_p, (oc6 8 5 a_pn e_p)), (a_pn, (arI G 40 f_p)), (a_j, (oc2 a_as a_sk)), (a_as, (arI G 8 z58)), (a_sk, (arJ G 50 z59)), (a_l, (arW G 6 f_l))] hP hD (fun hP hD => ?_)
                          refine lv_iinc (v := (k_i + 1)) (lv' := [(7, .int (k_i + 1)), (8, .int z21), (5, .long (e_gb ||| z4)), (0, .ref a_k), (1, .int p_c), (2, .int p_w), (3, .int p_h), (4, .int p_u)]) hx hb dX5_run_221 hl (k := 1) rfl rfl (by decide) rfl (fun ls hl => ?_)
                          have t_60 : (k_i + 1).toInt = k_i.toInt + 1 := g5_iadd (a := k_i.toInt) (b := 1) rfl (by decide) (by omega) (by omega)
                          refine lv_goto (tgt := 78) hx hb dX5_run_224 (by decide) ?_
                          exact ih_78_16 ((k_i + 1), (k_i + 1), z36, k_ho, z52, z53, z54, z21, z55, z56, z57, (upd k_pt k_i.toNatClampNeg ((k_ho * 64) + z21)), z58, z59) ls H locs (show Int.toNat (200 - (k_i + 1).toInt) < Int.toNat (200 - k_i.toInt) from g_up (show k_i.toInt < (k_i + 1).toInt by omega) (show k_i.toInt < 200 by omega)) ⟨lv_sub hl [0, 2, 3, 4, 5, 6, 7] rfl, hP.sub [6, 7, 2, 3, 0, 10, 11, 12, 13, 1, 4, 5, 8, 9] rfl, hD.sub [6, 7, 2, 3, 0, 10, 11, 12, 13, 1, 4, 5, 8, 9] (by decide) rfl, hS, ⟨by omega, by omega⟩, ⟨by omega, by omega⟩, ⟨by omega, by omega⟩, i_48, ⟨by omega, by omega⟩, i_49, i_50, i_51, by omega, g_rows (k := k_i) (fun j hj => i_15 j (by omega)) (by omega) (by omega) (by omega)⟩
              ·
                exact absurd c_26 (by decide)
            ·
              have i_25 : onB e_wa z21.toInt = true := i_25
              have hP := g5_same hP hk1
              generalize H1 = H at hP hS ⊢
              refine lv_if_eq (tgt := 128) hx hb dX5_run_124 (by decide) (fun c_61 => ?_) (fun c_61 => ?_)
              ·
                exact absurd c_61 (by decide)
              ·
                exact W.vret hx hb hr (fun t ht hW => ⟨⟨[(a_k, (oc5 a_h a_j a_pt k_ln k_se k_lh k_br k_we k_me k_ce k_wy k_ho k_ov)), (a_h, (oc1 e_wa e_le e_st e_fo e_lc a_l a_g a_b a_s a_p a_w e_gb a_bb)), (a_g, (oc6 6 5 a_gn e_g)), (a_gn, (arI G 30 f_g)), (a_b, (oc6 5 24 a_bn e_b)), (a_bn, (arI G 120 f_b)), (a_p, (oc6 8 5 a_pn e_p)), (a_pn, (arI G 40 f_p)), (a_bb, (arJ G 24 f_bb)), (a_j, (oc2 a_as a_sk)), (a_as, (arI G 8 k_as)), (a_sk, (arJ G 50 k_sk)), (a_l, (arW G 6 f_l)), (a_pt, (arI G 200 k_pt))], rfl, ⟨k_ln, k_se, k_lh, k_br, k_we, k_me, k_ce, k_wy, k_ho, k_ov, k_pt, k_as, k_sk, i_7, i_13, i_15, rfl⟩, by rw [ht]; exact hP.sub [10, 11, 0, 1, 2, 3, 12, 13, 4, 5, 6, 7, 8, 9] rfl, hD.sub [10, 11, 0, 1, 2, 3, 12, 13, 4, 5, 6, 7, 8, 9] (by decide) rfl⟩, hS.F ht⟩) hS.2.2 dX5_run_127
    ·
      exact absurd c_2 (by decide)
  ·
    have hP := g5_same hP hk1
    generalize H1 = H at hP hS ⊢
    refine lv_if_ne (tgt := 55) hx hb dX5_run_48 (by decide) (fun c_62 => ?_) (fun c_62 => ?_)
    ·
      exact absurd c_62 (by decide)
    ·
      refine lv_iconst (v := 1) hx hb dX5_run_51 (by decide) ?_
      refine lv_goto (tgt := 56) hx hb dX5_run_52 (by decide) ?_
      refine va_put (D := G.1) (ci := 5) (v := .int 1) (ty := .boolean) (C := RX5) (T := TX5) (N := 13) hx hb hts inG_X5 tyX5 tyX5_ok nmX5 hown hK hP hD hS 0 rfl rfl 12 (by decide) (hts _ fl_X5_56) (fun _ h9 => h9) rfl (by decide +kernel) rfl rfl (Nat.le_of_ble_eq_true rfl) dX5_run_56 (fun H locs hP hD hS => ?_)
      refine g5_rs [(a_k, (oc5 a_h a_j a_pt 0 (-1) (-1) 1000000 0 e_me p_c p_w p_h 1)), (a_h, (oc1 e_wa e_le e_st e_fo e_lc a_l a_g a_b a_s a_p a_w e_gb a_bb)), (a_g, (oc6 6 5 a_gn e_g)), (a_gn, (arI G 30 f_g)), (a_b, (oc6 5 24 a_bn e_b)), (a_bn, (arI G 120 f_b)), (a_p, (oc6 8 5 a_pn e_p)), (a_pn, (arI G 40 f_p)), (a_bb, (arJ G 24 f_bb)), (a_j, (oc2 a_as a_sk)), (a_as, (arI G 8 f_as)), (a_sk, (arJ G 50 f_sk)), (a_l, (arW G 6 f_l)), (a_pt, (arI G 200 f_pt))] hP hD (fun hP hD => ?_)
      refine lv_aload_n hx hb dX5_run_59 rfl (lv_at hl 0 rfl) ?_
      refine va_get (D := G.1) (ci := 5) (v := .ref a_h) (C := RX5) (T := TX5) (N := 13) hx hb hts inG_X5 hown hK hP 0 rfl rfl 0 (by decide) (hts _ fl_X5_22) (fun _ h9 => h9) rfl dX5_run_60 ?_
      refine va_get (D := G.1) (ci := 1) (v := .long e_gb) (C := RX1) (T := TX1) (N := 13) hx hb hts inG_X1 hown hK hP 1 rfl rfl 11 (by decide) (hts _ fl_X5_60) (fun _ h9 => h9) rfl dX5_run_63 ?_
      refine lv_aload_n hx hb dX5_run_66 rfl (lv_at hl 0 rfl) ?_
      refine lv_iload hx hb dX5_run_67 (lv_at hl 4 rfl) ?_
      obtain ⟨hPc, hDc, hFc⟩ := g5_sub3 (wc := [(a_k, (oc5 a_h a_j a_pt 0 (-1) (-1) 1000000 0 e_me p_c p_w p_h 1)), (a_h, (oc1 e_wa e_le e_st e_fo e_lc a_l a_g a_b a_s a_p a_w e_gb a_bb)), (a_p, (oc6 8 5 a_pn e_p)), (a_pn, (arI G 40 f_p))]) hP hD hS hA [0, 1, 6, 7] (by decide) rfl
      refine va_calll (va_runV (As := [.int p_u]) (rest := [.long e_gb]) ⟨hx, hb, hml, hown, hts⟩ (k_hung l G a_k a_h a_p a_pn a_j a_pt a_l a_g a_b a_s a_w a_bb H.size e_le e_st e_fo e_lc e_p 0 (-1) (-1) 1000000 0 e_me p_c p_w p_h 1 p_u e_wa e_gb f_p h_e_p ⟨by decide, by decide⟩ (gOK_cell e_pk)) (cwV 1 hts gV_X5_66 rfl rfl rfl hv_X5_hungBoard ⟨Nat.le_of_ble_eq_true rfl, Nat.le_of_ble_eq_true rfl⟩) (g5_preV hPc hK hDc hN hT hS hFc (ci := 5) (q0 := 0) rfl rfl) rfl rfl hl.1 rfl (lv_room (Nat.le_of_ble_eq_true rfl)) dX5_run_69 ⟨Nat.le_of_ble_eq_true rfl, Nat.le_of_ble_eq_true rfl⟩) hS (fun q _ h => hFc q h) hFc (fun r u t H1 locs ht hvm hw hB hz1 hk1 hS => ?_)
      obtain ⟨hP1, hD1⟩ := hB
      rw [ht] at hP1
      obtain ⟨z64, i_63, y65, rfl⟩ := hw
      have i_63 : inT z64 f_p e_p.toInt := i_63
      obtain ⟨hP, hD⟩ := va_join (wr := [(a_g, (oc6 6 5 a_gn e_g)), (a_gn, (arI G 30 f_g)), (a_b, (oc6 5 24 a_bn e_b)), (a_bn, (arI G 120 f_b)), (a_bb, (arJ G 24 f_bb)), (a_j, (oc2 a_as a_sk)), (a_as, (arI G 8 f_as)), (a_sk, (arJ G 50 f_sk)), (a_l, (arW G 6 f_l)), (a_pt, (arI G 200 f_pt))]) hP hD [0, 1, 6, 7] [2, 3, 4, 5, 8, 9, 10, 11, 12, 13] rfl rfl (by decide) (by decide) hk1 hFc hP1 hD1
      generalize H1 = H at hP hS ⊢
      refine g5_rs [(a_g, (oc6 6 5 a_gn e_g)), (a_gn, (arI G 30 f_g)), (a_b, (oc6 5 24 a_bn e_b)), (a_bn, (arI G 120 f_b)), (a_bb, (arJ G 24 f_bb)), (a_j, (oc2 a_as a_sk)), (a_as, (arI G 8 f_as)), (a_sk, (arJ G 50 f_sk)), (a_l, (arW G 6 f_l)), (a_pt, (arI G 200 f_pt)), (a_k, (oc5 a_h a_j a_pt 0 (-1) (-1) 1000000 0 e_me p_c p_w p_h 1)), (a_h, (oc1 e_wa e_le e_st e_fo e_lc a_l a_g a_b a_s a_p a_w e_gb a_bb)), (a_p, (oc6 8 5 a_pn e_p)), (a_pn, (arI G 40 f_p))] hP hD (fun hP hD => ?_)
      refine g5_tl (v := z64) y65 ?_
      refine lv_lor hx hb dX5_run_72 ?_
      refine lv_lstore (lv' := [(5, .long (e_gb ||| z64)), (0, .ref a_k), (1, .int p_c), (2, .int p_w), (3, .int p_h), (4, .int p_u)]) hx hb dX5_run_73 hl (by decide) rfl (fun ls hl => ?_)
      refine lv_iconst (v := 0) hx hb dX5_run_75 (by decide) ?_
      refine lv_istore (lv' := [(7, .int 0), (5, .long (e_gb ||| z64)), (0, .ref a_k), (1, .int p_c), (2, .int p_w), (3, .int p_h), (4, .int p_u)]) hx hb dX5_run_76 hl (by decide) rfl (fun ls hl => ?_)
      refine lv_iload hx hb dX5_run_78 (lv_at hl 0 rfl) ?_
      refine lv_sipush (v := 200) hx hb dX5_run_80 (by decide) ?_
      refine lv_icmp_ge (tgt := 227) hx hb dX5_run_83 (by decide) (fun c_66 => ?_) (fun c_66 => ?_)
      ·
        exact absurd c_66 (by decide)
      ·
        refine lv_aload_n hx hb dX5_run_86 rfl (lv_at hl 2 rfl) ?_
        refine va_get (D := G.1) (ci := 5) (v := .int 1) (C := RX5) (T := TX5) (N := 13) hx hb hts inG_X5 hown hK hP 10 rfl rfl 12 (by decide) (hts _ fl_X5_56) (fun _ h9 => h9) rfl dX5_run_87 ?_
        refine lv_if_ne (tgt := 227) hx hb dX5_run_90 (by decide) (fun c_67 => ?_) (fun c_67 => ?_)
        ·
          exact W.vret hx hb hr (fun t ht hW => ⟨⟨[(a_k, (oc5 a_h a_j a_pt 0 (-1) (-1) 1000000 0 e_me p_c p_w p_h 1)), (a_h, (oc1 e_wa e_le e_st e_fo e_lc a_l a_g a_b a_s a_p a_w e_gb a_bb)), (a_g, (oc6 6 5 a_gn e_g)), (a_gn, (arI G 30 f_g)), (a_b, (oc6 5 24 a_bn e_b)), (a_bn, (arI G 120 f_b)), (a_p, (oc6 8 5 a_pn e_p)), (a_pn, (arI G 40 f_p)), (a_bb, (arJ G 24 f_bb)), (a_j, (oc2 a_as a_sk)), (a_as, (arI G 8 f_as)), (a_sk, (arJ G 50 f_sk)), (a_l, (arW G 6 f_l)), (a_pt, (arI G 200 f_pt))], rfl, ⟨0, (-1), (-1), 1000000, 0, e_me, p_c, p_w, p_h, 1, f_pt, f_as, f_sk, ⟨by have zc_o_ln : (0 : Int32).toInt = 0 := (by decide); omega, by have zc_o_ln : (0 : Int32).toInt = 0 := (by decide); omega⟩, ⟨by have zc_o_ov : (1 : Int32).toInt = 1 := (by decide); omega, by have zc_o_ov : (1 : Int32).toInt = 1 := (by decide); omega⟩, fun j h => absurd h (by have z : (0 : Int32).toInt = 0 := (by decide); omega), rfl⟩, by rw [ht]; exact hP.sub [10, 11, 0, 1, 2, 3, 12, 13, 4, 5, 6, 7, 8, 9] rfl, hD.sub [10, 11, 0, 1, 2, 3, 12, 13, 4, 5, 6, 7, 8, 9] (by decide) rfl⟩, hS.F ht⟩) hS.2.2 dX5_run_227
        ·
          exact absurd c_67 (by decide)
set_option maxHeartbeats 4000000 in
set_option maxRecDepth 100000 in
theorem k_runL (l : Launch) (G : g5_G) (a_k a_h a_g a_gn a_b a_bn a_p a_pn a_bb a_j a_as a_sk a_l a_lo a_sr a_cd a_hd a_pt a_s a_w : Nat) (sz : Nat) (e_le : Int32) (e_st : Int32) (e_fo : Int32) (e_lc : Int32) (e_g : Int32) (e_b : Int32) (e_p : Int32) (e_cl : Int32) (e_ln : Int32) (e_se : Int32) (e_lh : Int32) (e_br : Int32) (e_we : Int32) (e_me : Int32) (e_ce : Int32) (e_wy : Int32) (e_ho : Int32) (e_ov : Int32) (p_c : Int32) (p_w : Int32) (p_h : Int32) (p_u : Int32) (e_wa : Int64) (e_gb : Int64) (f_g : Nat → Int32) (f_b : Nat → Int32) (f_p : Nat → Int32) (f_bb : Nat → Int64) (f_as : Nat → Int32) (f_sk : Nat → Int64) (f_l : Nat → Option Nat) (f_sr : Nat → Int32) (f_cd : Nat → Int32) (f_hd : Nat → Int32) (f_pt : Nat → Int32) (n_sr : Nat) (n_cd : Nat) (n_hd : Nat) (h_e_g : 0 ≤ e_g.toInt ∧ e_g.toInt ≤ 6) (h_e_b : 0 ≤ e_b.toInt ∧ e_b.toInt ≤ 5) (h_e_p : 0 ≤ e_p.toInt ∧ e_p.toInt ≤ 8) (h_e_cl : 0 ≤ e_cl.toInt ∧ e_cl.toInt ≤ 12) (h_e_ov : 0 ≤ e_ov.toInt ∧ e_ov.toInt ≤ 1) (e_gk : gOK f_g e_g.toInt) (e_pk : gOK f_p e_p.toInt) (e_gi : inT e_gb f_g e_g.toInt) (e_f : 0 ≤ e_fo.toInt ∧ e_fo.toInt < e_lc.toInt ∧ e_lc.toInt ≤ 6) (e_a : f_l e_fo.toNatClampNeg = some a_lo) (e_hn : n_cd ≤ 400) (e_hs : ∀ j : Nat, j < n_sr → 0 ≤ (f_sr j).toInt ∧ (f_sr j).toInt ≤ (n_cd : Int)) (e_hk : ∀ j : Nat, j < n_cd → (f_cd j >>> (12 &&& 31)).toInt = 1 → (f_cd j &&& 4095).toInt < 8) (e_c : (e_cl.toInt : Int) ≤ (n_hd : Int) ∧ (e_cl.toInt + 1 : Int) ≤ (n_sr : Int)) : Met l yX5_run (wsG yX5_run cX5_run 9 none) ({ frames := 13, cells := 0, slots := 0, locals := 528 }) (va_Pc [.ref a_k, .int p_c, .int p_w, .int p_h, .int p_u] (g5_P G [(a_k, (oc5 a_h a_j a_pt e_ln e_se e_lh e_br e_we e_me e_ce e_wy e_ho e_ov)), (a_h, (oc1 e_wa e_le e_st e_fo e_lc a_l a_g a_b a_s a_p a_w e_gb a_bb)), (a_g, (oc6 6 5 a_gn e_g)), (a_gn, (arI G 30 f_g)), (a_b, (oc6 5 24 a_bn e_b)), (a_bn, (arI G 120 f_b)), (a_p, (oc6 8 5 a_pn e_p)), (a_pn, (arI G 40 f_p)), (a_bb, (arJ G 24 f_bb)), (a_j, (oc2 a_as a_sk)), (a_as, (arI G 8 f_as)), (a_sk, (arJ G 50 f_sk)), (a_l, (arW G 6 f_l)), (a_lo, (oc3 e_cl a_hd a_sr a_cd)), (a_sr, (arI G n_sr f_sr)), (a_cd, (arI G n_cd f_cd)), (a_hd, (arI G n_hd f_hd)), (a_pt, (arI G 200 f_pt))] sz)) (va_Qv (fun (u : va_W) => (∃ (o_ln : Int32) (o_se : Int32) (o_lh : Int32) (o_br : Int32) (o_we : Int32) (o_me : Int32) (o_ce : Int32) (o_wy : Int32) (o_ho : Int32) (o_ov : Int32) (o_pt : Nat → Int32) (o_as : Nat → Int32) (o_sk : Nat → Int64), (0 ≤ o_ln.toInt ∧ o_ln.toInt ≤ 200) ∧ (0 ≤ o_ov.toInt ∧ o_ov.toInt ≤ 1) ∧ (∀ j : Nat, (j : Int) < o_ln.toInt → 0 ≤ (o_pt j).toInt ∧ (o_pt j).toInt ≤ 1535) ∧ (u = [(a_k, (oc5 a_h a_j a_pt o_ln o_se o_lh o_br o_we o_me o_ce o_wy o_ho o_ov)), (a_h, (oc1 e_wa e_le e_st e_fo e_lc a_l a_g a_b a_s a_p a_w e_gb a_bb)), (a_g, (oc6 6 5 a_gn e_g)), (a_gn, (arI G 30 f_g)), (a_b, (oc6 5 24 a_bn e_b)), (a_bn, (arI G 120 f_b)), (a_p, (oc6 8 5 a_pn e_p)), (a_pn, (arI G 40 f_p)), (a_bb, (arJ G 24 f_bb)), (a_j, (oc2 a_as a_sk)), (a_as, (arI G 8 o_as)), (a_sk, (arJ G 50 o_sk)), (a_l, (arW G 6 f_l)), (a_lo, (oc3 e_cl a_hd a_sr a_cd)), (a_sr, (arI G n_sr f_sr)), (a_cd, (arI G n_cd f_cd)), (a_hd, (arI G n_hd f_hd)), (a_pt, (arI G 200 o_pt))]))) (g5_B G (va_A [(a_k, (oc5 a_h a_j a_pt e_ln e_se e_lh e_br e_we e_me e_ce e_wy e_ho e_ov)), (a_h, (oc1 e_wa e_le e_st e_fo e_lc a_l a_g a_b a_s a_p a_w e_gb a_bb)), (a_g, (oc6 6 5 a_gn e_g)), (a_gn, (arI G 30 f_g)), (a_b, (oc6 5 24 a_bn e_b)), (a_bn, (arI G 120 f_b)), (a_p, (oc6 8 5 a_pn e_p)), (a_pn, (arI G 40 f_p)), (a_bb, (arJ G 24 f_bb)), (a_j, (oc2 a_as a_sk)), (a_as, (arI G 8 f_as)), (a_sk, (arJ G 50 f_sk)), (a_l, (arW G 6 f_l)), (a_lo, (oc3 e_cl a_hd a_sr a_cd)), (a_sr, (arI G n_sr f_sr)), (a_cd, (arI G n_cd f_cd)), (a_hd, (arI G n_hd f_hd)), (a_pt, (arI G 200 f_pt))] sz)) (va_A [(a_k, (oc5 a_h a_j a_pt e_ln e_se e_lh e_br e_we e_me e_ce e_wy e_ho e_ov)), (a_h, (oc1 e_wa e_le e_st e_fo e_lc a_l a_g a_b a_s a_p a_w e_gb a_bb)), (a_g, (oc6 6 5 a_gn e_g)), (a_gn, (arI G 30 f_g)), (a_b, (oc6 5 24 a_bn e_b)), (a_bn, (arI G 120 f_b)), (a_p, (oc6 8 5 a_pn e_p)), (a_pn, (arI G 40 f_p)), (a_bb, (arJ G 24 f_bb)), (a_j, (oc2 a_as a_sk)), (a_as, (arI G 8 f_as)), (a_sk, (arJ G 50 f_sk)), (a_l, (arW G 6 f_l)), (a_lo, (oc3 e_cl a_hd a_sr a_cd)), (a_sr, (arI G n_sr f_sr)), (a_cd, (arI G n_cd f_cd)), (a_hd, (arI G n_hd f_hd)), (a_pt, (arI G 200 f_pt))] sz)) 0 0 (va_A [(a_k, (oc5 a_h a_j a_pt e_ln e_se e_lh e_br e_we e_me e_ce e_wy e_ho e_ov)), (a_h, (oc1 e_wa e_le e_st e_fo e_lc a_l a_g a_b a_s a_p a_w e_gb a_bb)), (a_g, (oc6 6 5 a_gn e_g)), (a_gn, (arI G 30 f_g)), (a_b, (oc6 5 24 a_bn e_b)), (a_bn, (arI G 120 f_b)), (a_p, (oc6 8 5 a_pn e_p)), (a_pn, (arI G 40 f_p)), (a_bb, (arJ G 24 f_bb)), (a_j, (oc2 a_as a_sk)), (a_as, (arI G 8 f_as)), (a_sk, (arJ G 50 f_sk)), (a_l, (arW G 6 f_l)), (a_lo, (oc3 e_cl a_hd a_sr a_cd)), (a_sr, (arI G n_sr f_sr)), (a_cd, (arI G n_cd f_cd)), (a_hd, (arI G n_hd f_hd)), (a_pt, (arI G 200 f_pt))] sz) := by
  refine Met.ofW (cc := cX5_run) (maxL := 9) (ret := none) (by decide) rfl ?_
  intro p e s m args below meth c s₁ B hml hv
  obtain ⟨rfl, hsz, hP, hK, hD0, hN, hT⟩ := hv
  have hx := B.exec
  have hb := B.bytes
  have hr := B.returns
  have hts : ∀ w ∈ tblG, w.before _ s = true := fun w h => atoms_spec (ws := (wsG yX5_run cX5_run 9 none)) B.pre w (List.mem_cons_of_mem _ h)
  have hown : s.vm.findClass RX5 = some m.cls := findClass_of_methodNamed B.named
  have hlocks := B.notSynchronized
  subst hsz
  have hD := hD0.self (sz := s.heap.size)
  generalize hAe : va_A [(a_k, (oc5 a_h a_j a_pt e_ln e_se e_lh e_br e_we e_me e_ce e_wy e_ho e_ov)), (a_h, (oc1 e_wa e_le e_st e_fo e_lc a_l a_g a_b a_s a_p a_w e_gb a_bb)), (a_g, (oc6 6 5 a_gn e_g)), (a_gn, (arI G 30 f_g)), (a_b, (oc6 5 24 a_bn e_b)), (a_bn, (arI G 120 f_b)), (a_p, (oc6 8 5 a_pn e_p)), (a_pn, (arI G 40 f_p)), (a_bb, (arJ G 24 f_bb)), (a_j, (oc2 a_as a_sk)), (a_as, (arI G 8 f_as)), (a_sk, (arJ G 50 f_sk)), (a_l, (arW G 6 f_l)), (a_lo, (oc3 e_cl a_hd a_sr a_cd)), (a_sr, (arI G n_sr f_sr)), (a_cd, (arI G n_cd f_cd)), (a_hd, (arI G n_hd f_hd)), (a_pt, (arI G 200 f_pt))] s.heap.size = A at hD hT ⊢
  have hA : ∀ q : Nat, s.heap.size ≤ q → A q := fun q h => by rw [← hAe]; exact Or.inr h
  have hS : va_S A s.heap s.heap [] := va_S.rf
  have hP : va_P G.1 vwCl [(a_k, (oc5 a_h a_j a_pt e_ln e_se e_lh e_br e_we e_me e_ce e_wy e_ho e_ov)), (a_h, (oc1 e_wa e_le e_st e_fo e_lc a_l a_g a_b a_s a_p a_w e_gb a_bb)), (a_g, (oc6 6 5 a_gn e_g)), (a_gn, (arI G 30 f_g)), (a_b, (oc6 5 24 a_bn e_b)), (a_bn, (arI G 120 f_b)), (a_p, (oc6 8 5 a_pn e_p)), (a_pn, (arI G 40 f_p)), (a_bb, (arJ G 24 f_bb)), (a_j, (oc2 a_as a_sk)), (a_as, (arI G 8 f_as)), (a_sk, (arJ G 50 f_sk)), (a_l, (arW G 6 f_l)), (a_lo, (oc3 e_cl a_hd a_sr a_cd)), (a_sr, (arI G n_sr f_sr)), (a_cd, (arI G n_cd f_cd)), (a_hd, (arI G n_hd f_hd)), (a_pt, (arI G 200 f_pt))] s.heap := hP
  have hl := lv_entry ([.ref a_k, .int p_c, .int p_w, .int p_h, .int p_u]) (n := 9) (Nat.le_of_ble_eq_true rfl)
  rw [lg_entry_eq]
  generalize (lg_sl ([.ref a_k, .int p_c, .int p_w, .int p_h, .int p_u]) ++ List.replicate (9 - (lg_sl ([.ref a_k, .int p_c, .int p_w, .int p_h, .int p_u])).length) Slot.unset).toArray = ls at hl ⊢
  have hl : lv_has ls 9 [(0, .ref a_k), (1, .int p_c), (2, .int p_w), (3, .int p_h), (4, .int p_u)] := hl
  refine lv_aload_n hx hb dX5_run_0 rfl (lv_at hl 0 rfl) ?_
  refine lv_iload_n hx hb dX5_run_1 rfl (lv_at hl 1 rfl) ?_
  refine va_put (D := G.1) (ci := 5) (v := .int p_c) (ty := .int) (C := RX5) (T := TX5) (N := 13) hx hb hts inG_X5 tyX5 tyX5_ok nmX5 hown hK hP hD hS 0 rfl rfl 9 (by decide) (hts _ fl_X5_26) (fun _ h9 => h9) rfl (by decide +kernel) rfl rfl (Nat.le_of_ble_eq_true rfl) dX5_run_2 (fun H locs hP hD hS => ?_)
  refine g5_rs [(a_k, (oc5 a_h a_j a_pt e_ln e_se e_lh e_br e_we e_me p_c e_wy e_ho e_ov)), (a_h, (oc1 e_wa e_le e_st e_fo e_lc a_l a_g a_b a_s a_p a_w e_gb a_bb)), (a_g, (oc6 6 5 a_gn e_g)), (a_gn, (arI G 30 f_g)), (a_b, (oc6 5 24 a_bn e_b)), (a_bn, (arI G 120 f_b)), (a_p, (oc6 8 5 a_pn e_p)), (a_pn, (arI G 40 f_p)), (a_bb, (arJ G 24 f_bb)), (a_j, (oc2 a_as a_sk)), (a_as, (arI G 8 f_as)), (a_sk, (arJ G 50 f_sk)), (a_l, (arW G 6 f_l)), (a_lo, (oc3 e_cl a_hd a_sr a_cd)), (a_sr, (arI G n_sr f_sr)), (a_cd, (arI G n_cd f_cd)), (a_hd, (arI G n_hd f_hd)), (a_pt, (arI G 200 f_pt))] hP hD (fun hP hD => ?_)
  refine lv_aload_n hx hb dX5_run_5 rfl (lv_at hl 0 rfl) ?_
  refine lv_iload_n hx hb dX5_run_6 rfl (lv_at hl 2 rfl) ?_
  refine va_put (D := G.1) (ci := 5) (v := .int p_w) (ty := .int) (C := RX5) (T := TX5) (N := 13) hx hb hts inG_X5 tyX5 tyX5_ok nmX5 hown hK hP hD hS 0 rfl rfl 10 (by decide) (hts _ fl_X5_30) (fun _ h9 => h9) rfl (by decide +kernel) rfl rfl (Nat.le_of_ble_eq_true rfl) dX5_run_7 (fun H locs hP hD hS => ?_)
  refine g5_rs [(a_k, (oc5 a_h a_j a_pt e_ln e_se e_lh e_br e_we e_me p_c p_w e_ho e_ov)), (a_h, (oc1 e_wa e_le e_st e_fo e_lc a_l a_g a_b a_s a_p a_w e_gb a_bb)), (a_g, (oc6 6 5 a_gn e_g)), (a_gn, (arI G 30 f_g)), (a_b, (oc6 5 24 a_bn e_b)), (a_bn, (arI G 120 f_b)), (a_p, (oc6 8 5 a_pn e_p)), (a_pn, (arI G 40 f_p)), (a_bb, (arJ G 24 f_bb)), (a_j, (oc2 a_as a_sk)), (a_as, (arI G 8 f_as)), (a_sk, (arJ G 50 f_sk)), (a_l, (arW G 6 f_l)), (a_lo, (oc3 e_cl a_hd a_sr a_cd)), (a_sr, (arI G n_sr f_sr)), (a_cd, (arI G n_cd f_cd)), (a_hd, (arI G n_hd f_hd)), (a_pt, (arI G 200 f_pt))] hP hD (fun hP hD => ?_)
  refine lv_aload_n hx hb dX5_run_10 rfl (lv_at hl 0 rfl) ?_
  refine lv_iload_n hx hb dX5_run_11 rfl (lv_at hl 3 rfl) ?_
  refine va_put (D := G.1) (ci := 5) (v := .int p_h) (ty := .int) (C := RX5) (T := TX5) (N := 13) hx hb hts inG_X5 tyX5 tyX5_ok nmX5 hown hK hP hD hS 0 rfl rfl 11 (by decide) (hts _ fl_X5_33) (fun _ h9 => h9) rfl (by decide +kernel) rfl rfl (Nat.le_of_ble_eq_true rfl) dX5_run_12 (fun H locs hP hD hS => ?_)
  refine g5_rs [(a_k, (oc5 a_h a_j a_pt e_ln e_se e_lh e_br e_we e_me p_c p_w p_h e_ov)), (a_h, (oc1 e_wa e_le e_st e_fo e_lc a_l a_g a_b a_s a_p a_w e_gb a_bb)), (a_g, (oc6 6 5 a_gn e_g)), (a_gn, (arI G 30 f_g)), (a_b, (oc6 5 24 a_bn e_b)), (a_bn, (arI G 120 f_b)), (a_p, (oc6 8 5 a_pn e_p)), (a_pn, (arI G 40 f_p)), (a_bb, (arJ G 24 f_bb)), (a_j, (oc2 a_as a_sk)), (a_as, (arI G 8 f_as)), (a_sk, (arJ G 50 f_sk)), (a_l, (arW G 6 f_l)), (a_lo, (oc3 e_cl a_hd a_sr a_cd)), (a_sr, (arI G n_sr f_sr)), (a_cd, (arI G n_cd f_cd)), (a_hd, (arI G n_hd f_hd)), (a_pt, (arI G 200 f_pt))] hP hD (fun hP hD => ?_)
  refine lv_aload_n hx hb dX5_run_15 rfl (lv_at hl 0 rfl) ?_
  refine lv_iconst (v := 0) hx hb dX5_run_16 (by decide) ?_
  refine va_put (D := G.1) (ci := 5) (v := .int 0) (ty := .int) (C := RX5) (T := TX5) (N := 13) hx hb hts inG_X5 tyX5 tyX5_ok nmX5 hown hK hP hD hS 0 rfl rfl 3 (by decide) (hts _ fl_X5_36) (fun _ h9 => h9) rfl (by decide +kernel) rfl rfl (Nat.le_of_ble_eq_true rfl) dX5_run_17 (fun H locs hP hD hS => ?_)
  refine g5_rs [(a_k, (oc5 a_h a_j a_pt 0 e_se e_lh e_br e_we e_me p_c p_w p_h e_ov)), (a_h, (oc1 e_wa e_le e_st e_fo e_lc a_l a_g a_b a_s a_p a_w e_gb a_bb)), (a_g, (oc6 6 5 a_gn e_g)), (a_gn, (arI G 30 f_g)), (a_b, (oc6 5 24 a_bn e_b)), (a_bn, (arI G 120 f_b)), (a_p, (oc6 8 5 a_pn e_p)), (a_pn, (arI G 40 f_p)), (a_bb, (arJ G 24 f_bb)), (a_j, (oc2 a_as a_sk)), (a_as, (arI G 8 f_as)), (a_sk, (arJ G 50 f_sk)), (a_l, (arW G 6 f_l)), (a_lo, (oc3 e_cl a_hd a_sr a_cd)), (a_sr, (arI G n_sr f_sr)), (a_cd, (arI G n_cd f_cd)), (a_hd, (arI G n_hd f_hd)), (a_pt, (arI G 200 f_pt))] hP hD (fun hP hD => ?_)
  refine lv_aload_n hx hb dX5_run_20 rfl (lv_at hl 0 rfl) ?_
  refine lv_iconst (v := (-1)) hx hb dX5_run_21 (by decide) ?_
  refine va_put (D := G.1) (ci := 5) (v := .int (-1)) (ty := .int) (C := RX5) (T := TX5) (N := 13) hx hb hts inG_X5 tyX5 tyX5_ok nmX5 hown hK hP hD hS 0 rfl rfl 4 (by decide) (hts _ fl_X5_39) (fun _ h9 => h9) rfl (by decide +kernel) rfl rfl (Nat.le_of_ble_eq_true rfl) dX5_run_22 (fun H locs hP hD hS => ?_)
  refine g5_rs [(a_k, (oc5 a_h a_j a_pt 0 (-1) e_lh e_br e_we e_me p_c p_w p_h e_ov)), (a_h, (oc1 e_wa e_le e_st e_fo e_lc a_l a_g a_b a_s a_p a_w e_gb a_bb)), (a_g, (oc6 6 5 a_gn e_g)), (a_gn, (arI G 30 f_g)), (a_b, (oc6 5 24 a_bn e_b)), (a_bn, (arI G 120 f_b)), (a_p, (oc6 8 5 a_pn e_p)), (a_pn, (arI G 40 f_p)), (a_bb, (arJ G 24 f_bb)), (a_j, (oc2 a_as a_sk)), (a_as, (arI G 8 f_as)), (a_sk, (arJ G 50 f_sk)), (a_l, (arW G 6 f_l)), (a_lo, (oc3 e_cl a_hd a_sr a_cd)), (a_sr, (arI G n_sr f_sr)), (a_cd, (arI G n_cd f_cd)), (a_hd, (arI G n_hd f_hd)), (a_pt, (arI G 200 f_pt))] hP hD (fun hP hD => ?_)
  refine lv_aload_n hx hb dX5_run_25 rfl (lv_at hl 0 rfl) ?_
  refine lv_iconst (v := (-1)) hx hb dX5_run_26 (by decide) ?_
  refine va_put (D := G.1) (ci := 5) (v := .int (-1)) (ty := .int) (C := RX5) (T := TX5) (N := 13) hx hb hts inG_X5 tyX5 tyX5_ok nmX5 hown hK hP hD hS 0 rfl rfl 5 (by decide) (hts _ fl_X5_42) (fun _ h9 => h9) rfl (by decide +kernel) rfl rfl (Nat.le_of_ble_eq_true rfl) dX5_run_27 (fun H locs hP hD hS => ?_)
  refine g5_rs [(a_k, (oc5 a_h a_j a_pt 0 (-1) (-1) e_br e_we e_me p_c p_w p_h e_ov)), (a_h, (oc1 e_wa e_le e_st e_fo e_lc a_l a_g a_b a_s a_p a_w e_gb a_bb)), (a_g, (oc6 6 5 a_gn e_g)), (a_gn, (arI G 30 f_g)), (a_b, (oc6 5 24 a_bn e_b)), (a_bn, (arI G 120 f_b)), (a_p, (oc6 8 5 a_pn e_p)), (a_pn, (arI G 40 f_p)), (a_bb, (arJ G 24 f_bb)), (a_j, (oc2 a_as a_sk)), (a_as, (arI G 8 f_as)), (a_sk, (arJ G 50 f_sk)), (a_l, (arW G 6 f_l)), (a_lo, (oc3 e_cl a_hd a_sr a_cd)), (a_sr, (arI G n_sr f_sr)), (a_cd, (arI G n_cd f_cd)), (a_hd, (arI G n_hd f_hd)), (a_pt, (arI G 200 f_pt))] hP hD (fun hP hD => ?_)
  refine lv_aload_n hx hb dX5_run_30 rfl (lv_at hl 0 rfl) ?_
  refine lv_ldc (v := 1000000) hx hb hown (hts _ ki_X5_45) dX5_run_31 ?_
  refine va_put (D := G.1) (ci := 5) (v := .int 1000000) (ty := .int) (C := RX5) (T := TX5) (N := 13) hx hb hts inG_X5 tyX5 tyX5_ok nmX5 hown hK hP hD hS 0 rfl rfl 6 (by decide) (hts _ fl_X5_46) (fun _ h9 => h9) rfl (by decide +kernel) rfl rfl (Nat.le_of_ble_eq_true rfl) dX5_run_33 (fun H locs hP hD hS => ?_)
  refine g5_rs [(a_k, (oc5 a_h a_j a_pt 0 (-1) (-1) 1000000 e_we e_me p_c p_w p_h e_ov)), (a_h, (oc1 e_wa e_le e_st e_fo e_lc a_l a_g a_b a_s a_p a_w e_gb a_bb)), (a_g, (oc6 6 5 a_gn e_g)), (a_gn, (arI G 30 f_g)), (a_b, (oc6 5 24 a_bn e_b)), (a_bn, (arI G 120 f_b)), (a_p, (oc6 8 5 a_pn e_p)), (a_pn, (arI G 40 f_p)), (a_bb, (arJ G 24 f_bb)), (a_j, (oc2 a_as a_sk)), (a_as, (arI G 8 f_as)), (a_sk, (arJ G 50 f_sk)), (a_l, (arW G 6 f_l)), (a_lo, (oc3 e_cl a_hd a_sr a_cd)), (a_sr, (arI G n_sr f_sr)), (a_cd, (arI G n_cd f_cd)), (a_hd, (arI G n_hd f_hd)), (a_pt, (arI G 200 f_pt))] hP hD (fun hP hD => ?_)
  refine lv_aload_n hx hb dX5_run_36 rfl (lv_at hl 0 rfl) ?_
  refine lv_iconst (v := 0) hx hb dX5_run_37 (by decide) ?_
  refine va_put (D := G.1) (ci := 5) (v := .int 0) (ty := .int) (C := RX5) (T := TX5) (N := 13) hx hb hts inG_X5 tyX5 tyX5_ok nmX5 hown hK hP hD hS 0 rfl rfl 7 (by decide) (hts _ fl_X5_49) (fun _ h9 => h9) rfl (by decide +kernel) rfl rfl (Nat.le_of_ble_eq_true rfl) dX5_run_38 (fun H locs hP hD hS => ?_)
  refine g5_rs [(a_k, (oc5 a_h a_j a_pt 0 (-1) (-1) 1000000 0 e_me p_c p_w p_h e_ov)), (a_h, (oc1 e_wa e_le e_st e_fo e_lc a_l a_g a_b a_s a_p a_w e_gb a_bb)), (a_g, (oc6 6 5 a_gn e_g)), (a_gn, (arI G 30 f_g)), (a_b, (oc6 5 24 a_bn e_b)), (a_bn, (arI G 120 f_b)), (a_p, (oc6 8 5 a_pn e_p)), (a_pn, (arI G 40 f_p)), (a_bb, (arJ G 24 f_bb)), (a_j, (oc2 a_as a_sk)), (a_as, (arI G 8 f_as)), (a_sk, (arJ G 50 f_sk)), (a_l, (arW G 6 f_l)), (a_lo, (oc3 e_cl a_hd a_sr a_cd)), (a_sr, (arI G n_sr f_sr)), (a_cd, (arI G n_cd f_cd)), (a_hd, (arI G n_hd f_hd)), (a_pt, (arI G 200 f_pt))] hP hD (fun hP hD => ?_)
  refine lv_aload_n hx hb dX5_run_41 rfl (lv_at hl 0 rfl) ?_
  refine lv_iload_n hx hb dX5_run_42 rfl (lv_at hl 1 rfl) ?_
  refine lv_iload_n hx hb dX5_run_43 rfl (lv_at hl 2 rfl) ?_
  refine lv_iload_n hx hb dX5_run_44 rfl (lv_at hl 3 rfl) ?_
  obtain ⟨hPc, hDc, hFc⟩ := g5_sub3 (wc := []) hP hD hS hA [] (by decide) rfl
  refine va_calli (va_runSN (As := [.int p_c, .int p_w, .int p_h]) (rest := [.ref a_k]) ⟨hx, hb, hml, hown, hts⟩ (x_isLook l G H.size p_c p_w p_h) ⟨va_cnB 3 hts gW_X11_isLook rfl rfl rfl (hN.1 _ g5_nw_X5_52) (hts _ ini_X11) hs_X11_isLook ⟨Nat.le_of_ble_eq_true rfl, Nat.le_of_ble_eq_true rfl⟩, hts _ st_X11_isLook, trivial⟩ (g5_preS hPc hK hDc hN hT hS hFc) rfl rfl hl.1 rfl (lv_room (Nat.le_of_ble_eq_true rfl)) dX5_run_45 ⟨Nat.le_of_ble_eq_true rfl, Nat.le_of_ble_eq_true rfl⟩) hS (fun q _ h => hFc q h) hFc (fun r u t H1 locs ht hvm hw hB hz1 hk1 hS => ?_)
  obtain ⟨hP1, hD1⟩ := hB
  rw [ht] at hP1
  rcases hw with ⟨i_1, rfl, rfl⟩ | ⟨rfl, rfl⟩
  ·
    have i_1 : (0 ≤ p_c.toInt ∧ p_c.toInt ≤ 63) ∧ (0 ≤ p_w.toInt ∧ p_w.toInt ≤ 3) ∧ (0 ≤ p_h.toInt ∧ p_h.toInt ≤ 23) := i_1
    have hP := g5_same hP hk1
    generalize H1 = H at hP hS ⊢
    refine lv_if_ne (tgt := 55) hx hb dX5_run_48 (by decide) (fun c_2 => ?_) (fun c_2 => ?_)
    ·
      refine lv_iconst (v := 0) hx hb dX5_run_55 (by decide) ?_
      refine va_put (D := G.1) (ci := 5) (v := .int 0) (ty := .boolean) (C := RX5) (T := TX5) (N := 13) hx hb hts inG_X5 tyX5 tyX5_ok nmX5 hown hK hP hD hS 0 rfl rfl 12 (by decide) (hts _ fl_X5_56) (fun _ h9 => h9) rfl (by decide +kernel) rfl rfl (Nat.le_of_ble_eq_true rfl) dX5_run_56 (fun H locs hP hD hS => ?_)
      refine g5_rs [(a_k, (oc5 a_h a_j a_pt 0 (-1) (-1) 1000000 0 e_me p_c p_w p_h 0)), (a_h, (oc1 e_wa e_le e_st e_fo e_lc a_l a_g a_b a_s a_p a_w e_gb a_bb)), (a_g, (oc6 6 5 a_gn e_g)), (a_gn, (arI G 30 f_g)), (a_b, (oc6 5 24 a_bn e_b)), (a_bn, (arI G 120 f_b)), (a_p, (oc6 8 5 a_pn e_p)), (a_pn, (arI G 40 f_p)), (a_bb, (arJ G 24 f_bb)), (a_j, (oc2 a_as a_sk)), (a_as, (arI G 8 f_as)), (a_sk, (arJ G 50 f_sk)), (a_l, (arW G 6 f_l)), (a_lo, (oc3 e_cl a_hd a_sr a_cd)), (a_sr, (arI G n_sr f_sr)), (a_cd, (arI G n_cd f_cd)), (a_hd, (arI G n_hd f_hd)), (a_pt, (arI G 200 f_pt))] hP hD (fun hP hD => ?_)
      refine lv_aload_n hx hb dX5_run_59 rfl (lv_at hl 0 rfl) ?_
      refine va_get (D := G.1) (ci := 5) (v := .ref a_h) (C := RX5) (T := TX5) (N := 13) hx hb hts inG_X5 hown hK hP 0 rfl rfl 0 (by decide) (hts _ fl_X5_22) (fun _ h9 => h9) rfl dX5_run_60 ?_
      refine va_get (D := G.1) (ci := 1) (v := .long e_gb) (C := RX1) (T := TX1) (N := 13) hx hb hts inG_X1 hown hK hP 1 rfl rfl 11 (by decide) (hts _ fl_X5_60) (fun _ h9 => h9) rfl dX5_run_63 ?_
      refine lv_aload_n hx hb dX5_run_66 rfl (lv_at hl 0 rfl) ?_
      refine lv_iload hx hb dX5_run_67 (lv_at hl 4 rfl) ?_
      obtain ⟨hPc, hDc, hFc⟩ := g5_sub3 (wc := [(a_k, (oc5 a_h a_j a_pt 0 (-1) (-1) 1000000 0 e_me p_c p_w p_h 0)), (a_h, (oc1 e_wa e_le e_st e_fo e_lc a_l a_g a_b a_s a_p a_w e_gb a_bb)), (a_p, (oc6 8 5 a_pn e_p)), (a_pn, (arI G 40 f_p))]) hP hD hS hA [0, 1, 6, 7] (by decide) rfl
      refine va_calll (va_runV (As := [.int p_u]) (rest := [.long e_gb]) ⟨hx, hb, hml, hown, hts⟩ (k_hung l G a_k a_h a_p a_pn a_j a_pt a_l a_g a_b a_s a_w a_bb H.size e_le e_st e_fo e_lc e_p 0 (-1) (-1) 1000000 0 e_me p_c p_w p_h 0 p_u e_wa e_gb f_p h_e_p ⟨by decide, by decide⟩ (gOK_cell e_pk)) (cwV 1 hts gV_X5_66 rfl rfl rfl hv_X5_hungBoard ⟨Nat.le_of_ble_eq_true rfl, Nat.le_of_ble_eq_true rfl⟩) (g5_preV hPc hK hDc hN hT hS hFc (ci := 5) (q0 := 0) rfl rfl) rfl rfl hl.1 rfl (lv_room (Nat.le_of_ble_eq_true rfl)) dX5_run_69 ⟨Nat.le_of_ble_eq_true rfl, Nat.le_of_ble_eq_true rfl⟩) hS (fun q _ h => hFc q h) hFc (fun r u t H1 locs ht hvm hw hB hz1 hk1 hS => ?_)
      obtain ⟨hP1, hD1⟩ := hB
      rw [ht] at hP1
      obtain ⟨z4, i_3, y5, rfl⟩ := hw
      have i_3 : inT z4 f_p e_p.toInt := i_3
      obtain ⟨hP, hD⟩ := va_join (wr := [(a_g, (oc6 6 5 a_gn e_g)), (a_gn, (arI G 30 f_g)), (a_b, (oc6 5 24 a_bn e_b)), (a_bn, (arI G 120 f_b)), (a_bb, (arJ G 24 f_bb)), (a_j, (oc2 a_as a_sk)), (a_as, (arI G 8 f_as)), (a_sk, (arJ G 50 f_sk)), (a_l, (arW G 6 f_l)), (a_lo, (oc3 e_cl a_hd a_sr a_cd)), (a_sr, (arI G n_sr f_sr)), (a_cd, (arI G n_cd f_cd)), (a_hd, (arI G n_hd f_hd)), (a_pt, (arI G 200 f_pt))]) hP hD [0, 1, 6, 7] [2, 3, 4, 5, 8, 9, 10, 11, 12, 13, 14, 15, 16, 17] rfl rfl (by decide) (by decide) hk1 hFc hP1 hD1
      generalize H1 = H at hP hS ⊢
      refine g5_rs [(a_g, (oc6 6 5 a_gn e_g)), (a_gn, (arI G 30 f_g)), (a_b, (oc6 5 24 a_bn e_b)), (a_bn, (arI G 120 f_b)), (a_bb, (arJ G 24 f_bb)), (a_j, (oc2 a_as a_sk)), (a_as, (arI G 8 f_as)), (a_sk, (arJ G 50 f_sk)), (a_l, (arW G 6 f_l)), (a_lo, (oc3 e_cl a_hd a_sr a_cd)), (a_sr, (arI G n_sr f_sr)), (a_cd, (arI G n_cd f_cd)), (a_hd, (arI G n_hd f_hd)), (a_pt, (arI G 200 f_pt)), (a_k, (oc5 a_h a_j a_pt 0 (-1) (-1) 1000000 0 e_me p_c p_w p_h 0)), (a_h, (oc1 e_wa e_le e_st e_fo e_lc a_l a_g a_b a_s a_p a_w e_gb a_bb)), (a_p, (oc6 8 5 a_pn e_p)), (a_pn, (arI G 40 f_p))] hP hD (fun hP hD => ?_)
      refine g5_tl (v := z4) y5 ?_
      refine lv_lor hx hb dX5_run_72 ?_
      refine lv_lstore (lv' := [(5, .long (e_gb ||| z4)), (0, .ref a_k), (1, .int p_c), (2, .int p_w), (3, .int p_h), (4, .int p_u)]) hx hb dX5_run_73 hl (by decide) rfl (fun ls hl => ?_)
      refine lv_iconst (v := 0) hx hb dX5_run_75 (by decide) ?_
      refine lv_istore (lv' := [(7, .int 0), (5, .long (e_gb ||| z4)), (0, .ref a_k), (1, .int p_c), (2, .int p_w), (3, .int p_h), (4, .int p_u)]) hx hb dX5_run_76 hl (by decide) rfl (fun ls hl => ?_)
      refine g5_loop (α := (Int32) × (Int32) × (Int32) × (Int32) × (Int32) × (Int32) × (Int32) × (Int32) × (Int32) × (Int32) × (Int32) × (Nat → Int32) × (Nat → Int32) × (Nat → Int64)) (fun (q : (Int32) × (Int32) × (Int32) × (Int32) × (Int32) × (Int32) × (Int32) × (Int32) × (Int32) × (Int32) × (Int32) × (Nat → Int32) × (Nat → Int32) × (Nat → Int64)) (ls : Array Slot) (H : Heap) (locs : List Loc) => match q with | (k_i, k_ln, k_se, k_lh, k_br, k_we, k_me, k_ce, k_wy, k_ho, k_ov, k_pt, k_as, k_sk) => lv_has ls 9 [(7, .int k_i), (5, .long (e_gb ||| z4)), (0, .ref a_k), (1, .int p_c), (2, .int p_w), (3, .int p_h), (4, .int p_u)] ∧ va_P G.1 vwCl [(a_g, (oc6 6 5 a_gn e_g)), (a_gn, (arI G 30 f_g)), (a_b, (oc6 5 24 a_bn e_b)), (a_bn, (arI G 120 f_b)), (a_bb, (arJ G 24 f_bb)), (a_j, (oc2 a_as a_sk)), (a_as, (arI G 8 k_as)), (a_sk, (arJ G 50 k_sk)), (a_l, (arW G 6 f_l)), (a_lo, (oc3 e_cl a_hd a_sr a_cd)), (a_sr, (arI G n_sr f_sr)), (a_cd, (arI G n_cd f_cd)), (a_hd, (arI G n_hd f_hd)), (a_pt, (arI G 200 k_pt)), (a_k, (oc5 a_h a_j a_pt k_ln k_se k_lh k_br k_we k_me k_ce k_wy k_ho k_ov)), (a_h, (oc1 e_wa e_le e_st e_fo e_lc a_l a_g a_b a_s a_p a_w e_gb a_bb)), (a_p, (oc6 8 5 a_pn e_p)), (a_pn, (arI G 40 f_p))] H ∧ va_D A [(a_g, (oc6 6 5 a_gn e_g)), (a_gn, (arI G 30 f_g)), (a_b, (oc6 5 24 a_bn e_b)), (a_bn, (arI G 120 f_b)), (a_bb, (arJ G 24 f_bb)), (a_j, (oc2 a_as a_sk)), (a_as, (arI G 8 k_as)), (a_sk, (arJ G 50 k_sk)), (a_l, (arW G 6 f_l)), (a_lo, (oc3 e_cl a_hd a_sr a_cd)), (a_sr, (arI G n_sr f_sr)), (a_cd, (arI G n_cd f_cd)), (a_hd, (arI G n_hd f_hd)), (a_pt, (arI G 200 k_pt)), (a_k, (oc5 a_h a_j a_pt k_ln k_se k_lh k_br k_we k_me k_ce k_wy k_ho k_ov)), (a_h, (oc1 e_wa e_le e_st e_fo e_lc a_l a_g a_b a_s a_p a_w e_gb a_bb)), (a_p, (oc6 8 5 a_pn e_p)), (a_pn, (arI G 40 f_p))] ∧ va_S A s.heap H locs ∧ (0 ≤ k_i.toInt ∧ k_i.toInt ≤ 200) ∧ (0 ≤ k_ln.toInt ∧ k_ln.toInt ≤ 200) ∧ ((-1) ≤ k_lh.toInt ∧ k_lh.toInt ≤ 23) ∧ (0 ≤ k_br.toInt ∧ k_br.toInt ≤ 1000000) ∧ (0 ≤ k_ce.toInt ∧ k_ce.toInt ≤ 63) ∧ (0 ≤ k_wy.toInt ∧ k_wy.toInt ≤ 3) ∧ (0 ≤ k_ho.toInt ∧ k_ho.toInt ≤ 23) ∧ (0 ≤ k_ov.toInt ∧ k_ov.toInt ≤ 1) ∧ (k_ln.toInt = k_i.toInt) ∧ (∀ j : Nat, (j : Int) < k_ln.toInt → 0 ≤ (k_pt j).toInt ∧ (k_pt j).toInt ≤ 1535)) (fun (q : (Int32) × (Int32) × (Int32) × (Int32) × (Int32) × (Int32) × (Int32) × (Int32) × (Int32) × (Int32) × (Int32) × (Nat → Int32) × (Nat → Int32) × (Nat → Int64)) => match q with | (k_i, k_ln, k_se, k_lh, k_br, k_we, k_me, k_ce, k_wy, k_ho, k_ov, k_pt, k_as, k_sk) => Int.toNat (200 - k_i.toInt)) (0, 0, (-1), (-1), 1000000, 0, e_me, p_c, p_w, p_h, 0, f_pt, f_as, f_sk) ⟨lv_sub hl [0, 1, 2, 3, 4, 5, 6] rfl, hP, hD, hS, ⟨by decide, by decide⟩, ⟨by decide, by decide⟩, ⟨by decide, by decide⟩, ⟨by decide, by decide⟩, ⟨by omega, by omega⟩, ⟨by omega, by omega⟩, ⟨by omega, by omega⟩, ⟨by decide, by decide⟩, (by decide), fun j h => absurd h (by have z : (0 : Int32).toInt = 0 := (by decide); omega)⟩ ?_
      rintro ⟨k_i, k_ln, k_se, k_lh, k_br, k_we, k_me, k_ce, k_wy, k_ho, k_ov, k_pt, k_as, k_sk⟩ ls H locs ⟨hl, hP, hD, hS, i_6, i_7, i_8, i_9, i_10, i_11, i_12, i_13, i_14, i_15⟩ ih_78_16
      have hl : lv_has ls 9 [(7, .int k_i), (5, .long (e_gb ||| z4)), (0, .ref a_k), (1, .int p_c), (2, .int p_w), (3, .int p_h), (4, .int p_u)] := hl
      have i_6 : 0 ≤ k_i.toInt ∧ k_i.toInt ≤ 200 := i_6
      have i_7 : 0 ≤ k_ln.toInt ∧ k_ln.toInt ≤ 200 := i_7
      have i_8 : (-1) ≤ k_lh.toInt ∧ k_lh.toInt ≤ 23 := i_8
      have i_9 : 0 ≤ k_br.toInt ∧ k_br.toInt ≤ 1000000 := i_9
      have i_10 : 0 ≤ k_ce.toInt ∧ k_ce.toInt ≤ 63 := i_10
      have i_11 : 0 ≤ k_wy.toInt ∧ k_wy.toInt ≤ 3 := i_11
      have i_12 : 0 ≤ k_ho.toInt ∧ k_ho.toInt ≤ 23 := i_12
      have i_13 : 0 ≤ k_ov.toInt ∧ k_ov.toInt ≤ 1 := i_13
      have i_14 : k_ln.toInt = k_i.toInt := i_14
      have i_15 : ∀ j : Nat, (j : Int) < k_ln.toInt → 0 ≤ (k_pt j).toInt ∧ (k_pt j).toInt ≤ 1535 := i_15
      refine g5_rs [(a_g, (oc6 6 5 a_gn e_g)), (a_gn, (arI G 30 f_g)), (a_b, (oc6 5 24 a_bn e_b)), (a_bn, (arI G 120 f_b)), (a_bb, (arJ G 24 f_bb)), (a_j, (oc2 a_as a_sk)), (a_as, (arI G 8 k_as)), (a_sk, (arJ G 50 k_sk)), (a_l, (arW G 6 f_l)), (a_lo, (oc3 e_cl a_hd a_sr a_cd)), (a_sr, (arI G n_sr f_sr)), (a_cd, (arI G n_cd f_cd)), (a_hd, (arI G n_hd f_hd)), (a_pt, (arI G 200 k_pt)), (a_k, (oc5 a_h a_j a_pt k_ln k_se k_lh k_br k_we k_me k_ce k_wy k_ho k_ov)), (a_h, (oc1 e_wa e_le e_st e_fo e_lc a_l a_g a_b a_s a_p a_w e_gb a_bb)), (a_p, (oc6 8 5 a_pn e_p)), (a_pn, (arI G 40 f_p))] hP hD (fun hP hD => ?_)
      refine lv_iload hx hb dX5_run_78 (lv_at hl 0 rfl) ?_
      refine lv_sipush (v := 200) hx hb dX5_run_80 (by decide) ?_
      refine lv_icmp_ge (tgt := 227) hx hb dX5_run_83 (by decide) (fun c_17 => ?_) (fun c_17 => ?_)
      ·
        have i_17 : k_i.toInt ≥ 200 := by have z := g5_ge (a := k_i.toInt) (b := 200) (by rfl) (by decide) c_17; omega
        exact W.vret hx hb hr (fun t ht hW => ⟨⟨[(a_k, (oc5 a_h a_j a_pt k_ln k_se k_lh k_br k_we k_me k_ce k_wy k_ho k_ov)), (a_h, (oc1 e_wa e_le e_st e_fo e_lc a_l a_g a_b a_s a_p a_w e_gb a_bb)), (a_g, (oc6 6 5 a_gn e_g)), (a_gn, (arI G 30 f_g)), (a_b, (oc6 5 24 a_bn e_b)), (a_bn, (arI G 120 f_b)), (a_p, (oc6 8 5 a_pn e_p)), (a_pn, (arI G 40 f_p)), (a_bb, (arJ G 24 f_bb)), (a_j, (oc2 a_as a_sk)), (a_as, (arI G 8 k_as)), (a_sk, (arJ G 50 k_sk)), (a_l, (arW G 6 f_l)), (a_lo, (oc3 e_cl a_hd a_sr a_cd)), (a_sr, (arI G n_sr f_sr)), (a_cd, (arI G n_cd f_cd)), (a_hd, (arI G n_hd f_hd)), (a_pt, (arI G 200 k_pt))], rfl, ⟨k_ln, k_se, k_lh, k_br, k_we, k_me, k_ce, k_wy, k_ho, k_ov, k_pt, k_as, k_sk, i_7, i_13, i_15, rfl⟩, by rw [ht]; exact hP.sub [14, 15, 0, 1, 2, 3, 16, 17, 4, 5, 6, 7, 8, 9, 10, 11, 12, 13] rfl, hD.sub [14, 15, 0, 1, 2, 3, 16, 17, 4, 5, 6, 7, 8, 9, 10, 11, 12, 13] (by decide) rfl⟩, hS.F ht⟩) hS.2.2 dX5_run_227
      ·
        have i_17 : k_i.toInt < 200 := by have z := g5_geN (a := k_i.toInt) (b := 200) (by rfl) (by decide) c_17; omega
        refine lv_aload_n hx hb dX5_run_86 rfl (lv_at hl 2 rfl) ?_
        refine va_get (D := G.1) (ci := 5) (v := .int k_ov) (C := RX5) (T := TX5) (N := 13) hx hb hts inG_X5 hown hK hP 14 rfl rfl 12 (by decide) (hts _ fl_X5_56) (fun _ h9 => h9) rfl dX5_run_87 ?_
        refine lv_if_ne (tgt := 227) hx hb dX5_run_90 (by decide) (fun c_18 => ?_) (fun c_18 => ?_)
        ·
          have n_18 : gNe (k_ov.toInt) (0) := by have z := g5_ne (a := k_ov.toInt) (b := 0) (by rfl) (by decide) c_18; unfold gNe; omega
          have i_18 : k_ov.toInt ≥ 1 := by have z := g5_ne (a := k_ov.toInt) (b := 0) (by rfl) (by decide) c_18; omega
          exact W.vret hx hb hr (fun t ht hW => ⟨⟨[(a_k, (oc5 a_h a_j a_pt k_ln k_se k_lh k_br k_we k_me k_ce k_wy k_ho k_ov)), (a_h, (oc1 e_wa e_le e_st e_fo e_lc a_l a_g a_b a_s a_p a_w e_gb a_bb)), (a_g, (oc6 6 5 a_gn e_g)), (a_gn, (arI G 30 f_g)), (a_b, (oc6 5 24 a_bn e_b)), (a_bn, (arI G 120 f_b)), (a_p, (oc6 8 5 a_pn e_p)), (a_pn, (arI G 40 f_p)), (a_bb, (arJ G 24 f_bb)), (a_j, (oc2 a_as a_sk)), (a_as, (arI G 8 k_as)), (a_sk, (arJ G 50 k_sk)), (a_l, (arW G 6 f_l)), (a_lo, (oc3 e_cl a_hd a_sr a_cd)), (a_sr, (arI G n_sr f_sr)), (a_cd, (arI G n_cd f_cd)), (a_hd, (arI G n_hd f_hd)), (a_pt, (arI G 200 k_pt))], rfl, ⟨k_ln, k_se, k_lh, k_br, k_we, k_me, k_ce, k_wy, k_ho, k_ov, k_pt, k_as, k_sk, i_7, i_13, i_15, rfl⟩, by rw [ht]; exact hP.sub [14, 15, 0, 1, 2, 3, 16, 17, 4, 5, 6, 7, 8, 9, 10, 11, 12, 13] rfl, hD.sub [14, 15, 0, 1, 2, 3, 16, 17, 4, 5, 6, 7, 8, 9, 10, 11, 12, 13] (by decide) rfl⟩, hS.F ht⟩) hS.2.2 dX5_run_227
        ·
          have i_18 : k_ov.toInt = 0 := by have z := g5_neN (a := k_ov.toInt) (b := 0) (by rfl) (by decide) c_18; omega
          refine lv_aload_n hx hb dX5_run_93 rfl (lv_at hl 2 rfl) ?_
          refine va_get (D := G.1) (ci := 5) (v := .int k_ce) (C := RX5) (T := TX5) (N := 13) hx hb hts inG_X5 hown hK hP 14 rfl rfl 9 (by decide) (hts _ fl_X5_26) (fun _ h9 => h9) rfl dX5_run_94 ?_
          refine lv_aload_n hx hb dX5_run_97 rfl (lv_at hl 2 rfl) ?_
          refine va_get (D := G.1) (ci := 5) (v := .int k_wy) (C := RX5) (T := TX5) (N := 13) hx hb hts inG_X5 hown hK hP 14 rfl rfl 10 (by decide) (hts _ fl_X5_30) (fun _ h9 => h9) rfl dX5_run_98 ?_
          obtain ⟨hPc, hDc, hFc⟩ := g5_sub3 (wc := []) hP hD hS hA [] (by decide) rfl
          refine va_calli (va_runSN (As := [.int k_ce, .int k_wy]) (rest := []) ⟨hx, hb, hml, hown, hts⟩ (k_beside l G H.size k_ce k_wy i_10) ⟨va_cnB 2 hts gW_X11_beside rfl rfl rfl (hN.1 _ g5_nw_X5_70) (hts _ ini_X11) hs_X11_beside ⟨Nat.le_of_ble_eq_true rfl, Nat.le_of_ble_eq_true rfl⟩, hts _ st_X11_beside, trivial⟩ (g5_preS hPc hK hDc hN hT hS hFc) rfl rfl hl.1 rfl (lv_room (Nat.le_of_ble_eq_true rfl)) dX5_run_101 ⟨Nat.le_of_ble_eq_true rfl, Nat.le_of_ble_eq_true rfl⟩) hS (fun q _ h => hFc q h) hFc (fun r u t H1 locs ht hvm hw hB hz1 hk1 hS => ?_)
          obtain ⟨hP1, hD1⟩ := hB
          rw [ht] at hP1
          obtain ⟨z21, i_19, i_20, y22, rfl⟩ := hw
          have i_19 : z21.toInt = bs k_ce.toInt k_wy.toInt := i_19
          have i_20 : -1 ≤ z21.toInt ∧ z21.toInt ≤ 63 := i_20
          have hP := g5_same hP hk1
          generalize H1 = H at hP hS ⊢
          refine g5_ti (v := z21) y22 ?_
          refine lv_istore (lv' := [(8, .int z21), (7, .int k_i), (5, .long (e_gb ||| z4)), (0, .ref a_k), (1, .int p_c), (2, .int p_w), (3, .int p_h), (4, .int p_u)]) hx hb dX5_run_104 hl (by decide) rfl (fun ls hl => ?_)
          refine lv_iload hx hb dX5_run_106 (lv_at hl 0 rfl) ?_
          refine lv_iconst (v := (-1)) hx hb dX5_run_108 (by decide) ?_
          refine lv_icmp_eq (tgt := 127) hx hb dX5_run_109 (by decide) (fun c_23 => ?_) (fun c_23 => ?_)
          ·
            have i_23 : z21.toInt = (-1) := by have z := g5_eq (a := z21.toInt) (b := (-1)) (by rfl) (by decide) c_23; omega
            exact W.vret hx hb hr (fun t ht hW => ⟨⟨[(a_k, (oc5 a_h a_j a_pt k_ln k_se k_lh k_br k_we k_me k_ce k_wy k_ho k_ov)), (a_h, (oc1 e_wa e_le e_st e_fo e_lc a_l a_g a_b a_s a_p a_w e_gb a_bb)), (a_g, (oc6 6 5 a_gn e_g)), (a_gn, (arI G 30 f_g)), (a_b, (oc6 5 24 a_bn e_b)), (a_bn, (arI G 120 f_b)), (a_p, (oc6 8 5 a_pn e_p)), (a_pn, (arI G 40 f_p)), (a_bb, (arJ G 24 f_bb)), (a_j, (oc2 a_as a_sk)), (a_as, (arI G 8 k_as)), (a_sk, (arJ G 50 k_sk)), (a_l, (arW G 6 f_l)), (a_lo, (oc3 e_cl a_hd a_sr a_cd)), (a_sr, (arI G n_sr f_sr)), (a_cd, (arI G n_cd f_cd)), (a_hd, (arI G n_hd f_hd)), (a_pt, (arI G 200 k_pt))], rfl, ⟨k_ln, k_se, k_lh, k_br, k_we, k_me, k_ce, k_wy, k_ho, k_ov, k_pt, k_as, k_sk, i_7, i_13, i_15, rfl⟩, by rw [ht]; exact hP.sub [14, 15, 0, 1, 2, 3, 16, 17, 4, 5, 6, 7, 8, 9, 10, 11, 12, 13] rfl, hD.sub [14, 15, 0, 1, 2, 3, 16, 17, 4, 5, 6, 7, 8, 9, 10, 11, 12, 13] (by decide) rfl⟩, hS.F ht⟩) hS.2.2 dX5_run_127
          ·
            have n_23 : gNe (z21.toInt) ((-1)) := by have z := g5_eqN (a := z21.toInt) (b := (-1)) (by rfl) (by decide) c_23; unfold gNe; omega
            have i_23 : z21.toInt ≥ 0 := by have z := g5_eqN (a := z21.toInt) (b := (-1)) (by rfl) (by decide) c_23; omega
            refine lv_aload_n hx hb dX5_run_112 rfl (lv_at hl 3 rfl) ?_
            refine va_get (D := G.1) (ci := 5) (v := .ref a_h) (C := RX5) (T := TX5) (N := 13) hx hb hts inG_X5 hown hK hP 14 rfl rfl 0 (by decide) (hts _ fl_X5_22) (fun _ h9 => h9) rfl dX5_run_113 ?_
            refine va_get (D := G.1) (ci := 1) (v := .long e_wa) (C := RX1) (T := TX1) (N := 13) hx hb hts inG_X1 hown hK hP 15 rfl rfl 0 (by decide) (hts _ fl_X5_74) (fun _ h9 => h9) rfl dX5_run_116 ?_
            refine lv_iload hx hb dX5_run_119 (lv_at hl 0 rfl) ?_
            obtain ⟨hPc, hDc, hFc⟩ := g5_sub3 (wc := []) hP hD hS hA [] (by decide) rfl
            refine va_calli (va_runSN (As := [.long e_wa, .int z21]) (rest := []) ⟨hx, hb, hml, hown, hts⟩ (k_isOn l G H.size z21 e_wa ⟨by omega, by omega⟩) ⟨va_cnB 2 hts gW_X11_isOn rfl rfl rfl (hN.1 _ g5_nw_X5_77) (hts _ ini_X11) hs_X11_isOn ⟨Nat.le_of_ble_eq_true rfl, Nat.le_of_ble_eq_true rfl⟩, hts _ st_X11_isOn, trivial⟩ (g5_preS hPc hK hDc hN hT hS hFc) rfl rfl hl.1 rfl (lv_room (Nat.le_of_ble_eq_true rfl)) dX5_run_121 ⟨Nat.le_of_ble_eq_true rfl, Nat.le_of_ble_eq_true rfl⟩) hS (fun q _ h => hFc q h) hFc (fun r u t H1 locs ht hvm hw hB hz1 hk1 hS => ?_)
            obtain ⟨hP1, hD1⟩ := hB
            rw [ht] at hP1
            rcases hw with ⟨i_24, rfl, rfl⟩ | ⟨i_25, rfl, rfl⟩
            ·
              have i_24 : onB e_wa z21.toInt = false := i_24
              have hP := g5_same hP hk1
              generalize H1 = H at hP hS ⊢
              refine lv_if_eq (tgt := 128) hx hb dX5_run_124 (by decide) (fun c_26 => ?_) (fun c_26 => ?_)
              ·
                refine lv_aload_n hx hb dX5_run_128 rfl (lv_at hl 3 rfl) ?_
                refine lv_iload hx hb dX5_run_129 (lv_at hl 0 rfl) ?_
                refine va_put (D := G.1) (ci := 5) (v := .int z21) (ty := .int) (C := RX5) (T := TX5) (N := 13) hx hb hts inG_X5 tyX5 tyX5_ok nmX5 hown hK hP hD hS 14 rfl rfl 9 (by decide) (hts _ fl_X5_26) (fun _ h9 => h9) rfl (by decide +kernel) rfl rfl (Nat.le_of_ble_eq_true rfl) dX5_run_131 (fun H locs hP hD hS => ?_)
                refine g5_rs [(a_g, (oc6 6 5 a_gn e_g)), (a_gn, (arI G 30 f_g)), (a_b, (oc6 5 24 a_bn e_b)), (a_bn, (arI G 120 f_b)), (a_bb, (arJ G 24 f_bb)), (a_j, (oc2 a_as a_sk)), (a_as, (arI G 8 k_as)), (a_sk, (arJ G 50 k_sk)), (a_l, (arW G 6 f_l)), (a_lo, (oc3 e_cl a_hd a_sr a_cd)), (a_sr, (arI G n_sr f_sr)), (a_cd, (arI G n_cd f_cd)), (a_hd, (arI G n_hd f_hd)), (a_pt, (arI G 200 k_pt)), (a_k, (oc5 a_h a_j a_pt k_ln k_se k_lh k_br k_we k_me z21 k_wy k_ho k_ov)), (a_h, (oc1 e_wa e_le e_st e_fo e_lc a_l a_g a_b a_s a_p a_w e_gb a_bb)), (a_p, (oc6 8 5 a_pn e_p)), (a_pn, (arI G 40 f_p))] hP hD (fun hP hD => ?_)
                refine lv_aload_n hx hb dX5_run_134 rfl (lv_at hl 3 rfl) ?_
                refine lv_aload_n hx hb dX5_run_135 rfl (lv_at hl 3 rfl) ?_
                refine va_get (D := G.1) (ci := 5) (v := .int k_ho) (C := RX5) (T := TX5) (N := 13) hx hb hts inG_X5 hown hK hP 14 rfl rfl 11 (by decide) (hts _ fl_X5_33) (fun _ h9 => h9) rfl dX5_run_136 ?_
                refine va_put (D := G.1) (ci := 5) (v := .int k_ho) (ty := .int) (C := RX5) (T := TX5) (N := 13) hx hb hts inG_X5 tyX5 tyX5_ok nmX5 hown hK hP hD hS 14 rfl rfl 5 (by decide) (hts _ fl_X5_42) (fun _ h9 => h9) rfl (by decide +kernel) rfl rfl (Nat.le_of_ble_eq_true rfl) dX5_run_139 (fun H locs hP hD hS => ?_)
                refine g5_rs [(a_g, (oc6 6 5 a_gn e_g)), (a_gn, (arI G 30 f_g)), (a_b, (oc6 5 24 a_bn e_b)), (a_bn, (arI G 120 f_b)), (a_bb, (arJ G 24 f_bb)), (a_j, (oc2 a_as a_sk)), (a_as, (arI G 8 k_as)), (a_sk, (arJ G 50 k_sk)), (a_l, (arW G 6 f_l)), (a_lo, (oc3 e_cl a_hd a_sr a_cd)), (a_sr, (arI G n_sr f_sr)), (a_cd, (arI G n_cd f_cd)), (a_hd, (arI G n_hd f_hd)), (a_pt, (arI G 200 k_pt)), (a_k, (oc5 a_h a_j a_pt k_ln k_se k_ho k_br k_we k_me z21 k_wy k_ho k_ov)), (a_h, (oc1 e_wa e_le e_st e_fo e_lc a_l a_g a_b a_s a_p a_w e_gb a_bb)), (a_p, (oc6 8 5 a_pn e_p)), (a_pn, (arI G 40 f_p))] hP hD (fun hP hD => ?_)
                refine lv_aload_n hx hb dX5_run_142 rfl (lv_at hl 3 rfl) ?_
                refine va_get (D := G.1) (ci := 5) (v := .ref a_pt) (C := RX5) (T := TX5) (N := 13) hx hb hts inG_X5 hown hK hP 14 rfl rfl 2 (by decide) (hts _ fl_X5_18) (fun _ h9 => h9) rfl dX5_run_143 ?_
                refine lv_iload hx hb dX5_run_146 (lv_at hl 1 rfl) ?_
                refine lv_aload_n hx hb dX5_run_148 rfl (lv_at hl 3 rfl) ?_
                refine va_get (D := G.1) (ci := 5) (v := .int k_ho) (C := RX5) (T := TX5) (N := 13) hx hb hts inG_X5 hown hK hP 14 rfl rfl 11 (by decide) (hts _ fl_X5_33) (fun _ h9 => h9) rfl dX5_run_149 ?_
                refine lv_bipush (v := 64) hx hb dX5_run_152 (by decide) ?_
                refine lv_imul hx hb dX5_run_154 ?_
                have t_27 : (k_ho * 64).toInt = k_ho.toInt * 64 := g5_imul (a := k_ho.toInt) (b := 64) (by rfl) (by decide) (by omega) (by omega)
                refine lv_aload_n hx hb dX5_run_155 rfl (lv_at hl 3 rfl) ?_
                refine va_get (D := G.1) (ci := 5) (v := .int z21) (C := RX5) (T := TX5) (N := 13) hx hb hts inG_X5 hown hK hP 14 rfl rfl 9 (by decide) (hts _ fl_X5_26) (fun _ h9 => h9) rfl dX5_run_156 ?_
                refine lv_iadd hx hb dX5_run_159 ?_
                have t_28 : ((k_ho * 64) + z21).toInt = (k_ho * 64).toInt + z21.toInt := g5_iadd (a := (k_ho * 64).toInt) (b := z21.toInt) (by rfl) (by rfl) (by omega) (by omega)
                refine va_iast hx hb hK hP hD hS 13 0 rfl rfl (i := k_i) (x := ((k_ho * 64) + z21)) (vp_in_iff.mpr ⟨by omega, by omega⟩) dX5_run_160 (fun H locs hP hD hS => ?_)
                refine g5_rs [(a_g, (oc6 6 5 a_gn e_g)), (a_gn, (arI G 30 f_g)), (a_b, (oc6 5 24 a_bn e_b)), (a_bn, (arI G 120 f_b)), (a_bb, (arJ G 24 f_bb)), (a_j, (oc2 a_as a_sk)), (a_as, (arI G 8 k_as)), (a_sk, (arJ G 50 k_sk)), (a_l, (arW G 6 f_l)), (a_lo, (oc3 e_cl a_hd a_sr a_cd)), (a_sr, (arI G n_sr f_sr)), (a_cd, (arI G n_cd f_cd)), (a_hd, (arI G n_hd f_hd)), (a_pt, (arI G 200 (upd k_pt k_i.toNatClampNeg ((k_ho * 64) + z21)))), (a_k, (oc5 a_h a_j a_pt k_ln k_se k_ho k_br k_we k_me z21 k_wy k_ho k_ov)), (a_h, (oc1 e_wa e_le e_st e_fo e_lc a_l a_g a_b a_s a_p a_w e_gb a_bb)), (a_p, (oc6 8 5 a_pn e_p)), (a_pn, (arI G 40 f_p))] hP hD (fun hP hD => ?_)
                refine lv_aload_n hx hb dX5_run_161 rfl (lv_at hl 3 rfl) ?_
                refine lv_iload hx hb dX5_run_162 (lv_at hl 1 rfl) ?_
                refine lv_iconst (v := 1) hx hb dX5_run_164 (by decide) ?_
                refine lv_iadd hx hb dX5_run_165 ?_
                have t_29 : (k_i + 1).toInt = k_i.toInt + 1 := g5_iadd (a := k_i.toInt) (b := 1) (by rfl) (by decide) (by omega) (by omega)
                refine va_put (D := G.1) (ci := 5) (v := .int (k_i + 1)) (ty := .int) (C := RX5) (T := TX5) (N := 13) hx hb hts inG_X5 tyX5 tyX5_ok nmX5 hown hK hP hD hS 14 rfl rfl 3 (by decide) (hts _ fl_X5_36) (fun _ h9 => h9) rfl (by decide +kernel) rfl rfl (Nat.le_of_ble_eq_true rfl) dX5_run_166 (fun H locs hP hD hS => ?_)
                refine g5_rs [(a_g, (oc6 6 5 a_gn e_g)), (a_gn, (arI G 30 f_g)), (a_b, (oc6 5 24 a_bn e_b)), (a_bn, (arI G 120 f_b)), (a_bb, (arJ G 24 f_bb)), (a_j, (oc2 a_as a_sk)), (a_as, (arI G 8 k_as)), (a_sk, (arJ G 50 k_sk)), (a_l, (arW G 6 f_l)), (a_lo, (oc3 e_cl a_hd a_sr a_cd)), (a_sr, (arI G n_sr f_sr)), (a_cd, (arI G n_cd f_cd)), (a_hd, (arI G n_hd f_hd)), (a_pt, (arI G 200 (upd k_pt k_i.toNatClampNeg ((k_ho * 64) + z21)))), (a_k, (oc5 a_h a_j a_pt (k_i + 1) k_se k_ho k_br k_we k_me z21 k_wy k_ho k_ov)), (a_h, (oc1 e_wa e_le e_st e_fo e_lc a_l a_g a_b a_s a_p a_w e_gb a_bb)), (a_p, (oc6 8 5 a_pn e_p)), (a_pn, (arI G 40 f_p))] hP hD (fun hP hD => ?_)
                refine lv_aload_n hx hb dX5_run_169 rfl (lv_at hl 3 rfl) ?_
                refine va_get (D := G.1) (ci := 5) (v := .ref a_h) (C := RX5) (T := TX5) (N := 13) hx hb hts inG_X5 hown hK hP 14 rfl rfl 0 (by decide) (hts _ fl_X5_22) (fun _ h9 => h9) rfl dX5_run_170 ?_
                refine va_get (D := G.1) (ci := 1) (v := .ref a_bb) (C := RX1) (T := TX1) (N := 13) hx hb hts inG_X1 hown hK hP 15 rfl rfl 12 (by decide) (hts _ fl_X5_81) (fun _ h9 => h9) rfl dX5_run_173 ?_
                refine lv_aload_n hx hb dX5_run_176 rfl (lv_at hl 3 rfl) ?_
                refine va_get (D := G.1) (ci := 5) (v := .int k_ho) (C := RX5) (T := TX5) (N := 13) hx hb hts inG_X5 hown hK hP 14 rfl rfl 11 (by decide) (hts _ fl_X5_33) (fun _ h9 => h9) rfl dX5_run_177 ?_
                refine va_lald hx hb hK hP 4 1 rfl rfl (i := k_ho) (vp_in_iff.mpr ⟨by omega, by omega⟩) dX5_run_180 ?_
                refine lv_lload hx hb dX5_run_181 (lv_at hl 2 rfl) ?_
                refine lv_lor hx hb dX5_run_183 ?_
                refine lv_aload_n hx hb dX5_run_184 rfl (lv_at hl 3 rfl) ?_
                refine va_get (D := G.1) (ci := 5) (v := .int z21) (C := RX5) (T := TX5) (N := 13) hx hb hts inG_X5 hown hK hP 14 rfl rfl 9 (by decide) (hts _ fl_X5_26) (fun _ h9 => h9) rfl dX5_run_185 ?_
                obtain ⟨hPc, hDc, hFc⟩ := g5_sub3 (wc := []) hP hD hS hA [] (by decide) rfl
                refine va_calli (va_runSN (As := [.long ((f_bb k_ho.toNatClampNeg) ||| (e_gb ||| z4)), .int z21]) (rest := []) ⟨hx, hb, hml, hown, hts⟩ (k_isOn l G H.size z21 ((f_bb k_ho.toNatClampNeg) ||| (e_gb ||| z4)) ⟨by omega, by omega⟩) ⟨va_cnB 2 hts gW_X11_isOn rfl rfl rfl (hN.1 _ g5_nw_X5_77) (hts _ ini_X11) hs_X11_isOn ⟨Nat.le_of_ble_eq_true rfl, Nat.le_of_ble_eq_true rfl⟩, hts _ st_X11_isOn, trivial⟩ (g5_preS hPc hK hDc hN hT hS hFc) rfl rfl hl.1 rfl (lv_room (Nat.le_of_ble_eq_true rfl)) dX5_run_188 ⟨Nat.le_of_ble_eq_true rfl, Nat.le_of_ble_eq_true rfl⟩) hS (fun q _ h => hFc q h) hFc (fun r u t H1 locs ht hvm hw hB hz1 hk1 hS => ?_)
                obtain ⟨hP1, hD1⟩ := hB
                rw [ht] at hP1
                rcases hw with ⟨i_30, rfl, rfl⟩ | ⟨i_31, rfl, rfl⟩
                ·
                  have i_30 : onB ((f_bb k_ho.toNatClampNeg) ||| (e_gb ||| z4)) z21.toInt = false := i_30
                  have hP := g5_same hP hk1
                  generalize H1 = H at hP hS ⊢
                  refine lv_if_eq (tgt := 221) hx hb dX5_run_191 (by decide) (fun c_32 => ?_) (fun c_32 => ?_)
                  ·
                    refine lv_iinc (v := (k_i + 1)) (lv' := [(7, .int (k_i + 1)), (8, .int z21), (5, .long (e_gb ||| z4)), (0, .ref a_k), (1, .int p_c), (2, .int p_w), (3, .int p_h), (4, .int p_u)]) hx hb dX5_run_221 hl (k := 1) rfl rfl (by decide) rfl (fun ls hl => ?_)
                    have t_33 : (k_i + 1).toInt = k_i.toInt + 1 := g5_iadd (a := k_i.toInt) (b := 1) rfl (by decide) (by omega) (by omega)
                    refine lv_goto (tgt := 78) hx hb dX5_run_224 (by decide) ?_
                    exact ih_78_16 ((k_i + 1), (k_i + 1), k_se, k_ho, k_br, k_we, k_me, z21, k_wy, k_ho, k_ov, (upd k_pt k_i.toNatClampNeg ((k_ho * 64) + z21)), k_as, k_sk) ls H locs (show Int.toNat (200 - (k_i + 1).toInt) < Int.toNat (200 - k_i.toInt) from g_up (show k_i.toInt < (k_i + 1).toInt by omega) (show k_i.toInt < 200 by omega)) ⟨lv_sub hl [0, 2, 3, 4, 5, 6, 7] rfl, hP, hD, hS, ⟨by omega, by omega⟩, ⟨by omega, by omega⟩, ⟨by omega, by omega⟩, i_9, ⟨by omega, by omega⟩, i_11, i_12, i_13, by omega, g_rows (k := k_i) (fun j hj => i_15 j (by omega)) (by omega) (by omega) (by omega)⟩
                  ·
                    exact absurd c_32 (by decide)
                ·
                  have i_31 : onB ((f_bb k_ho.toNatClampNeg) ||| (e_gb ||| z4)) z21.toInt = true := i_31
                  have hP := g5_same hP hk1
                  generalize H1 = H at hP hS ⊢
                  refine lv_if_eq (tgt := 221) hx hb dX5_run_191 (by decide) (fun c_34 => ?_) (fun c_34 => ?_)
                  ·
                    exact absurd c_34 (by decide)
                  ·
                    refine lv_aload_n hx hb dX5_run_194 rfl (lv_at hl 3 rfl) ?_
                    obtain ⟨hPc, hDc, hFc⟩ := g5_sub3 (wc := [(a_k, (oc5 a_h a_j a_pt (k_i + 1) k_se k_ho k_br k_we k_me z21 k_wy k_ho k_ov)), (a_h, (oc1 e_wa e_le e_st e_fo e_lc a_l a_g a_b a_s a_p a_w e_gb a_bb)), (a_b, (oc6 5 24 a_bn e_b)), (a_bn, (arI G 120 f_b)), (a_j, (oc2 a_as a_sk)), (a_as, (arI G 8 k_as)), (a_sk, (arJ G 50 k_sk)), (a_l, (arW G 6 f_l)), (a_lo, (oc3 e_cl a_hd a_sr a_cd)), (a_sr, (arI G n_sr f_sr)), (a_cd, (arI G n_cd f_cd)), (a_hd, (arI G n_hd f_hd))]) hP hD hS hA [14, 15, 2, 3, 5, 6, 7, 8, 9, 10, 11, 12] (by decide) rfl
                    refine va_callv (va_runV (As := []) (rest := []) ⟨hx, hb, hml, hown, hts⟩ (k_meetBodiesL l G a_k a_h a_b a_bn a_j a_as a_sk a_l a_lo a_sr a_cd a_hd a_pt a_g a_s a_p a_w a_bb H.size (k_i + 1) k_se k_ho k_br k_we k_me z21 k_wy k_ho k_ov e_le e_st e_fo e_lc e_b e_cl e_wa e_gb f_b k_as k_sk f_l f_sr f_cd f_hd n_sr n_cd n_hd i_9 ⟨by omega, by omega⟩ i_11 i_12 i_13 h_e_b h_e_cl (e_f) (e_a) (e_hn) (e_hs) (e_hk) (e_c)) (cwV 0 hts gV_X5_85 rfl rfl rfl hv_X5_meetBodies ⟨Nat.le_of_ble_eq_true rfl, Nat.le_of_ble_eq_true rfl⟩) (g5_preV hPc hK hDc hN hT hS hFc (ci := 5) (q0 := 0) rfl rfl) rfl rfl hl.1 rfl (lv_room (Nat.le_of_ble_eq_true rfl)) dX5_run_195 ⟨Nat.le_of_ble_eq_true rfl, Nat.le_of_ble_eq_true rfl⟩) hS (fun q _ h => hFc q h) hFc (fun u t H1 locs ht hvm hw hB hz1 hk1 hS => ?_)
                    obtain ⟨hP1, hD1⟩ := hB
                    rw [ht] at hP1
                    obtain ⟨z36, z37, z38, z39, i_35, rfl⟩ := hw
                    have i_35 : 0 ≤ z37.toInt ∧ z37.toInt ≤ 1 := i_35
                    obtain ⟨hP, hD⟩ := va_join (wr := [(a_g, (oc6 6 5 a_gn e_g)), (a_gn, (arI G 30 f_g)), (a_bb, (arJ G 24 f_bb)), (a_pt, (arI G 200 (upd k_pt k_i.toNatClampNeg ((k_ho * 64) + z21)))), (a_p, (oc6 8 5 a_pn e_p)), (a_pn, (arI G 40 f_p))]) hP hD [14, 15, 2, 3, 5, 6, 7, 8, 9, 10, 11, 12] [0, 1, 4, 13, 16, 17] rfl rfl (by decide) (by decide) hk1 hFc hP1 hD1
                    generalize H1 = H at hP hS ⊢
                    refine g5_rs [(a_g, (oc6 6 5 a_gn e_g)), (a_gn, (arI G 30 f_g)), (a_bb, (arJ G 24 f_bb)), (a_pt, (arI G 200 (upd k_pt k_i.toNatClampNeg ((k_ho * 64) + z21)))), (a_p, (oc6 8 5 a_pn e_p)), (a_pn, (arI G 40 f_p)), (a_k, (oc5 a_h a_j a_pt (k_i + 1) z36 k_ho k_br k_we k_me z21 k_wy k_ho z37)), (a_h, (oc1 e_wa e_le e_st e_fo e_lc a_l a_g a_b a_s a_p a_w e_gb a_bb)), (a_b, (oc6 5 24 a_bn e_b)), (a_bn, (arI G 120 f_b)), (a_j, (oc2 a_as a_sk)), (a_as, (arI G 8 z38)), (a_sk, (arJ G 50 z39)), (a_l, (arW G 6 f_l)), (a_lo, (oc3 e_cl a_hd a_sr a_cd)), (a_sr, (arI G n_sr f_sr)), (a_cd, (arI G n_cd f_cd)), (a_hd, (arI G n_hd f_hd))] hP hD (fun hP hD => ?_)
                    refine lv_aload_n hx hb dX5_run_198 rfl (lv_at hl 3 rfl) ?_
                    refine va_get (D := G.1) (ci := 5) (v := .int z37) (C := RX5) (T := TX5) (N := 13) hx hb hts inG_X5 hown hK hP 6 rfl rfl 12 (by decide) (hts _ fl_X5_56) (fun _ h9 => h9) rfl dX5_run_199 ?_
                    refine lv_if_ne (tgt := 221) hx hb dX5_run_202 (by decide) (fun c_40 => ?_) (fun c_40 => ?_)
                    ·
                      have n_40 : gNe (z37.toInt) (0) := by have z := g5_ne (a := z37.toInt) (b := 0) (by rfl) (by decide) c_40; unfold gNe; omega
                      have i_40 : z37.toInt ≥ 1 := by have z := g5_ne (a := z37.toInt) (b := 0) (by rfl) (by decide) c_40; omega
                      refine lv_iinc (v := (k_i + 1)) (lv' := [(7, .int (k_i + 1)), (8, .int z21), (5, .long (e_gb ||| z4)), (0, .ref a_k), (1, .int p_c), (2, .int p_w), (3, .int p_h), (4, .int p_u)]) hx hb dX5_run_221 hl (k := 1) rfl rfl (by decide) rfl (fun ls hl => ?_)
                      have t_41 : (k_i + 1).toInt = k_i.toInt + 1 := g5_iadd (a := k_i.toInt) (b := 1) rfl (by decide) (by omega) (by omega)
                      refine lv_goto (tgt := 78) hx hb dX5_run_224 (by decide) ?_
                      exact ih_78_16 ((k_i + 1), (k_i + 1), z36, k_ho, k_br, k_we, k_me, z21, k_wy, k_ho, z37, (upd k_pt k_i.toNatClampNeg ((k_ho * 64) + z21)), z38, z39) ls H locs (show Int.toNat (200 - (k_i + 1).toInt) < Int.toNat (200 - k_i.toInt) from g_up (show k_i.toInt < (k_i + 1).toInt by omega) (show k_i.toInt < 200 by omega)) ⟨lv_sub hl [0, 2, 3, 4, 5, 6, 7] rfl, hP.sub [0, 1, 8, 9, 2, 10, 11, 12, 13, 14, 15, 16, 17, 3, 6, 7, 4, 5] rfl, hD.sub [0, 1, 8, 9, 2, 10, 11, 12, 13, 14, 15, 16, 17, 3, 6, 7, 4, 5] (by decide) rfl, hS, ⟨by omega, by omega⟩, ⟨by omega, by omega⟩, ⟨by omega, by omega⟩, i_9, ⟨by omega, by omega⟩, i_11, i_12, i_35, by omega, g_rows (k := k_i) (fun j hj => i_15 j (by omega)) (by omega) (by omega) (by omega)⟩
                    ·
                      have i_40 : z37.toInt = 0 := by have z := g5_neN (a := z37.toInt) (b := 0) (by rfl) (by decide) c_40; omega
                      refine lv_lload hx hb dX5_run_205 (lv_at hl 2 rfl) ?_
                      refine lv_aload_n hx hb dX5_run_207 rfl (lv_at hl 3 rfl) ?_
                      refine va_get (D := G.1) (ci := 5) (v := .int z21) (C := RX5) (T := TX5) (N := 13) hx hb hts inG_X5 hown hK hP 6 rfl rfl 9 (by decide) (hts _ fl_X5_26) (fun _ h9 => h9) rfl dX5_run_208 ?_
                      obtain ⟨hPc, hDc, hFc⟩ := g5_sub3 (wc := []) hP hD hS hA [] (by decide) rfl
                      refine va_calli (va_runSN (As := [.long (e_gb ||| z4), .int z21]) (rest := []) ⟨hx, hb, hml, hown, hts⟩ (k_isOn l G H.size z21 (e_gb ||| z4) ⟨by omega, by omega⟩) ⟨va_cnB 2 hts gW_X11_isOn rfl rfl rfl (hN.1 _ g5_nw_X5_77) (hts _ ini_X11) hs_X11_isOn ⟨Nat.le_of_ble_eq_true rfl, Nat.le_of_ble_eq_true rfl⟩, hts _ st_X11_isOn, trivial⟩ (g5_preS hPc hK hDc hN hT hS hFc) rfl rfl hl.1 rfl (lv_room (Nat.le_of_ble_eq_true rfl)) dX5_run_211 ⟨Nat.le_of_ble_eq_true rfl, Nat.le_of_ble_eq_true rfl⟩) hS (fun q _ h => hFc q h) hFc (fun r u t H1 locs ht hvm hw hB hz1 hk1 hS => ?_)
                      obtain ⟨hP1, hD1⟩ := hB
                      rw [ht] at hP1
                      rcases hw with ⟨i_42, rfl, rfl⟩ | ⟨i_43, rfl, rfl⟩
                      ·
                        have i_42 : onB (e_gb ||| z4) z21.toInt = false := i_42
                        have hP := g5_same hP hk1
                        generalize H1 = H at hP hS ⊢
                        refine lv_if_eq (tgt := 221) hx hb dX5_run_214 (by decide) (fun c_44 => ?_) (fun c_44 => ?_)
                        ·
                          refine lv_iinc (v := (k_i + 1)) (lv' := [(7, .int (k_i + 1)), (8, .int z21), (5, .long (e_gb ||| z4)), (0, .ref a_k), (1, .int p_c), (2, .int p_w), (3, .int p_h), (4, .int p_u)]) hx hb dX5_run_221 hl (k := 1) rfl rfl (by decide) rfl (fun ls hl => ?_)
                          have t_45 : (k_i + 1).toInt = k_i.toInt + 1 := g5_iadd (a := k_i.toInt) (b := 1) rfl (by decide) (by omega) (by omega)
                          refine lv_goto (tgt := 78) hx hb dX5_run_224 (by decide) ?_
                          exact ih_78_16 ((k_i + 1), (k_i + 1), z36, k_ho, k_br, k_we, k_me, z21, k_wy, k_ho, z37, (upd k_pt k_i.toNatClampNeg ((k_ho * 64) + z21)), z38, z39) ls H locs (show Int.toNat (200 - (k_i + 1).toInt) < Int.toNat (200 - k_i.toInt) from g_up (show k_i.toInt < (k_i + 1).toInt by omega) (show k_i.toInt < 200 by omega)) ⟨lv_sub hl [0, 2, 3, 4, 5, 6, 7] rfl, hP.sub [0, 1, 8, 9, 2, 10, 11, 12, 13, 14, 15, 16, 17, 3, 6, 7, 4, 5] rfl, hD.sub [0, 1, 8, 9, 2, 10, 11, 12, 13, 14, 15, 16, 17, 3, 6, 7, 4, 5] (by decide) rfl, hS, ⟨by omega, by omega⟩, ⟨by omega, by omega⟩, ⟨by omega, by omega⟩, i_9, ⟨by omega, by omega⟩, i_11, i_12, i_35, by omega, g_rows (k := k_i) (fun j hj => i_15 j (by omega)) (by omega) (by omega) (by omega)⟩
                        ·
                          exact absurd c_44 (by decide)
                      ·
                        have i_43 : onB (e_gb ||| z4) z21.toInt = true := i_43
                        have hP := g5_same hP hk1
                        generalize H1 = H at hP hS ⊢
                        refine lv_if_eq (tgt := 221) hx hb dX5_run_214 (by decide) (fun c_46 => ?_) (fun c_46 => ?_)
                        ·
                          exact absurd c_46 (by decide)
                        ·
                          have hin_47 : inR f_g e_g.toInt z21.toInt ∨ inR f_p e_p.toInt z21.toInt := g_inor e_gi i_3 (by omega) (by omega) i_43
                          refine lv_aload_n hx hb dX5_run_217 rfl (lv_at hl 3 rfl) ?_
                          obtain ⟨hPc, hDc, hFc⟩ := g5_sub3 (wc := [(a_k, (oc5 a_h a_j a_pt (k_i + 1) z36 k_ho k_br k_we k_me z21 k_wy k_ho z37)), (a_h, (oc1 e_wa e_le e_st e_fo e_lc a_l a_g a_b a_s a_p a_w e_gb a_bb)), (a_g, (oc6 6 5 a_gn e_g)), (a_gn, (arI G 30 f_g)), (a_p, (oc6 8 5 a_pn e_p)), (a_pn, (arI G 40 f_p)), (a_j, (oc2 a_as a_sk)), (a_as, (arI G 8 z38)), (a_sk, (arJ G 50 z39)), (a_l, (arW G 6 f_l)), (a_lo, (oc3 e_cl a_hd a_sr a_cd)), (a_sr, (arI G n_sr f_sr)), (a_cd, (arI G n_cd f_cd)), (a_hd, (arI G n_hd f_hd))]) hP hD hS hA [6, 7, 0, 1, 4, 5, 10, 11, 12, 13, 14, 15, 16, 17] (by decide) rfl
                          refine va_callv (va_runV (As := []) (rest := []) ⟨hx, hb, hml, hown, hts⟩ (k_meetGlassL l G a_k a_h a_g a_gn a_p a_pn a_j a_as a_sk a_l a_lo a_sr a_cd a_hd a_pt a_b a_s a_w a_bb H.size (k_i + 1) z36 k_ho k_br k_we k_me z21 k_wy k_ho z37 e_le e_st e_fo e_lc e_g e_p e_cl e_wa e_gb f_g f_p z38 z39 f_l f_sr f_cd f_hd n_sr n_cd n_hd i_9 ⟨by omega, by omega⟩ i_11 i_12 i_35 h_e_g h_e_p h_e_cl (e_gk) (e_pk) (hin_47) (e_f) (e_a) (e_hn) (e_hs) (e_hk) (e_c)) (cwV 0 hts gV_X5_88 rfl rfl rfl hv_X5_meetGlass ⟨Nat.le_of_ble_eq_true rfl, Nat.le_of_ble_eq_true rfl⟩) (g5_preV hPc hK hDc hN hT hS hFc (ci := 5) (q0 := 0) rfl rfl) rfl rfl hl.1 rfl (lv_room (Nat.le_of_ble_eq_true rfl)) dX5_run_218 ⟨Nat.le_of_ble_eq_true rfl, Nat.le_of_ble_eq_true rfl⟩) hS (fun q _ h => hFc q h) hFc (fun u t H1 locs ht hvm hw hB hz1 hk1 hS => ?_)
                          obtain ⟨hP1, hD1⟩ := hB
                          rw [ht] at hP1
                          obtain ⟨z52, z53, z54, z55, z56, z57, z58, z59, i_48, i_49, i_50, i_51, rfl⟩ := hw
                          have i_48 : 0 ≤ z52.toInt ∧ z52.toInt ≤ 1000000 := i_48
                          have i_49 : 0 ≤ z55.toInt ∧ z55.toInt ≤ 3 := i_49
                          have i_50 : 0 ≤ z56.toInt ∧ z56.toInt ≤ 23 := i_50
                          have i_51 : 0 ≤ z57.toInt ∧ z57.toInt ≤ 1 := i_51
                          obtain ⟨hP, hD⟩ := va_join (wr := [(a_bb, (arJ G 24 f_bb)), (a_pt, (arI G 200 (upd k_pt k_i.toNatClampNeg ((k_ho * 64) + z21)))), (a_b, (oc6 5 24 a_bn e_b)), (a_bn, (arI G 120 f_b))]) hP hD [6, 7, 0, 1, 4, 5, 10, 11, 12, 13, 14, 15, 16, 17] [2, 3, 8, 9] rfl rfl (by decide) (by decide) hk1 hFc hP1 hD1
                          generalize H1 = H at hP hS ⊢
                          refine g5_rs [(a_bb, (arJ G 24 f_bb)), (a_pt, (arI G 200 (upd k_pt k_i.toNatClampNeg ((k_ho * 64) + z21)))), (a_b, (oc6 5 24 a_bn e_b)), (a_bn, (arI G 120 f_b)), (a_k, (oc5 a_h a_j a_pt (k_i + 1) z36 k_ho z52 z53 z54 z21 z55 z56 z57)), (a_h, (oc1 e_wa e_le e_st e_fo e_lc a_l a_g a_b a_s a_p a_w e_gb a_bb)), (a_g, (oc6 6 5 a_gn e_g)), (a_gn, (arI G 30 f_g)), (a_p, (oc6 8 5 a_pn e_p)), (a_pn, (arI G 40 f_p)), (a_j, (oc2 a_as a_sk)), (a_as, (arI G 8 z58)), (a_sk, (arJ G 50 z59)), (a_l, (arW G 6 f_l)), (a_lo, (oc3 e_cl a_hd a_sr a_cd)), (a_sr, (arI G n_sr f_sr)), (a_cd, (arI G n_cd f_cd)), (a_hd, (arI G n_hd f_hd))] hP hD (fun hP hD => ?_)
                          refine lv_iinc (v := (k_i + 1)) (lv' := [(7, .int (k_i + 1)), (8, .int z21), (5, .long (e_gb ||| z4)), (0, .ref a_k), (1, .int p_c), (2, .int p_w), (3, .int p_h), (4, .int p_u)]) hx hb dX5_run_221 hl (k := 1) rfl rfl (by decide) rfl (fun ls hl => ?_)
                          have t_60 : (k_i + 1).toInt = k_i.toInt + 1 := g5_iadd (a := k_i.toInt) (b := 1) rfl (by decide) (by omega) (by omega)
                          refine lv_goto (tgt := 78) hx hb dX5_run_224 (by decide) ?_
                          exact ih_78_16 ((k_i + 1), (k_i + 1), z36, k_ho, z52, z53, z54, z21, z55, z56, z57, (upd k_pt k_i.toNatClampNeg ((k_ho * 64) + z21)), z58, z59) ls H locs (show Int.toNat (200 - (k_i + 1).toInt) < Int.toNat (200 - k_i.toInt) from g_up (show k_i.toInt < (k_i + 1).toInt by omega) (show k_i.toInt < 200 by omega)) ⟨lv_sub hl [0, 2, 3, 4, 5, 6, 7] rfl, hP.sub [6, 7, 2, 3, 0, 10, 11, 12, 13, 14, 15, 16, 17, 1, 4, 5, 8, 9] rfl, hD.sub [6, 7, 2, 3, 0, 10, 11, 12, 13, 14, 15, 16, 17, 1, 4, 5, 8, 9] (by decide) rfl, hS, ⟨by omega, by omega⟩, ⟨by omega, by omega⟩, ⟨by omega, by omega⟩, i_48, ⟨by omega, by omega⟩, i_49, i_50, i_51, by omega, g_rows (k := k_i) (fun j hj => i_15 j (by omega)) (by omega) (by omega) (by omega)⟩
              ·
                exact absurd c_26 (by decide)
            ·
              have i_25 : onB e_wa z21.toInt = true := i_25
              have hP := g5_same hP hk1
              generalize H1 = H at hP hS ⊢
              refine lv_if_eq (tgt := 128) hx hb dX5_run_124 (by decide) (fun c_61 => ?_) (fun c_61 => ?_)
              ·
                exact absurd c_61 (by decide)
              ·
                exact W.vret hx hb hr (fun t ht hW => ⟨⟨[(a_k, (oc5 a_h a_j a_pt k_ln k_se k_lh k_br k_we k_me k_ce k_wy k_ho k_ov)), (a_h, (oc1 e_wa e_le e_st e_fo e_lc a_l a_g a_b a_s a_p a_w e_gb a_bb)), (a_g, (oc6 6 5 a_gn e_g)), (a_gn, (arI G 30 f_g)), (a_b, (oc6 5 24 a_bn e_b)), (a_bn, (arI G 120 f_b)), (a_p, (oc6 8 5 a_pn e_p)), (a_pn, (arI G 40 f_p)), (a_bb, (arJ G 24 f_bb)), (a_j, (oc2 a_as a_sk)), (a_as, (arI G 8 k_as)), (a_sk, (arJ G 50 k_sk)), (a_l, (arW G 6 f_l)), (a_lo, (oc3 e_cl a_hd a_sr a_cd)), (a_sr, (arI G n_sr f_sr)), (a_cd, (arI G n_cd f_cd)), (a_hd, (arI G n_hd f_hd)), (a_pt, (arI G 200 k_pt))], rfl, ⟨k_ln, k_se, k_lh, k_br, k_we, k_me, k_ce, k_wy, k_ho, k_ov, k_pt, k_as, k_sk, i_7, i_13, i_15, rfl⟩, by rw [ht]; exact hP.sub [14, 15, 0, 1, 2, 3, 16, 17, 4, 5, 6, 7, 8, 9, 10, 11, 12, 13] rfl, hD.sub [14, 15, 0, 1, 2, 3, 16, 17, 4, 5, 6, 7, 8, 9, 10, 11, 12, 13] (by decide) rfl⟩, hS.F ht⟩) hS.2.2 dX5_run_127
    ·
      exact absurd c_2 (by decide)
  ·
    have hP := g5_same hP hk1
    generalize H1 = H at hP hS ⊢
    refine lv_if_ne (tgt := 55) hx hb dX5_run_48 (by decide) (fun c_62 => ?_) (fun c_62 => ?_)
    ·
      exact absurd c_62 (by decide)
    ·
      refine lv_iconst (v := 1) hx hb dX5_run_51 (by decide) ?_
      refine lv_goto (tgt := 56) hx hb dX5_run_52 (by decide) ?_
      refine va_put (D := G.1) (ci := 5) (v := .int 1) (ty := .boolean) (C := RX5) (T := TX5) (N := 13) hx hb hts inG_X5 tyX5 tyX5_ok nmX5 hown hK hP hD hS 0 rfl rfl 12 (by decide) (hts _ fl_X5_56) (fun _ h9 => h9) rfl (by decide +kernel) rfl rfl (Nat.le_of_ble_eq_true rfl) dX5_run_56 (fun H locs hP hD hS => ?_)
      refine g5_rs [(a_k, (oc5 a_h a_j a_pt 0 (-1) (-1) 1000000 0 e_me p_c p_w p_h 1)), (a_h, (oc1 e_wa e_le e_st e_fo e_lc a_l a_g a_b a_s a_p a_w e_gb a_bb)), (a_g, (oc6 6 5 a_gn e_g)), (a_gn, (arI G 30 f_g)), (a_b, (oc6 5 24 a_bn e_b)), (a_bn, (arI G 120 f_b)), (a_p, (oc6 8 5 a_pn e_p)), (a_pn, (arI G 40 f_p)), (a_bb, (arJ G 24 f_bb)), (a_j, (oc2 a_as a_sk)), (a_as, (arI G 8 f_as)), (a_sk, (arJ G 50 f_sk)), (a_l, (arW G 6 f_l)), (a_lo, (oc3 e_cl a_hd a_sr a_cd)), (a_sr, (arI G n_sr f_sr)), (a_cd, (arI G n_cd f_cd)), (a_hd, (arI G n_hd f_hd)), (a_pt, (arI G 200 f_pt))] hP hD (fun hP hD => ?_)
      refine lv_aload_n hx hb dX5_run_59 rfl (lv_at hl 0 rfl) ?_
      refine va_get (D := G.1) (ci := 5) (v := .ref a_h) (C := RX5) (T := TX5) (N := 13) hx hb hts inG_X5 hown hK hP 0 rfl rfl 0 (by decide) (hts _ fl_X5_22) (fun _ h9 => h9) rfl dX5_run_60 ?_
      refine va_get (D := G.1) (ci := 1) (v := .long e_gb) (C := RX1) (T := TX1) (N := 13) hx hb hts inG_X1 hown hK hP 1 rfl rfl 11 (by decide) (hts _ fl_X5_60) (fun _ h9 => h9) rfl dX5_run_63 ?_
      refine lv_aload_n hx hb dX5_run_66 rfl (lv_at hl 0 rfl) ?_
      refine lv_iload hx hb dX5_run_67 (lv_at hl 4 rfl) ?_
      obtain ⟨hPc, hDc, hFc⟩ := g5_sub3 (wc := [(a_k, (oc5 a_h a_j a_pt 0 (-1) (-1) 1000000 0 e_me p_c p_w p_h 1)), (a_h, (oc1 e_wa e_le e_st e_fo e_lc a_l a_g a_b a_s a_p a_w e_gb a_bb)), (a_p, (oc6 8 5 a_pn e_p)), (a_pn, (arI G 40 f_p))]) hP hD hS hA [0, 1, 6, 7] (by decide) rfl
      refine va_calll (va_runV (As := [.int p_u]) (rest := [.long e_gb]) ⟨hx, hb, hml, hown, hts⟩ (k_hung l G a_k a_h a_p a_pn a_j a_pt a_l a_g a_b a_s a_w a_bb H.size e_le e_st e_fo e_lc e_p 0 (-1) (-1) 1000000 0 e_me p_c p_w p_h 1 p_u e_wa e_gb f_p h_e_p ⟨by decide, by decide⟩ (gOK_cell e_pk)) (cwV 1 hts gV_X5_66 rfl rfl rfl hv_X5_hungBoard ⟨Nat.le_of_ble_eq_true rfl, Nat.le_of_ble_eq_true rfl⟩) (g5_preV hPc hK hDc hN hT hS hFc (ci := 5) (q0 := 0) rfl rfl) rfl rfl hl.1 rfl (lv_room (Nat.le_of_ble_eq_true rfl)) dX5_run_69 ⟨Nat.le_of_ble_eq_true rfl, Nat.le_of_ble_eq_true rfl⟩) hS (fun q _ h => hFc q h) hFc (fun r u t H1 locs ht hvm hw hB hz1 hk1 hS => ?_)
      obtain ⟨hP1, hD1⟩ := hB
      rw [ht] at hP1
      obtain ⟨z64, i_63, y65, rfl⟩ := hw
      have i_63 : inT z64 f_p e_p.toInt := i_63
      obtain ⟨hP, hD⟩ := va_join (wr := [(a_g, (oc6 6 5 a_gn e_g)), (a_gn, (arI G 30 f_g)), (a_b, (oc6 5 24 a_bn e_b)), (a_bn, (arI G 120 f_b)), (a_bb, (arJ G 24 f_bb)), (a_j, (oc2 a_as a_sk)), (a_as, (arI G 8 f_as)), (a_sk, (arJ G 50 f_sk)), (a_l, (arW G 6 f_l)), (a_lo, (oc3 e_cl a_hd a_sr a_cd)), (a_sr, (arI G n_sr f_sr)), (a_cd, (arI G n_cd f_cd)), (a_hd, (arI G n_hd f_hd)), (a_pt, (arI G 200 f_pt))]) hP hD [0, 1, 6, 7] [2, 3, 4, 5, 8, 9, 10, 11, 12, 13, 14, 15, 16, 17] rfl rfl (by decide) (by decide) hk1 hFc hP1 hD1
      generalize H1 = H at hP hS ⊢
      refine g5_rs [(a_g, (oc6 6 5 a_gn e_g)), (a_gn, (arI G 30 f_g)), (a_b, (oc6 5 24 a_bn e_b)), (a_bn, (arI G 120 f_b)), (a_bb, (arJ G 24 f_bb)), (a_j, (oc2 a_as a_sk)), (a_as, (arI G 8 f_as)), (a_sk, (arJ G 50 f_sk)), (a_l, (arW G 6 f_l)), (a_lo, (oc3 e_cl a_hd a_sr a_cd)), (a_sr, (arI G n_sr f_sr)), (a_cd, (arI G n_cd f_cd)), (a_hd, (arI G n_hd f_hd)), (a_pt, (arI G 200 f_pt)), (a_k, (oc5 a_h a_j a_pt 0 (-1) (-1) 1000000 0 e_me p_c p_w p_h 1)), (a_h, (oc1 e_wa e_le e_st e_fo e_lc a_l a_g a_b a_s a_p a_w e_gb a_bb)), (a_p, (oc6 8 5 a_pn e_p)), (a_pn, (arI G 40 f_p))] hP hD (fun hP hD => ?_)
      refine g5_tl (v := z64) y65 ?_
      refine lv_lor hx hb dX5_run_72 ?_
      refine lv_lstore (lv' := [(5, .long (e_gb ||| z64)), (0, .ref a_k), (1, .int p_c), (2, .int p_w), (3, .int p_h), (4, .int p_u)]) hx hb dX5_run_73 hl (by decide) rfl (fun ls hl => ?_)
      refine lv_iconst (v := 0) hx hb dX5_run_75 (by decide) ?_
      refine lv_istore (lv' := [(7, .int 0), (5, .long (e_gb ||| z64)), (0, .ref a_k), (1, .int p_c), (2, .int p_w), (3, .int p_h), (4, .int p_u)]) hx hb dX5_run_76 hl (by decide) rfl (fun ls hl => ?_)
      refine lv_iload hx hb dX5_run_78 (lv_at hl 0 rfl) ?_
      refine lv_sipush (v := 200) hx hb dX5_run_80 (by decide) ?_
      refine lv_icmp_ge (tgt := 227) hx hb dX5_run_83 (by decide) (fun c_66 => ?_) (fun c_66 => ?_)
      ·
        exact absurd c_66 (by decide)
      ·
        refine lv_aload_n hx hb dX5_run_86 rfl (lv_at hl 2 rfl) ?_
        refine va_get (D := G.1) (ci := 5) (v := .int 1) (C := RX5) (T := TX5) (N := 13) hx hb hts inG_X5 hown hK hP 14 rfl rfl 12 (by decide) (hts _ fl_X5_56) (fun _ h9 => h9) rfl dX5_run_87 ?_
        refine lv_if_ne (tgt := 227) hx hb dX5_run_90 (by decide) (fun c_67 => ?_) (fun c_67 => ?_)
        ·
          exact W.vret hx hb hr (fun t ht hW => ⟨⟨[(a_k, (oc5 a_h a_j a_pt 0 (-1) (-1) 1000000 0 e_me p_c p_w p_h 1)), (a_h, (oc1 e_wa e_le e_st e_fo e_lc a_l a_g a_b a_s a_p a_w e_gb a_bb)), (a_g, (oc6 6 5 a_gn e_g)), (a_gn, (arI G 30 f_g)), (a_b, (oc6 5 24 a_bn e_b)), (a_bn, (arI G 120 f_b)), (a_p, (oc6 8 5 a_pn e_p)), (a_pn, (arI G 40 f_p)), (a_bb, (arJ G 24 f_bb)), (a_j, (oc2 a_as a_sk)), (a_as, (arI G 8 f_as)), (a_sk, (arJ G 50 f_sk)), (a_l, (arW G 6 f_l)), (a_lo, (oc3 e_cl a_hd a_sr a_cd)), (a_sr, (arI G n_sr f_sr)), (a_cd, (arI G n_cd f_cd)), (a_hd, (arI G n_hd f_hd)), (a_pt, (arI G 200 f_pt))], rfl, ⟨0, (-1), (-1), 1000000, 0, e_me, p_c, p_w, p_h, 1, f_pt, f_as, f_sk, ⟨by have zc_o_ln : (0 : Int32).toInt = 0 := (by decide); omega, by have zc_o_ln : (0 : Int32).toInt = 0 := (by decide); omega⟩, ⟨by have zc_o_ov : (1 : Int32).toInt = 1 := (by decide); omega, by have zc_o_ov : (1 : Int32).toInt = 1 := (by decide); omega⟩, fun j h => absurd h (by have z : (0 : Int32).toInt = 0 := (by decide); omega), rfl⟩, by rw [ht]; exact hP.sub [14, 15, 0, 1, 2, 3, 16, 17, 4, 5, 6, 7, 8, 9, 10, 11, 12, 13] rfl, hD.sub [14, 15, 0, 1, 2, 3, 16, 17, 4, 5, 6, 7, 8, 9, 10, 11, 12, 13] (by decide) rfl⟩, hS.F ht⟩) hS.2.2 dX5_run_227
        ·
          exact absurd c_67 (by decide)
theorem dgX5_bodiesFrom_0 : ∀ r ∈ ([(0, (.iconst 0, 1)), (1, (.istore_n 3, 1)), (2, (.iconst 0, 1)), (3, (.istore 4, 2)), (5, (.iload 4, 2)), (7, (.iconst 4, 1)), (8, (.if_icmp .ge 39, 3)), (11, (.aload_n 0, 1)), (12, (.iload_n 1, 1)), (13, (.iload 4, 2)), (15, (.iload_n 2, 1)), (16, (.iconst 0, 1)), (17, (.invokevirtual 91, 3)), (20, (.iload_n 3, 1)), (21, (.aload_n 0, 1)), (22, (.getfield 39, 3)), (25, (.iconst (-1), 1)), (26, (.if_icmp .ne 7, 3)), (29, (.iconst 0, 1)), (30, (.goto 9, 3)), (33, (.iconst 1, 1)), (34, (.aload_n 0, 1)), (35, (.getfield 39, 3)), (38, (.ishl, 1)), (39, (.ior, 1)), (40, (.istore_n 3, 1)), (41, (.iinc 4 1, 3)), (44, (.goto (-39), 3)), (47, (.iload_n 3, 1)), (48, (.ireturn, 1))] : List (Nat × (Instr × Nat))), decode cX5_bodiesFrom r.1 = .ok r.2 := by decide +kernel
theorem dX5_bodiesFrom_0 : decode cX5_bodiesFrom 0 = .ok (.iconst 0, 1) := dgX5_bodiesFrom_0 (0, (.iconst 0, 1)) (List.mem_of_getElem? (i := 0) rfl)
theorem dX5_bodiesFrom_1 : decode cX5_bodiesFrom 1 = .ok (.istore_n 3, 1) := dgX5_bodiesFrom_0 (1, (.istore_n 3, 1)) (List.mem_of_getElem? (i := 1) rfl)
theorem dX5_bodiesFrom_2 : decode cX5_bodiesFrom 2 = .ok (.iconst 0, 1) := dgX5_bodiesFrom_0 (2, (.iconst 0, 1)) (List.mem_of_getElem? (i := 2) rfl)
theorem dX5_bodiesFrom_3 : decode cX5_bodiesFrom 3 = .ok (.istore 4, 2) := dgX5_bodiesFrom_0 (3, (.istore 4, 2)) (List.mem_of_getElem? (i := 3) rfl)
theorem dX5_bodiesFrom_5 : decode cX5_bodiesFrom 5 = .ok (.iload 4, 2) := dgX5_bodiesFrom_0 (5, (.iload 4, 2)) (List.mem_of_getElem? (i := 4) rfl)
theorem dX5_bodiesFrom_7 : decode cX5_bodiesFrom 7 = .ok (.iconst 4, 1) := dgX5_bodiesFrom_0 (7, (.iconst 4, 1)) (List.mem_of_getElem? (i := 5) rfl)
theorem dX5_bodiesFrom_8 : decode cX5_bodiesFrom 8 = .ok (.if_icmp .ge 39, 3) := dgX5_bodiesFrom_0 (8, (.if_icmp .ge 39, 3)) (List.mem_of_getElem? (i := 6) rfl)
theorem dX5_bodiesFrom_11 : decode cX5_bodiesFrom 11 = .ok (.aload_n 0, 1) := dgX5_bodiesFrom_0 (11, (.aload_n 0, 1)) (List.mem_of_getElem? (i := 7) rfl)
theorem dX5_bodiesFrom_12 : decode cX5_bodiesFrom 12 = .ok (.iload_n 1, 1) := dgX5_bodiesFrom_0 (12, (.iload_n 1, 1)) (List.mem_of_getElem? (i := 8) rfl)
theorem dX5_bodiesFrom_13 : decode cX5_bodiesFrom 13 = .ok (.iload 4, 2) := dgX5_bodiesFrom_0 (13, (.iload 4, 2)) (List.mem_of_getElem? (i := 9) rfl)
theorem dX5_bodiesFrom_15 : decode cX5_bodiesFrom 15 = .ok (.iload_n 2, 1) := dgX5_bodiesFrom_0 (15, (.iload_n 2, 1)) (List.mem_of_getElem? (i := 10) rfl)
theorem dX5_bodiesFrom_16 : decode cX5_bodiesFrom 16 = .ok (.iconst 0, 1) := dgX5_bodiesFrom_0 (16, (.iconst 0, 1)) (List.mem_of_getElem? (i := 11) rfl)
theorem dX5_bodiesFrom_17 : decode cX5_bodiesFrom 17 = .ok (.invokevirtual 91, 3) := dgX5_bodiesFrom_0 (17, (.invokevirtual 91, 3)) (List.mem_of_getElem? (i := 12) rfl)
theorem dX5_bodiesFrom_20 : decode cX5_bodiesFrom 20 = .ok (.iload_n 3, 1) := dgX5_bodiesFrom_0 (20, (.iload_n 3, 1)) (List.mem_of_getElem? (i := 13) rfl)
theorem dX5_bodiesFrom_21 : decode cX5_bodiesFrom 21 = .ok (.aload_n 0, 1) := dgX5_bodiesFrom_0 (21, (.aload_n 0, 1)) (List.mem_of_getElem? (i := 14) rfl)
theorem dX5_bodiesFrom_22 : decode cX5_bodiesFrom 22 = .ok (.getfield 39, 3) := dgX5_bodiesFrom_0 (22, (.getfield 39, 3)) (List.mem_of_getElem? (i := 15) rfl)
theorem dX5_bodiesFrom_25 : decode cX5_bodiesFrom 25 = .ok (.iconst (-1), 1) := dgX5_bodiesFrom_0 (25, (.iconst (-1), 1)) (List.mem_of_getElem? (i := 16) rfl)
theorem dX5_bodiesFrom_26 : decode cX5_bodiesFrom 26 = .ok (.if_icmp .ne 7, 3) := dgX5_bodiesFrom_0 (26, (.if_icmp .ne 7, 3)) (List.mem_of_getElem? (i := 17) rfl)
theorem dX5_bodiesFrom_29 : decode cX5_bodiesFrom 29 = .ok (.iconst 0, 1) := dgX5_bodiesFrom_0 (29, (.iconst 0, 1)) (List.mem_of_getElem? (i := 18) rfl)
theorem dX5_bodiesFrom_30 : decode cX5_bodiesFrom 30 = .ok (.goto 9, 3) := dgX5_bodiesFrom_0 (30, (.goto 9, 3)) (List.mem_of_getElem? (i := 19) rfl)
theorem dX5_bodiesFrom_33 : decode cX5_bodiesFrom 33 = .ok (.iconst 1, 1) := dgX5_bodiesFrom_0 (33, (.iconst 1, 1)) (List.mem_of_getElem? (i := 20) rfl)
theorem dX5_bodiesFrom_34 : decode cX5_bodiesFrom 34 = .ok (.aload_n 0, 1) := dgX5_bodiesFrom_0 (34, (.aload_n 0, 1)) (List.mem_of_getElem? (i := 21) rfl)
theorem dX5_bodiesFrom_35 : decode cX5_bodiesFrom 35 = .ok (.getfield 39, 3) := dgX5_bodiesFrom_0 (35, (.getfield 39, 3)) (List.mem_of_getElem? (i := 22) rfl)
theorem dX5_bodiesFrom_38 : decode cX5_bodiesFrom 38 = .ok (.ishl, 1) := dgX5_bodiesFrom_0 (38, (.ishl, 1)) (List.mem_of_getElem? (i := 23) rfl)
theorem dX5_bodiesFrom_39 : decode cX5_bodiesFrom 39 = .ok (.ior, 1) := dgX5_bodiesFrom_0 (39, (.ior, 1)) (List.mem_of_getElem? (i := 24) rfl)
theorem dX5_bodiesFrom_40 : decode cX5_bodiesFrom 40 = .ok (.istore_n 3, 1) := dgX5_bodiesFrom_0 (40, (.istore_n 3, 1)) (List.mem_of_getElem? (i := 25) rfl)
theorem dX5_bodiesFrom_41 : decode cX5_bodiesFrom 41 = .ok (.iinc 4 1, 3) := dgX5_bodiesFrom_0 (41, (.iinc 4 1, 3)) (List.mem_of_getElem? (i := 26) rfl)
theorem dX5_bodiesFrom_44 : decode cX5_bodiesFrom 44 = .ok (.goto (-39), 3) := dgX5_bodiesFrom_0 (44, (.goto (-39), 3)) (List.mem_of_getElem? (i := 27) rfl)
theorem dX5_bodiesFrom_47 : decode cX5_bodiesFrom 47 = .ok (.iload_n 3, 1) := dgX5_bodiesFrom_0 (47, (.iload_n 3, 1)) (List.mem_of_getElem? (i := 28) rfl)
theorem dX5_bodiesFrom_48 : decode cX5_bodiesFrom 48 = .ok (.ireturn, 1) := dgX5_bodiesFrom_0 (48, (.ireturn, 1)) (List.mem_of_getElem? (i := 29) rfl)
theorem ml_X5_91 : Cond.methodLink RX5 91 yX5_run ∈ tblG := tg 882 (by decide +kernel) (by decide +kernel)
theorem im_X5_run : Cond.instanceMethod yX5_run ∈ tblG := tg 812 (by decide +kernel) (by decide +kernel)
theorem se_X5_run : Cond.selects RX5 yX5_run yX5_run ∈ tblG := tg 813 (by decide +kernel) (by decide +kernel)
theorem cd_X5_run : Cond.code yX5_run cX5_run 9 none ∈ tblG := tg 814 (by decide +kernel) (by decide +kernel)
theorem gW_X5_run : GoodIn tblG (wsG yX5_run cX5_run 9 none) := tgi cd_X5_run
theorem gV_X5_91 : GoodIn tblG (wsV RX5 91 RX5 yX5_run (wsG yX5_run cX5_run 9 none)) := tgV ml_X5_91 im_X5_run se_X5_run ini_X5 gW_X5_run
theorem hv_X5_run : yX5_run.cls = RX5 ∧ yX5_run.cls ≠ "java/lang/invoke/MethodHandle" ∧ yX5_run.cls ≠ "java/lang/invoke/VarHandle" ∧ (parseMethodDescriptor yX5_run.desc).map (fun d => d.parameters.length) = some 4 := by decide +kernel
set_option maxHeartbeats 4000000 in
set_option maxRecDepth 100000 in
theorem s_bodiesFromN (l : Launch) (G : g5_G) (a_k a_h a_g a_gn a_b a_bn a_p a_pn a_bb a_j a_as a_sk a_l a_pt a_s a_w : Nat) (sz : Nat) (e_le : Int32) (e_st : Int32) (e_fo : Int32) (e_lc : Int32) (e_g : Int32) (e_b : Int32) (e_p : Int32) (e_ln : Int32) (e_se : Int32) (e_lh : Int32) (e_br : Int32) (e_we : Int32) (e_me : Int32) (e_ce : Int32) (e_wy : Int32) (e_ho : Int32) (e_ov : Int32) (p_c : Int32) (p_h : Int32) (e_wa : Int64) (e_gb : Int64) (f_g : Nat → Int32) (f_b : Nat → Int32) (f_p : Nat → Int32) (f_bb : Nat → Int64) (f_as : Nat → Int32) (f_sk : Nat → Int64) (f_l : Nat → Option Nat) (f_pt : Nat → Int32) (h_e_g : 0 ≤ e_g.toInt ∧ e_g.toInt ≤ 6) (h_e_b : 0 ≤ e_b.toInt ∧ e_b.toInt ≤ 5) (h_e_p : 0 ≤ e_p.toInt ∧ e_p.toInt ≤ 8) (h_e_ov : 0 ≤ e_ov.toInt ∧ e_ov.toInt ≤ 1) (e_gk : gOK f_g e_g.toInt) (e_pk : gOK f_p e_p.toInt) (e_gi : inT e_gb f_g e_g.toInt) (e_f : e_fo.toInt < 0 ∨ e_lc.toInt ≤ e_fo.toInt) : Met l yX5_bodiesFrom (wsG yX5_bodiesFrom cX5_bodiesFrom 5 (some .int)) ({ frames := 14, cells := 0, slots := 0, locals := 556 }) (va_Pc [.ref a_k, .int p_c, .int p_h] (g5_P G [(a_k, (oc5 a_h a_j a_pt e_ln e_se e_lh e_br e_we e_me e_ce e_wy e_ho e_ov)), (a_h, (oc1 e_wa e_le e_st e_fo e_lc a_l a_g a_b a_s a_p a_w e_gb a_bb)), (a_g, (oc6 6 5 a_gn e_g)), (a_gn, (arI G 30 f_g)), (a_b, (oc6 5 24 a_bn e_b)), (a_bn, (arI G 120 f_b)), (a_p, (oc6 8 5 a_pn e_p)), (a_pn, (arI G 40 f_p)), (a_bb, (arJ G 24 f_bb)), (a_j, (oc2 a_as a_sk)), (a_as, (arI G 8 f_as)), (a_sk, (arJ G 50 f_sk)), (a_l, (arW G 6 f_l)), (a_pt, (arI G 200 f_pt))] sz)) (va_Qi (fun (r : Int32) (u : va_W) => (∃ (o_r : Int32) (o_ln : Int32) (o_se : Int32) (o_lh : Int32) (o_br : Int32) (o_we : Int32) (o_me : Int32) (o_ce : Int32) (o_wy : Int32) (o_ho : Int32) (o_ov : Int32) (o_pt : Nat → Int32) (o_as : Nat → Int32) (o_sk : Nat → Int64), (0 ≤ o_ov.toInt ∧ o_ov.toInt ≤ 1) ∧ (r = o_r) ∧ (u = [(a_k, (oc5 a_h a_j a_pt o_ln o_se o_lh o_br o_we o_me o_ce o_wy o_ho o_ov)), (a_h, (oc1 e_wa e_le e_st e_fo e_lc a_l a_g a_b a_s a_p a_w e_gb a_bb)), (a_g, (oc6 6 5 a_gn e_g)), (a_gn, (arI G 30 f_g)), (a_b, (oc6 5 24 a_bn e_b)), (a_bn, (arI G 120 f_b)), (a_p, (oc6 8 5 a_pn e_p)), (a_pn, (arI G 40 f_p)), (a_bb, (arJ G 24 f_bb)), (a_j, (oc2 a_as a_sk)), (a_as, (arI G 8 o_as)), (a_sk, (arJ G 50 o_sk)), (a_l, (arW G 6 f_l)), (a_pt, (arI G 200 o_pt))]))) (g5_B G (va_A [(a_k, (oc5 a_h a_j a_pt e_ln e_se e_lh e_br e_we e_me e_ce e_wy e_ho e_ov)), (a_h, (oc1 e_wa e_le e_st e_fo e_lc a_l a_g a_b a_s a_p a_w e_gb a_bb)), (a_g, (oc6 6 5 a_gn e_g)), (a_gn, (arI G 30 f_g)), (a_b, (oc6 5 24 a_bn e_b)), (a_bn, (arI G 120 f_b)), (a_p, (oc6 8 5 a_pn e_p)), (a_pn, (arI G 40 f_p)), (a_bb, (arJ G 24 f_bb)), (a_j, (oc2 a_as a_sk)), (a_as, (arI G 8 f_as)), (a_sk, (arJ G 50 f_sk)), (a_l, (arW G 6 f_l)), (a_pt, (arI G 200 f_pt))] sz)) (va_A [(a_k, (oc5 a_h a_j a_pt e_ln e_se e_lh e_br e_we e_me e_ce e_wy e_ho e_ov)), (a_h, (oc1 e_wa e_le e_st e_fo e_lc a_l a_g a_b a_s a_p a_w e_gb a_bb)), (a_g, (oc6 6 5 a_gn e_g)), (a_gn, (arI G 30 f_g)), (a_b, (oc6 5 24 a_bn e_b)), (a_bn, (arI G 120 f_b)), (a_p, (oc6 8 5 a_pn e_p)), (a_pn, (arI G 40 f_p)), (a_bb, (arJ G 24 f_bb)), (a_j, (oc2 a_as a_sk)), (a_as, (arI G 8 f_as)), (a_sk, (arJ G 50 f_sk)), (a_l, (arW G 6 f_l)), (a_pt, (arI G 200 f_pt))] sz)) 0 0 (va_A [(a_k, (oc5 a_h a_j a_pt e_ln e_se e_lh e_br e_we e_me e_ce e_wy e_ho e_ov)), (a_h, (oc1 e_wa e_le e_st e_fo e_lc a_l a_g a_b a_s a_p a_w e_gb a_bb)), (a_g, (oc6 6 5 a_gn e_g)), (a_gn, (arI G 30 f_g)), (a_b, (oc6 5 24 a_bn e_b)), (a_bn, (arI G 120 f_b)), (a_p, (oc6 8 5 a_pn e_p)), (a_pn, (arI G 40 f_p)), (a_bb, (arJ G 24 f_bb)), (a_j, (oc2 a_as a_sk)), (a_as, (arI G 8 f_as)), (a_sk, (arJ G 50 f_sk)), (a_l, (arW G 6 f_l)), (a_pt, (arI G 200 f_pt))] sz) := by
  refine Met.ofW (cc := cX5_bodiesFrom) (maxL := 5) (ret := (some .int)) (by decide) rfl ?_
  intro p e s m args below meth c s₁ B hml hv
  obtain ⟨rfl, hsz, hP, hK, hD0, hN, hT⟩ := hv
  have hx := B.exec
  have hb := B.bytes
  have hr := B.returns
  have hts : ∀ w ∈ tblG, w.before _ s = true := fun w h => atoms_spec (ws := (wsG yX5_bodiesFrom cX5_bodiesFrom 5 (some .int))) B.pre w (List.mem_cons_of_mem _ h)
  have hown : s.vm.findClass RX5 = some m.cls := findClass_of_methodNamed B.named
  have hlocks := B.notSynchronized
  subst hsz
  have hD := hD0.self (sz := s.heap.size)
  generalize hAe : va_A [(a_k, (oc5 a_h a_j a_pt e_ln e_se e_lh e_br e_we e_me e_ce e_wy e_ho e_ov)), (a_h, (oc1 e_wa e_le e_st e_fo e_lc a_l a_g a_b a_s a_p a_w e_gb a_bb)), (a_g, (oc6 6 5 a_gn e_g)), (a_gn, (arI G 30 f_g)), (a_b, (oc6 5 24 a_bn e_b)), (a_bn, (arI G 120 f_b)), (a_p, (oc6 8 5 a_pn e_p)), (a_pn, (arI G 40 f_p)), (a_bb, (arJ G 24 f_bb)), (a_j, (oc2 a_as a_sk)), (a_as, (arI G 8 f_as)), (a_sk, (arJ G 50 f_sk)), (a_l, (arW G 6 f_l)), (a_pt, (arI G 200 f_pt))] s.heap.size = A at hD hT ⊢
  have hA : ∀ q : Nat, s.heap.size ≤ q → A q := fun q h => by rw [← hAe]; exact Or.inr h
  have hS : va_S A s.heap s.heap [] := va_S.rf
  have hP : va_P G.1 vwCl [(a_k, (oc5 a_h a_j a_pt e_ln e_se e_lh e_br e_we e_me e_ce e_wy e_ho e_ov)), (a_h, (oc1 e_wa e_le e_st e_fo e_lc a_l a_g a_b a_s a_p a_w e_gb a_bb)), (a_g, (oc6 6 5 a_gn e_g)), (a_gn, (arI G 30 f_g)), (a_b, (oc6 5 24 a_bn e_b)), (a_bn, (arI G 120 f_b)), (a_p, (oc6 8 5 a_pn e_p)), (a_pn, (arI G 40 f_p)), (a_bb, (arJ G 24 f_bb)), (a_j, (oc2 a_as a_sk)), (a_as, (arI G 8 f_as)), (a_sk, (arJ G 50 f_sk)), (a_l, (arW G 6 f_l)), (a_pt, (arI G 200 f_pt))] s.heap := hP
  have hl := lv_entry ([.ref a_k, .int p_c, .int p_h]) (n := 5) (Nat.le_of_ble_eq_true rfl)
  rw [lg_entry_eq]
  generalize (lg_sl ([.ref a_k, .int p_c, .int p_h]) ++ List.replicate (5 - (lg_sl ([.ref a_k, .int p_c, .int p_h])).length) Slot.unset).toArray = ls at hl ⊢
  have hl : lv_has ls 5 [(0, .ref a_k), (1, .int p_c), (2, .int p_h)] := hl
  refine lv_iconst (v := 0) hx hb dX5_bodiesFrom_0 (by decide) ?_
  refine lv_istore_n (lv' := [(3, .int 0), (0, .ref a_k), (1, .int p_c), (2, .int p_h)]) hx hb dX5_bodiesFrom_1 rfl hl (by decide) rfl (fun ls hl => ?_)
  refine lv_iconst (v := 0) hx hb dX5_bodiesFrom_2 (by decide) ?_
  refine lv_istore (lv' := [(4, .int 0), (3, .int 0), (0, .ref a_k), (1, .int p_c), (2, .int p_h)]) hx hb dX5_bodiesFrom_3 hl (by decide) rfl (fun ls hl => ?_)
  refine g5_loop (α := (Int32) × (Int32) × (Int32) × (Int32) × (Int32) × (Int32) × (Int32) × (Int32) × (Int32) × (Int32) × (Int32) × (Nat → Int32) × (Nat → Int32) × (Nat → Int64) × (Int32)) (fun (q : (Int32) × (Int32) × (Int32) × (Int32) × (Int32) × (Int32) × (Int32) × (Int32) × (Int32) × (Int32) × (Int32) × (Nat → Int32) × (Nat → Int32) × (Nat → Int64) × (Int32)) (ls : Array Slot) (H : Heap) (locs : List Loc) => match q with | (k_d, k_b, k_se, k_lh, k_br, k_we, k_me, k_ce, k_wy, k_ho, k_ov, k_pt, k_as, k_sk, k_ln) => lv_has ls 5 [(3, .int k_b), (4, .int k_d), (0, .ref a_k), (1, .int p_c), (2, .int p_h)] ∧ va_P G.1 vwCl [(a_k, (oc5 a_h a_j a_pt k_ln k_se k_lh k_br k_we k_me k_ce k_wy k_ho k_ov)), (a_h, (oc1 e_wa e_le e_st e_fo e_lc a_l a_g a_b a_s a_p a_w e_gb a_bb)), (a_g, (oc6 6 5 a_gn e_g)), (a_gn, (arI G 30 f_g)), (a_b, (oc6 5 24 a_bn e_b)), (a_bn, (arI G 120 f_b)), (a_p, (oc6 8 5 a_pn e_p)), (a_pn, (arI G 40 f_p)), (a_bb, (arJ G 24 f_bb)), (a_j, (oc2 a_as a_sk)), (a_as, (arI G 8 k_as)), (a_sk, (arJ G 50 k_sk)), (a_l, (arW G 6 f_l)), (a_pt, (arI G 200 k_pt))] H ∧ va_D A [(a_k, (oc5 a_h a_j a_pt k_ln k_se k_lh k_br k_we k_me k_ce k_wy k_ho k_ov)), (a_h, (oc1 e_wa e_le e_st e_fo e_lc a_l a_g a_b a_s a_p a_w e_gb a_bb)), (a_g, (oc6 6 5 a_gn e_g)), (a_gn, (arI G 30 f_g)), (a_b, (oc6 5 24 a_bn e_b)), (a_bn, (arI G 120 f_b)), (a_p, (oc6 8 5 a_pn e_p)), (a_pn, (arI G 40 f_p)), (a_bb, (arJ G 24 f_bb)), (a_j, (oc2 a_as a_sk)), (a_as, (arI G 8 k_as)), (a_sk, (arJ G 50 k_sk)), (a_l, (arW G 6 f_l)), (a_pt, (arI G 200 k_pt))] ∧ va_S A s.heap H locs ∧ (0 ≤ k_d.toInt ∧ k_d.toInt ≤ 4) ∧ (0 ≤ k_ov.toInt ∧ k_ov.toInt ≤ 1)) (fun (q : (Int32) × (Int32) × (Int32) × (Int32) × (Int32) × (Int32) × (Int32) × (Int32) × (Int32) × (Int32) × (Int32) × (Nat → Int32) × (Nat → Int32) × (Nat → Int64) × (Int32)) => match q with | (k_d, k_b, k_se, k_lh, k_br, k_we, k_me, k_ce, k_wy, k_ho, k_ov, k_pt, k_as, k_sk, k_ln) => Int.toNat (4 - k_d.toInt)) (0, 0, e_se, e_lh, e_br, e_we, e_me, e_ce, e_wy, e_ho, e_ov, f_pt, f_as, f_sk, e_ln) ⟨lv_sub hl [1, 0, 2, 3, 4] rfl, hP, hD, hS, ⟨by decide, by decide⟩, h_e_ov⟩ ?_
  rintro ⟨k_d, k_b, k_se, k_lh, k_br, k_we, k_me, k_ce, k_wy, k_ho, k_ov, k_pt, k_as, k_sk, k_ln⟩ ls H locs ⟨hl, hP, hD, hS, i_1, i_2⟩ ih_5_3
  have hl : lv_has ls 5 [(3, .int k_b), (4, .int k_d), (0, .ref a_k), (1, .int p_c), (2, .int p_h)] := hl
  have i_1 : 0 ≤ k_d.toInt ∧ k_d.toInt ≤ 4 := i_1
  have i_2 : 0 ≤ k_ov.toInt ∧ k_ov.toInt ≤ 1 := i_2
  refine g5_rs [(a_k, (oc5 a_h a_j a_pt k_ln k_se k_lh k_br k_we k_me k_ce k_wy k_ho k_ov)), (a_h, (oc1 e_wa e_le e_st e_fo e_lc a_l a_g a_b a_s a_p a_w e_gb a_bb)), (a_g, (oc6 6 5 a_gn e_g)), (a_gn, (arI G 30 f_g)), (a_b, (oc6 5 24 a_bn e_b)), (a_bn, (arI G 120 f_b)), (a_p, (oc6 8 5 a_pn e_p)), (a_pn, (arI G 40 f_p)), (a_bb, (arJ G 24 f_bb)), (a_j, (oc2 a_as a_sk)), (a_as, (arI G 8 k_as)), (a_sk, (arJ G 50 k_sk)), (a_l, (arW G 6 f_l)), (a_pt, (arI G 200 k_pt))] hP hD (fun hP hD => ?_)
  refine lv_iload hx hb dX5_bodiesFrom_5 (lv_at hl 1 rfl) ?_
  refine lv_iconst (v := 4) hx hb dX5_bodiesFrom_7 (by decide) ?_
  refine lv_icmp_ge (tgt := 47) hx hb dX5_bodiesFrom_8 (by decide) (fun c_4 => ?_) (fun c_4 => ?_)
  ·
    have i_4 : k_d.toInt ≥ 4 := by have z := g5_ge (a := k_d.toInt) (b := 4) (by rfl) (by decide) c_4; omega
    refine lv_iload_n hx hb dX5_bodiesFrom_47 rfl (lv_at hl 0 rfl) ?_
    exact W.iret (v := k_b) hx hb hr (fun t ht hW => ⟨⟨k_b, [(a_k, (oc5 a_h a_j a_pt k_ln k_se k_lh k_br k_we k_me k_ce k_wy k_ho k_ov)), (a_h, (oc1 e_wa e_le e_st e_fo e_lc a_l a_g a_b a_s a_p a_w e_gb a_bb)), (a_g, (oc6 6 5 a_gn e_g)), (a_gn, (arI G 30 f_g)), (a_b, (oc6 5 24 a_bn e_b)), (a_bn, (arI G 120 f_b)), (a_p, (oc6 8 5 a_pn e_p)), (a_pn, (arI G 40 f_p)), (a_bb, (arJ G 24 f_bb)), (a_j, (oc2 a_as a_sk)), (a_as, (arI G 8 k_as)), (a_sk, (arJ G 50 k_sk)), (a_l, (arW G 6 f_l)), (a_pt, (arI G 200 k_pt))], rfl, ⟨k_b, k_ln, k_se, k_lh, k_br, k_we, k_me, k_ce, k_wy, k_ho, k_ov, k_pt, k_as, k_sk, i_2, rfl, rfl⟩, by rw [ht]; exact hP.sub [0, 1, 2, 3, 4, 5, 6, 7, 8, 9, 10, 11, 12, 13] rfl, hD.sub [0, 1, 2, 3, 4, 5, 6, 7, 8, 9, 10, 11, 12, 13] (by decide) rfl⟩, hS.F ht⟩) hS.2.2 dX5_bodiesFrom_48
  ·
    have i_4 : k_d.toInt < 4 := by have z := g5_geN (a := k_d.toInt) (b := 4) (by rfl) (by decide) c_4; omega
    refine lv_aload_n hx hb dX5_bodiesFrom_11 rfl (lv_at hl 2 rfl) ?_
    refine lv_iload_n hx hb dX5_bodiesFrom_12 rfl (lv_at hl 3 rfl) ?_
    refine lv_iload hx hb dX5_bodiesFrom_13 (lv_at hl 1 rfl) ?_
    refine lv_iload_n hx hb dX5_bodiesFrom_15 rfl (lv_at hl 4 rfl) ?_
    refine lv_iconst (v := 0) hx hb dX5_bodiesFrom_16 (by decide) ?_
    obtain ⟨hPc, hDc, hFc⟩ := g5_sub3 (wc := [(a_k, (oc5 a_h a_j a_pt k_ln k_se k_lh k_br k_we k_me k_ce k_wy k_ho k_ov)), (a_h, (oc1 e_wa e_le e_st e_fo e_lc a_l a_g a_b a_s a_p a_w e_gb a_bb)), (a_g, (oc6 6 5 a_gn e_g)), (a_gn, (arI G 30 f_g)), (a_b, (oc6 5 24 a_bn e_b)), (a_bn, (arI G 120 f_b)), (a_p, (oc6 8 5 a_pn e_p)), (a_pn, (arI G 40 f_p)), (a_bb, (arJ G 24 f_bb)), (a_j, (oc2 a_as a_sk)), (a_as, (arI G 8 k_as)), (a_sk, (arJ G 50 k_sk)), (a_l, (arW G 6 f_l)), (a_pt, (arI G 200 k_pt))]) hP hD hS hA [0, 1, 2, 3, 4, 5, 6, 7, 8, 9, 10, 11, 12, 13] (by decide) rfl
    refine va_callv (va_runV (As := [.int p_c, .int k_d, .int p_h, .int 0]) (rest := []) ⟨hx, hb, hml, hown, hts⟩ (k_runN l G a_k a_h a_g a_gn a_b a_bn a_p a_pn a_bb a_j a_as a_sk a_l a_pt a_s a_w H.size e_le e_st e_fo e_lc e_g e_b e_p k_ln k_se k_lh k_br k_we k_me k_ce k_wy k_ho k_ov p_c k_d p_h 0 e_wa e_gb f_g f_b f_p f_bb k_as k_sk f_l k_pt h_e_g h_e_b h_e_p i_2 (e_gk) (e_pk) (e_gi) (e_f)) (cwV 4 hts gV_X5_91 rfl rfl rfl hv_X5_run ⟨Nat.le_of_ble_eq_true rfl, Nat.le_of_ble_eq_true rfl⟩) (g5_preV hPc hK hDc hN hT hS hFc (ci := 5) (q0 := 0) rfl rfl) rfl rfl hl.1 rfl (lv_room (Nat.le_of_ble_eq_true rfl)) dX5_bodiesFrom_17 ⟨Nat.le_of_ble_eq_true rfl, Nat.le_of_ble_eq_true rfl⟩) hS (fun q _ h => hFc q h) hFc (fun u t H1 locs ht hvm hw hB hz1 hk1 hS => ?_)
    obtain ⟨hP1, hD1⟩ := hB
    rw [ht] at hP1
    obtain ⟨z8, z9, z10, z11, z12, z13, z14, z15, z16, z17, z18, z19, z20, i_5, i_6, i_7, rfl⟩ := hw
    have i_5 : 0 ≤ z8.toInt ∧ z8.toInt ≤ 200 := i_5
    have i_6 : 0 ≤ z17.toInt ∧ z17.toInt ≤ 1 := i_6
    have i_7 : ∀ j : Nat, (j : Int) < z8.toInt → 0 ≤ (z18 j).toInt ∧ (z18 j).toInt ≤ 1535 := i_7
    obtain ⟨hP, hD⟩ := va_join (wr := []) hP hD [0, 1, 2, 3, 4, 5, 6, 7, 8, 9, 10, 11, 12, 13] [] rfl rfl (by decide) (by decide) hk1 hFc hP1 hD1
    generalize H1 = H at hP hS ⊢
    refine g5_rs [(a_k, (oc5 a_h a_j a_pt z8 z9 z10 z11 z12 z13 z14 z15 z16 z17)), (a_h, (oc1 e_wa e_le e_st e_fo e_lc a_l a_g a_b a_s a_p a_w e_gb a_bb)), (a_g, (oc6 6 5 a_gn e_g)), (a_gn, (arI G 30 f_g)), (a_b, (oc6 5 24 a_bn e_b)), (a_bn, (arI G 120 f_b)), (a_p, (oc6 8 5 a_pn e_p)), (a_pn, (arI G 40 f_p)), (a_bb, (arJ G 24 f_bb)), (a_j, (oc2 a_as a_sk)), (a_as, (arI G 8 z19)), (a_sk, (arJ G 50 z20)), (a_l, (arW G 6 f_l)), (a_pt, (arI G 200 z18))] hP hD (fun hP hD => ?_)
    refine lv_iload_n hx hb dX5_bodiesFrom_20 rfl (lv_at hl 0 rfl) ?_
    refine lv_aload_n hx hb dX5_bodiesFrom_21 rfl (lv_at hl 2 rfl) ?_
    refine va_get (D := G.1) (ci := 5) (v := .int z9) (C := RX5) (T := TX5) (N := 13) hx hb hts inG_X5 hown hK hP 0 rfl rfl 4 (by decide) (hts _ fl_X5_39) (fun _ h9 => h9) rfl dX5_bodiesFrom_22 ?_
    refine lv_iconst (v := (-1)) hx hb dX5_bodiesFrom_25 (by decide) ?_
    refine lv_icmp_ne (tgt := 33) hx hb dX5_bodiesFrom_26 (by decide) (fun c_21 => ?_) (fun c_21 => ?_)
    ·
      have n_21 : gNe (z9.toInt) ((-1)) := by have z := g5_ne (a := z9.toInt) (b := (-1)) (by rfl) (by decide) c_21; unfold gNe; omega
      refine lv_iconst (v := 1) hx hb dX5_bodiesFrom_33 (by decide) ?_
      refine lv_aload_n hx hb dX5_bodiesFrom_34 rfl (lv_at hl 2 rfl) ?_
      refine va_get (D := G.1) (ci := 5) (v := .int z9) (C := RX5) (T := TX5) (N := 13) hx hb hts inG_X5 hown hK hP 0 rfl rfl 4 (by decide) (hts _ fl_X5_39) (fun _ h9 => h9) rfl dX5_bodiesFrom_35 ?_
      refine lv_ishl hx hb dX5_bodiesFrom_38 ?_
      refine lv_ior hx hb dX5_bodiesFrom_39 ?_
      refine lv_istore_n (lv' := [(3, .int (k_b ||| (1 <<< (z9 &&& 31)))), (4, .int k_d), (0, .ref a_k), (1, .int p_c), (2, .int p_h)]) hx hb dX5_bodiesFrom_40 rfl hl (by decide) rfl (fun ls hl => ?_)
      refine lv_iinc (v := (k_d + 1)) (lv' := [(4, .int (k_d + 1)), (3, .int (k_b ||| (1 <<< (z9 &&& 31)))), (0, .ref a_k), (1, .int p_c), (2, .int p_h)]) hx hb dX5_bodiesFrom_41 hl (k := 1) rfl rfl (by decide) rfl (fun ls hl => ?_)
      have t_22 : (k_d + 1).toInt = k_d.toInt + 1 := g5_iadd (a := k_d.toInt) (b := 1) rfl (by decide) (by omega) (by omega)
      refine lv_goto (tgt := 5) hx hb dX5_bodiesFrom_44 (by decide) ?_
      exact ih_5_3 ((k_d + 1), (k_b ||| (1 <<< (z9 &&& 31))), z9, z10, z11, z12, z13, z14, z15, z16, z17, z18, z19, z20, z8) ls H locs (show Int.toNat (4 - (k_d + 1).toInt) < Int.toNat (4 - k_d.toInt) from g_up (show k_d.toInt < (k_d + 1).toInt by omega) (show k_d.toInt < 4 by omega)) ⟨lv_sub hl [1, 0, 2, 3, 4] rfl, hP, hD, hS, ⟨by omega, by omega⟩, i_6⟩
    ·
      have i_21 : z9.toInt = (-1) := by have z := g5_neN (a := z9.toInt) (b := (-1)) (by rfl) (by decide) c_21; omega
      refine lv_iconst (v := 0) hx hb dX5_bodiesFrom_29 (by decide) ?_
      refine lv_goto (tgt := 39) hx hb dX5_bodiesFrom_30 (by decide) ?_
      refine lv_ior hx hb dX5_bodiesFrom_39 ?_
      refine g5_ti (v := k_b) (by simp) ?_
      refine lv_istore_n (lv' := [(3, .int k_b), (4, .int k_d), (0, .ref a_k), (1, .int p_c), (2, .int p_h)]) hx hb dX5_bodiesFrom_40 rfl hl (by decide) rfl (fun ls hl => ?_)
      refine lv_iinc (v := (k_d + 1)) (lv' := [(4, .int (k_d + 1)), (3, .int k_b), (0, .ref a_k), (1, .int p_c), (2, .int p_h)]) hx hb dX5_bodiesFrom_41 hl (k := 1) rfl rfl (by decide) rfl (fun ls hl => ?_)
      have t_23 : (k_d + 1).toInt = k_d.toInt + 1 := g5_iadd (a := k_d.toInt) (b := 1) rfl (by decide) (by omega) (by omega)
      refine lv_goto (tgt := 5) hx hb dX5_bodiesFrom_44 (by decide) ?_
      exact ih_5_3 ((k_d + 1), k_b, z9, z10, z11, z12, z13, z14, z15, z16, z17, z18, z19, z20, z8) ls H locs (show Int.toNat (4 - (k_d + 1).toInt) < Int.toNat (4 - k_d.toInt) from g_up (show k_d.toInt < (k_d + 1).toInt by omega) (show k_d.toInt < 4 by omega)) ⟨lv_sub hl [1, 0, 2, 3, 4] rfl, hP, hD, hS, ⟨by omega, by omega⟩, i_6⟩
theorem dgX5_findsBody_0 : ∀ r ∈ ([(0, (.aload_n 0, 1)), (1, (.iconst 0, 1)), (2, (.putfield 95, 3)), (5, (.iconst 0, 1)), (6, (.istore 4, 2)), (8, (.iload 4, 2)), (10, (.iconst 4, 1)), (11, (.if_icmp .ge 28, 3)), (14, (.aload_n 0, 1)), (15, (.iload_n 2, 1)), (16, (.iload 4, 2)), (18, (.iload_n 3, 1)), (19, (.iconst 0, 1)), (20, (.invokevirtual 91, 3)), (23, (.aload_n 0, 1)), (24, (.getfield 39, 3)), (27, (.iload_n 1, 1)), (28, (.if_icmp .ne 5, 3)), (31, (.iconst 1, 1)), (32, (.ireturn, 1)), (33, (.iinc 4 1, 3)), (36, (.goto (-28), 3)), (39, (.iconst 0, 1)), (40, (.ireturn, 1))] : List (Nat × (Instr × Nat))), decode cX5_findsBody r.1 = .ok r.2 := by decide +kernel
theorem dX5_findsBody_0 : decode cX5_findsBody 0 = .ok (.aload_n 0, 1) := dgX5_findsBody_0 (0, (.aload_n 0, 1)) (List.mem_of_getElem? (i := 0) rfl)
theorem dX5_findsBody_1 : decode cX5_findsBody 1 = .ok (.iconst 0, 1) := dgX5_findsBody_0 (1, (.iconst 0, 1)) (List.mem_of_getElem? (i := 1) rfl)
theorem dX5_findsBody_2 : decode cX5_findsBody 2 = .ok (.putfield 95, 3) := dgX5_findsBody_0 (2, (.putfield 95, 3)) (List.mem_of_getElem? (i := 2) rfl)
theorem dX5_findsBody_5 : decode cX5_findsBody 5 = .ok (.iconst 0, 1) := dgX5_findsBody_0 (5, (.iconst 0, 1)) (List.mem_of_getElem? (i := 3) rfl)
theorem dX5_findsBody_6 : decode cX5_findsBody 6 = .ok (.istore 4, 2) := dgX5_findsBody_0 (6, (.istore 4, 2)) (List.mem_of_getElem? (i := 4) rfl)
theorem dX5_findsBody_8 : decode cX5_findsBody 8 = .ok (.iload 4, 2) := dgX5_findsBody_0 (8, (.iload 4, 2)) (List.mem_of_getElem? (i := 5) rfl)
theorem dX5_findsBody_10 : decode cX5_findsBody 10 = .ok (.iconst 4, 1) := dgX5_findsBody_0 (10, (.iconst 4, 1)) (List.mem_of_getElem? (i := 6) rfl)
theorem dX5_findsBody_11 : decode cX5_findsBody 11 = .ok (.if_icmp .ge 28, 3) := dgX5_findsBody_0 (11, (.if_icmp .ge 28, 3)) (List.mem_of_getElem? (i := 7) rfl)
theorem dX5_findsBody_14 : decode cX5_findsBody 14 = .ok (.aload_n 0, 1) := dgX5_findsBody_0 (14, (.aload_n 0, 1)) (List.mem_of_getElem? (i := 8) rfl)
theorem dX5_findsBody_15 : decode cX5_findsBody 15 = .ok (.iload_n 2, 1) := dgX5_findsBody_0 (15, (.iload_n 2, 1)) (List.mem_of_getElem? (i := 9) rfl)
theorem dX5_findsBody_16 : decode cX5_findsBody 16 = .ok (.iload 4, 2) := dgX5_findsBody_0 (16, (.iload 4, 2)) (List.mem_of_getElem? (i := 10) rfl)
theorem dX5_findsBody_18 : decode cX5_findsBody 18 = .ok (.iload_n 3, 1) := dgX5_findsBody_0 (18, (.iload_n 3, 1)) (List.mem_of_getElem? (i := 11) rfl)
theorem dX5_findsBody_19 : decode cX5_findsBody 19 = .ok (.iconst 0, 1) := dgX5_findsBody_0 (19, (.iconst 0, 1)) (List.mem_of_getElem? (i := 12) rfl)
theorem dX5_findsBody_20 : decode cX5_findsBody 20 = .ok (.invokevirtual 91, 3) := dgX5_findsBody_0 (20, (.invokevirtual 91, 3)) (List.mem_of_getElem? (i := 13) rfl)
theorem dX5_findsBody_23 : decode cX5_findsBody 23 = .ok (.aload_n 0, 1) := dgX5_findsBody_0 (23, (.aload_n 0, 1)) (List.mem_of_getElem? (i := 14) rfl)
theorem dX5_findsBody_24 : decode cX5_findsBody 24 = .ok (.getfield 39, 3) := dgX5_findsBody_0 (24, (.getfield 39, 3)) (List.mem_of_getElem? (i := 15) rfl)
theorem dX5_findsBody_27 : decode cX5_findsBody 27 = .ok (.iload_n 1, 1) := dgX5_findsBody_0 (27, (.iload_n 1, 1)) (List.mem_of_getElem? (i := 16) rfl)
theorem dX5_findsBody_28 : decode cX5_findsBody 28 = .ok (.if_icmp .ne 5, 3) := dgX5_findsBody_0 (28, (.if_icmp .ne 5, 3)) (List.mem_of_getElem? (i := 17) rfl)
theorem dX5_findsBody_31 : decode cX5_findsBody 31 = .ok (.iconst 1, 1) := dgX5_findsBody_0 (31, (.iconst 1, 1)) (List.mem_of_getElem? (i := 18) rfl)
theorem dX5_findsBody_32 : decode cX5_findsBody 32 = .ok (.ireturn, 1) := dgX5_findsBody_0 (32, (.ireturn, 1)) (List.mem_of_getElem? (i := 19) rfl)
theorem dX5_findsBody_33 : decode cX5_findsBody 33 = .ok (.iinc 4 1, 3) := dgX5_findsBody_0 (33, (.iinc 4 1, 3)) (List.mem_of_getElem? (i := 20) rfl)
theorem dX5_findsBody_36 : decode cX5_findsBody 36 = .ok (.goto (-28), 3) := dgX5_findsBody_0 (36, (.goto (-28), 3)) (List.mem_of_getElem? (i := 21) rfl)
theorem dX5_findsBody_39 : decode cX5_findsBody 39 = .ok (.iconst 0, 1) := dgX5_findsBody_0 (39, (.iconst 0, 1)) (List.mem_of_getElem? (i := 22) rfl)
theorem dX5_findsBody_40 : decode cX5_findsBody 40 = .ok (.ireturn, 1) := dgX5_findsBody_0 (40, (.ireturn, 1)) (List.mem_of_getElem? (i := 23) rfl)
set_option maxHeartbeats 4000000 in
set_option maxRecDepth 100000 in
theorem s_findsBodyN (l : Launch) (G : g5_G) (a_k a_h a_g a_gn a_b a_bn a_p a_pn a_bb a_j a_as a_sk a_l a_pt a_s a_w : Nat) (sz : Nat) (e_le : Int32) (e_st : Int32) (e_fo : Int32) (e_lc : Int32) (e_g : Int32) (e_b : Int32) (e_p : Int32) (e_ln : Int32) (e_se : Int32) (e_lh : Int32) (e_br : Int32) (e_we : Int32) (e_me : Int32) (e_ce : Int32) (e_wy : Int32) (e_ho : Int32) (e_ov : Int32) (p_c : Int32) (p_h : Int32) (p_b : Int32) (e_wa : Int64) (e_gb : Int64) (f_g : Nat → Int32) (f_b : Nat → Int32) (f_p : Nat → Int32) (f_bb : Nat → Int64) (f_as : Nat → Int32) (f_sk : Nat → Int64) (f_l : Nat → Option Nat) (f_pt : Nat → Int32) (h_e_g : 0 ≤ e_g.toInt ∧ e_g.toInt ≤ 6) (h_e_b : 0 ≤ e_b.toInt ∧ e_b.toInt ≤ 5) (h_e_p : 0 ≤ e_p.toInt ∧ e_p.toInt ≤ 8) (h_e_ov : 0 ≤ e_ov.toInt ∧ e_ov.toInt ≤ 1) (e_gk : gOK f_g e_g.toInt) (e_pk : gOK f_p e_p.toInt) (e_gi : inT e_gb f_g e_g.toInt) (e_f : e_fo.toInt < 0 ∨ e_lc.toInt ≤ e_fo.toInt) : Met l yX5_findsBody (wsG yX5_findsBody cX5_findsBody 5 (some .boolean)) ({ frames := 14, cells := 0, slots := 0, locals := 556 }) (va_Pc [.ref a_k, .int p_b, .int p_c, .int p_h] (g5_P G [(a_k, (oc5 a_h a_j a_pt e_ln e_se e_lh e_br e_we e_me e_ce e_wy e_ho e_ov)), (a_h, (oc1 e_wa e_le e_st e_fo e_lc a_l a_g a_b a_s a_p a_w e_gb a_bb)), (a_g, (oc6 6 5 a_gn e_g)), (a_gn, (arI G 30 f_g)), (a_b, (oc6 5 24 a_bn e_b)), (a_bn, (arI G 120 f_b)), (a_p, (oc6 8 5 a_pn e_p)), (a_pn, (arI G 40 f_p)), (a_bb, (arJ G 24 f_bb)), (a_j, (oc2 a_as a_sk)), (a_as, (arI G 8 f_as)), (a_sk, (arJ G 50 f_sk)), (a_l, (arW G 6 f_l)), (a_pt, (arI G 200 f_pt))] sz)) (va_Qi (fun (r : Int32) (u : va_W) => (∃ (o_r : Int32) (o_ln : Int32) (o_se : Int32) (o_lh : Int32) (o_br : Int32) (o_we : Int32) (o_me : Int32) (o_ce : Int32) (o_wy : Int32) (o_ho : Int32) (o_ov : Int32) (o_pt : Nat → Int32) (o_as : Nat → Int32) (o_sk : Nat → Int64), (0 ≤ o_r.toInt ∧ o_r.toInt ≤ 1) ∧ (0 ≤ o_ov.toInt ∧ o_ov.toInt ≤ 1) ∧ (r = o_r) ∧ (u = [(a_k, (oc5 a_h a_j a_pt o_ln o_se o_lh o_br o_we o_me o_ce o_wy o_ho o_ov)), (a_h, (oc1 e_wa e_le e_st e_fo e_lc a_l a_g a_b a_s a_p a_w e_gb a_bb)), (a_g, (oc6 6 5 a_gn e_g)), (a_gn, (arI G 30 f_g)), (a_b, (oc6 5 24 a_bn e_b)), (a_bn, (arI G 120 f_b)), (a_p, (oc6 8 5 a_pn e_p)), (a_pn, (arI G 40 f_p)), (a_bb, (arJ G 24 f_bb)), (a_j, (oc2 a_as a_sk)), (a_as, (arI G 8 o_as)), (a_sk, (arJ G 50 o_sk)), (a_l, (arW G 6 f_l)), (a_pt, (arI G 200 o_pt))]))) (g5_B G (va_A [(a_k, (oc5 a_h a_j a_pt e_ln e_se e_lh e_br e_we e_me e_ce e_wy e_ho e_ov)), (a_h, (oc1 e_wa e_le e_st e_fo e_lc a_l a_g a_b a_s a_p a_w e_gb a_bb)), (a_g, (oc6 6 5 a_gn e_g)), (a_gn, (arI G 30 f_g)), (a_b, (oc6 5 24 a_bn e_b)), (a_bn, (arI G 120 f_b)), (a_p, (oc6 8 5 a_pn e_p)), (a_pn, (arI G 40 f_p)), (a_bb, (arJ G 24 f_bb)), (a_j, (oc2 a_as a_sk)), (a_as, (arI G 8 f_as)), (a_sk, (arJ G 50 f_sk)), (a_l, (arW G 6 f_l)), (a_pt, (arI G 200 f_pt))] sz)) (va_A [(a_k, (oc5 a_h a_j a_pt e_ln e_se e_lh e_br e_we e_me e_ce e_wy e_ho e_ov)), (a_h, (oc1 e_wa e_le e_st e_fo e_lc a_l a_g a_b a_s a_p a_w e_gb a_bb)), (a_g, (oc6 6 5 a_gn e_g)), (a_gn, (arI G 30 f_g)), (a_b, (oc6 5 24 a_bn e_b)), (a_bn, (arI G 120 f_b)), (a_p, (oc6 8 5 a_pn e_p)), (a_pn, (arI G 40 f_p)), (a_bb, (arJ G 24 f_bb)), (a_j, (oc2 a_as a_sk)), (a_as, (arI G 8 f_as)), (a_sk, (arJ G 50 f_sk)), (a_l, (arW G 6 f_l)), (a_pt, (arI G 200 f_pt))] sz)) 0 0 (va_A [(a_k, (oc5 a_h a_j a_pt e_ln e_se e_lh e_br e_we e_me e_ce e_wy e_ho e_ov)), (a_h, (oc1 e_wa e_le e_st e_fo e_lc a_l a_g a_b a_s a_p a_w e_gb a_bb)), (a_g, (oc6 6 5 a_gn e_g)), (a_gn, (arI G 30 f_g)), (a_b, (oc6 5 24 a_bn e_b)), (a_bn, (arI G 120 f_b)), (a_p, (oc6 8 5 a_pn e_p)), (a_pn, (arI G 40 f_p)), (a_bb, (arJ G 24 f_bb)), (a_j, (oc2 a_as a_sk)), (a_as, (arI G 8 f_as)), (a_sk, (arJ G 50 f_sk)), (a_l, (arW G 6 f_l)), (a_pt, (arI G 200 f_pt))] sz) := by
  refine Met.ofW (cc := cX5_findsBody) (maxL := 5) (ret := (some .boolean)) (by decide) rfl ?_
  intro p e s m args below meth c s₁ B hml hv
  obtain ⟨rfl, hsz, hP, hK, hD0, hN, hT⟩ := hv
  have hx := B.exec
  have hb := B.bytes
  have hr := B.returns
  have hts : ∀ w ∈ tblG, w.before _ s = true := fun w h => atoms_spec (ws := (wsG yX5_findsBody cX5_findsBody 5 (some .boolean))) B.pre w (List.mem_cons_of_mem _ h)
  have hown : s.vm.findClass RX5 = some m.cls := findClass_of_methodNamed B.named
  have hlocks := B.notSynchronized
  subst hsz
  have hD := hD0.self (sz := s.heap.size)
  generalize hAe : va_A [(a_k, (oc5 a_h a_j a_pt e_ln e_se e_lh e_br e_we e_me e_ce e_wy e_ho e_ov)), (a_h, (oc1 e_wa e_le e_st e_fo e_lc a_l a_g a_b a_s a_p a_w e_gb a_bb)), (a_g, (oc6 6 5 a_gn e_g)), (a_gn, (arI G 30 f_g)), (a_b, (oc6 5 24 a_bn e_b)), (a_bn, (arI G 120 f_b)), (a_p, (oc6 8 5 a_pn e_p)), (a_pn, (arI G 40 f_p)), (a_bb, (arJ G 24 f_bb)), (a_j, (oc2 a_as a_sk)), (a_as, (arI G 8 f_as)), (a_sk, (arJ G 50 f_sk)), (a_l, (arW G 6 f_l)), (a_pt, (arI G 200 f_pt))] s.heap.size = A at hD hT ⊢
  have hA : ∀ q : Nat, s.heap.size ≤ q → A q := fun q h => by rw [← hAe]; exact Or.inr h
  have hS : va_S A s.heap s.heap [] := va_S.rf
  have hP : va_P G.1 vwCl [(a_k, (oc5 a_h a_j a_pt e_ln e_se e_lh e_br e_we e_me e_ce e_wy e_ho e_ov)), (a_h, (oc1 e_wa e_le e_st e_fo e_lc a_l a_g a_b a_s a_p a_w e_gb a_bb)), (a_g, (oc6 6 5 a_gn e_g)), (a_gn, (arI G 30 f_g)), (a_b, (oc6 5 24 a_bn e_b)), (a_bn, (arI G 120 f_b)), (a_p, (oc6 8 5 a_pn e_p)), (a_pn, (arI G 40 f_p)), (a_bb, (arJ G 24 f_bb)), (a_j, (oc2 a_as a_sk)), (a_as, (arI G 8 f_as)), (a_sk, (arJ G 50 f_sk)), (a_l, (arW G 6 f_l)), (a_pt, (arI G 200 f_pt))] s.heap := hP
  have hl := lv_entry ([.ref a_k, .int p_b, .int p_c, .int p_h]) (n := 5) (Nat.le_of_ble_eq_true rfl)
  rw [lg_entry_eq]
  generalize (lg_sl ([.ref a_k, .int p_b, .int p_c, .int p_h]) ++ List.replicate (5 - (lg_sl ([.ref a_k, .int p_b, .int p_c, .int p_h])).length) Slot.unset).toArray = ls at hl ⊢
  have hl : lv_has ls 5 [(0, .ref a_k), (1, .int p_b), (2, .int p_c), (3, .int p_h)] := hl
  refine lv_aload_n hx hb dX5_findsBody_0 rfl (lv_at hl 0 rfl) ?_
  refine lv_iconst (v := 0) hx hb dX5_findsBody_1 (by decide) ?_
  refine va_put (D := G.1) (ci := 5) (v := .int 0) (ty := .int) (C := RX5) (T := TX5) (N := 13) hx hb hts inG_X5 tyX5 tyX5_ok nmX5 hown hK hP hD hS 0 rfl rfl 8 (by decide) (hts _ fl_X5_95) (fun _ h9 => h9) rfl (by decide +kernel) rfl rfl (Nat.le_of_ble_eq_true rfl) dX5_findsBody_2 (fun H locs hP hD hS => ?_)
  refine g5_rs [(a_k, (oc5 a_h a_j a_pt e_ln e_se e_lh e_br e_we 0 e_ce e_wy e_ho e_ov)), (a_h, (oc1 e_wa e_le e_st e_fo e_lc a_l a_g a_b a_s a_p a_w e_gb a_bb)), (a_g, (oc6 6 5 a_gn e_g)), (a_gn, (arI G 30 f_g)), (a_b, (oc6 5 24 a_bn e_b)), (a_bn, (arI G 120 f_b)), (a_p, (oc6 8 5 a_pn e_p)), (a_pn, (arI G 40 f_p)), (a_bb, (arJ G 24 f_bb)), (a_j, (oc2 a_as a_sk)), (a_as, (arI G 8 f_as)), (a_sk, (arJ G 50 f_sk)), (a_l, (arW G 6 f_l)), (a_pt, (arI G 200 f_pt))] hP hD (fun hP hD => ?_)
  refine lv_iconst (v := 0) hx hb dX5_findsBody_5 (by decide) ?_
  refine lv_istore (lv' := [(4, .int 0), (0, .ref a_k), (1, .int p_b), (2, .int p_c), (3, .int p_h)]) hx hb dX5_findsBody_6 hl (by decide) rfl (fun ls hl => ?_)
  refine g5_loop (α := (Int32) × (Int32) × (Int32) × (Int32) × (Int32) × (Int32) × (Int32) × (Int32) × (Int32) × (Int32) × (Nat → Int32) × (Nat → Int32) × (Nat → Int64) × (Int32)) (fun (q : (Int32) × (Int32) × (Int32) × (Int32) × (Int32) × (Int32) × (Int32) × (Int32) × (Int32) × (Int32) × (Nat → Int32) × (Nat → Int32) × (Nat → Int64) × (Int32)) (ls : Array Slot) (H : Heap) (locs : List Loc) => match q with | (k_d, k_se, k_lh, k_br, k_we, k_me, k_ce, k_wy, k_ho, k_ov, k_pt, k_as, k_sk, k_ln) => lv_has ls 5 [(4, .int k_d), (0, .ref a_k), (1, .int p_b), (2, .int p_c), (3, .int p_h)] ∧ va_P G.1 vwCl [(a_k, (oc5 a_h a_j a_pt k_ln k_se k_lh k_br k_we k_me k_ce k_wy k_ho k_ov)), (a_h, (oc1 e_wa e_le e_st e_fo e_lc a_l a_g a_b a_s a_p a_w e_gb a_bb)), (a_g, (oc6 6 5 a_gn e_g)), (a_gn, (arI G 30 f_g)), (a_b, (oc6 5 24 a_bn e_b)), (a_bn, (arI G 120 f_b)), (a_p, (oc6 8 5 a_pn e_p)), (a_pn, (arI G 40 f_p)), (a_bb, (arJ G 24 f_bb)), (a_j, (oc2 a_as a_sk)), (a_as, (arI G 8 k_as)), (a_sk, (arJ G 50 k_sk)), (a_l, (arW G 6 f_l)), (a_pt, (arI G 200 k_pt))] H ∧ va_D A [(a_k, (oc5 a_h a_j a_pt k_ln k_se k_lh k_br k_we k_me k_ce k_wy k_ho k_ov)), (a_h, (oc1 e_wa e_le e_st e_fo e_lc a_l a_g a_b a_s a_p a_w e_gb a_bb)), (a_g, (oc6 6 5 a_gn e_g)), (a_gn, (arI G 30 f_g)), (a_b, (oc6 5 24 a_bn e_b)), (a_bn, (arI G 120 f_b)), (a_p, (oc6 8 5 a_pn e_p)), (a_pn, (arI G 40 f_p)), (a_bb, (arJ G 24 f_bb)), (a_j, (oc2 a_as a_sk)), (a_as, (arI G 8 k_as)), (a_sk, (arJ G 50 k_sk)), (a_l, (arW G 6 f_l)), (a_pt, (arI G 200 k_pt))] ∧ va_S A s.heap H locs ∧ (0 ≤ k_d.toInt ∧ k_d.toInt ≤ 4) ∧ (0 ≤ k_ov.toInt ∧ k_ov.toInt ≤ 1)) (fun (q : (Int32) × (Int32) × (Int32) × (Int32) × (Int32) × (Int32) × (Int32) × (Int32) × (Int32) × (Int32) × (Nat → Int32) × (Nat → Int32) × (Nat → Int64) × (Int32)) => match q with | (k_d, k_se, k_lh, k_br, k_we, k_me, k_ce, k_wy, k_ho, k_ov, k_pt, k_as, k_sk, k_ln) => Int.toNat (4 - k_d.toInt)) (0, e_se, e_lh, e_br, e_we, 0, e_ce, e_wy, e_ho, e_ov, f_pt, f_as, f_sk, e_ln) ⟨lv_sub hl [0, 1, 2, 3, 4] rfl, hP, hD, hS, ⟨by decide, by decide⟩, h_e_ov⟩ ?_
  rintro ⟨k_d, k_se, k_lh, k_br, k_we, k_me, k_ce, k_wy, k_ho, k_ov, k_pt, k_as, k_sk, k_ln⟩ ls H locs ⟨hl, hP, hD, hS, i_1, i_2⟩ ih_8_3
  have hl : lv_has ls 5 [(4, .int k_d), (0, .ref a_k), (1, .int p_b), (2, .int p_c), (3, .int p_h)] := hl
  have i_1 : 0 ≤ k_d.toInt ∧ k_d.toInt ≤ 4 := i_1
  have i_2 : 0 ≤ k_ov.toInt ∧ k_ov.toInt ≤ 1 := i_2
  refine g5_rs [(a_k, (oc5 a_h a_j a_pt k_ln k_se k_lh k_br k_we k_me k_ce k_wy k_ho k_ov)), (a_h, (oc1 e_wa e_le e_st e_fo e_lc a_l a_g a_b a_s a_p a_w e_gb a_bb)), (a_g, (oc6 6 5 a_gn e_g)), (a_gn, (arI G 30 f_g)), (a_b, (oc6 5 24 a_bn e_b)), (a_bn, (arI G 120 f_b)), (a_p, (oc6 8 5 a_pn e_p)), (a_pn, (arI G 40 f_p)), (a_bb, (arJ G 24 f_bb)), (a_j, (oc2 a_as a_sk)), (a_as, (arI G 8 k_as)), (a_sk, (arJ G 50 k_sk)), (a_l, (arW G 6 f_l)), (a_pt, (arI G 200 k_pt))] hP hD (fun hP hD => ?_)
  refine lv_iload hx hb dX5_findsBody_8 (lv_at hl 0 rfl) ?_
  refine lv_iconst (v := 4) hx hb dX5_findsBody_10 (by decide) ?_
  refine lv_icmp_ge (tgt := 39) hx hb dX5_findsBody_11 (by decide) (fun c_4 => ?_) (fun c_4 => ?_)
  ·
    have i_4 : k_d.toInt ≥ 4 := by have z := g5_ge (a := k_d.toInt) (b := 4) (by rfl) (by decide) c_4; omega
    refine lv_iconst (v := 0) hx hb dX5_findsBody_39 (by decide) ?_
    exact W.zret (v := 0) hx hb hr rfl (fun t ht hW => ⟨⟨0, [(a_k, (oc5 a_h a_j a_pt k_ln k_se k_lh k_br k_we k_me k_ce k_wy k_ho k_ov)), (a_h, (oc1 e_wa e_le e_st e_fo e_lc a_l a_g a_b a_s a_p a_w e_gb a_bb)), (a_g, (oc6 6 5 a_gn e_g)), (a_gn, (arI G 30 f_g)), (a_b, (oc6 5 24 a_bn e_b)), (a_bn, (arI G 120 f_b)), (a_p, (oc6 8 5 a_pn e_p)), (a_pn, (arI G 40 f_p)), (a_bb, (arJ G 24 f_bb)), (a_j, (oc2 a_as a_sk)), (a_as, (arI G 8 k_as)), (a_sk, (arJ G 50 k_sk)), (a_l, (arW G 6 f_l)), (a_pt, (arI G 200 k_pt))], rfl, ⟨0, k_ln, k_se, k_lh, k_br, k_we, k_me, k_ce, k_wy, k_ho, k_ov, k_pt, k_as, k_sk, ⟨by have zc_o_r : (0 : Int32).toInt = 0 := (by decide); omega, by have zc_o_r : (0 : Int32).toInt = 0 := (by decide); omega⟩, i_2, rfl, rfl⟩, by rw [ht]; exact hP.sub [0, 1, 2, 3, 4, 5, 6, 7, 8, 9, 10, 11, 12, 13] rfl, hD.sub [0, 1, 2, 3, 4, 5, 6, 7, 8, 9, 10, 11, 12, 13] (by decide) rfl⟩, hS.F ht⟩) hS.2.2 dX5_findsBody_40
  ·
    have i_4 : k_d.toInt < 4 := by have z := g5_geN (a := k_d.toInt) (b := 4) (by rfl) (by decide) c_4; omega
    refine lv_aload_n hx hb dX5_findsBody_14 rfl (lv_at hl 1 rfl) ?_
    refine lv_iload_n hx hb dX5_findsBody_15 rfl (lv_at hl 3 rfl) ?_
    refine lv_iload hx hb dX5_findsBody_16 (lv_at hl 0 rfl) ?_
    refine lv_iload_n hx hb dX5_findsBody_18 rfl (lv_at hl 4 rfl) ?_
    refine lv_iconst (v := 0) hx hb dX5_findsBody_19 (by decide) ?_
    obtain ⟨hPc, hDc, hFc⟩ := g5_sub3 (wc := [(a_k, (oc5 a_h a_j a_pt k_ln k_se k_lh k_br k_we k_me k_ce k_wy k_ho k_ov)), (a_h, (oc1 e_wa e_le e_st e_fo e_lc a_l a_g a_b a_s a_p a_w e_gb a_bb)), (a_g, (oc6 6 5 a_gn e_g)), (a_gn, (arI G 30 f_g)), (a_b, (oc6 5 24 a_bn e_b)), (a_bn, (arI G 120 f_b)), (a_p, (oc6 8 5 a_pn e_p)), (a_pn, (arI G 40 f_p)), (a_bb, (arJ G 24 f_bb)), (a_j, (oc2 a_as a_sk)), (a_as, (arI G 8 k_as)), (a_sk, (arJ G 50 k_sk)), (a_l, (arW G 6 f_l)), (a_pt, (arI G 200 k_pt))]) hP hD hS hA [0, 1, 2, 3, 4, 5, 6, 7, 8, 9, 10, 11, 12, 13] (by decide) rfl
    refine va_callv (va_runV (As := [.int p_c, .int k_d, .int p_h, .int 0]) (rest := []) ⟨hx, hb, hml, hown, hts⟩ (k_runN l G a_k a_h a_g a_gn a_b a_bn a_p a_pn a_bb a_j a_as a_sk a_l a_pt a_s a_w H.size e_le e_st e_fo e_lc e_g e_b e_p k_ln k_se k_lh k_br k_we k_me k_ce k_wy k_ho k_ov p_c k_d p_h 0 e_wa e_gb f_g f_b f_p f_bb k_as k_sk f_l k_pt h_e_g h_e_b h_e_p i_2 (e_gk) (e_pk) (e_gi) (e_f)) (cwV 4 hts gV_X5_91 rfl rfl rfl hv_X5_run ⟨Nat.le_of_ble_eq_true rfl, Nat.le_of_ble_eq_true rfl⟩) (g5_preV hPc hK hDc hN hT hS hFc (ci := 5) (q0 := 0) rfl rfl) rfl rfl hl.1 rfl (lv_room (Nat.le_of_ble_eq_true rfl)) dX5_findsBody_20 ⟨Nat.le_of_ble_eq_true rfl, Nat.le_of_ble_eq_true rfl⟩) hS (fun q _ h => hFc q h) hFc (fun u t H1 locs ht hvm hw hB hz1 hk1 hS => ?_)
    obtain ⟨hP1, hD1⟩ := hB
    rw [ht] at hP1
    obtain ⟨z8, z9, z10, z11, z12, z13, z14, z15, z16, z17, z18, z19, z20, i_5, i_6, i_7, rfl⟩ := hw
    have i_5 : 0 ≤ z8.toInt ∧ z8.toInt ≤ 200 := i_5
    have i_6 : 0 ≤ z17.toInt ∧ z17.toInt ≤ 1 := i_6
    have i_7 : ∀ j : Nat, (j : Int) < z8.toInt → 0 ≤ (z18 j).toInt ∧ (z18 j).toInt ≤ 1535 := i_7
    obtain ⟨hP, hD⟩ := va_join (wr := []) hP hD [0, 1, 2, 3, 4, 5, 6, 7, 8, 9, 10, 11, 12, 13] [] rfl rfl (by decide) (by decide) hk1 hFc hP1 hD1
    generalize H1 = H at hP hS ⊢
    refine g5_rs [(a_k, (oc5 a_h a_j a_pt z8 z9 z10 z11 z12 z13 z14 z15 z16 z17)), (a_h, (oc1 e_wa e_le e_st e_fo e_lc a_l a_g a_b a_s a_p a_w e_gb a_bb)), (a_g, (oc6 6 5 a_gn e_g)), (a_gn, (arI G 30 f_g)), (a_b, (oc6 5 24 a_bn e_b)), (a_bn, (arI G 120 f_b)), (a_p, (oc6 8 5 a_pn e_p)), (a_pn, (arI G 40 f_p)), (a_bb, (arJ G 24 f_bb)), (a_j, (oc2 a_as a_sk)), (a_as, (arI G 8 z19)), (a_sk, (arJ G 50 z20)), (a_l, (arW G 6 f_l)), (a_pt, (arI G 200 z18))] hP hD (fun hP hD => ?_)
    refine lv_aload_n hx hb dX5_findsBody_23 rfl (lv_at hl 1 rfl) ?_
    refine va_get (D := G.1) (ci := 5) (v := .int z9) (C := RX5) (T := TX5) (N := 13) hx hb hts inG_X5 hown hK hP 0 rfl rfl 4 (by decide) (hts _ fl_X5_39) (fun _ h9 => h9) rfl dX5_findsBody_24 ?_
    refine lv_iload_n hx hb dX5_findsBody_27 rfl (lv_at hl 2 rfl) ?_
    refine lv_icmp_ne (tgt := 33) hx hb dX5_findsBody_28 (by decide) (fun c_21 => ?_) (fun c_21 => ?_)
    ·
      have n_21 : gNe (z9.toInt) (p_b.toInt) := by have z := g5_ne (a := z9.toInt) (b := p_b.toInt) (by rfl) (by rfl) c_21; unfold gNe; omega
      refine lv_iinc (v := (k_d + 1)) (lv' := [(4, .int (k_d + 1)), (0, .ref a_k), (1, .int p_b), (2, .int p_c), (3, .int p_h)]) hx hb dX5_findsBody_33 hl (k := 0) rfl rfl (by decide) rfl (fun ls hl => ?_)
      have t_22 : (k_d + 1).toInt = k_d.toInt + 1 := g5_iadd (a := k_d.toInt) (b := 1) rfl (by decide) (by omega) (by omega)
      refine lv_goto (tgt := 8) hx hb dX5_findsBody_36 (by decide) ?_
      exact ih_8_3 ((k_d + 1), z9, z10, z11, z12, z13, z14, z15, z16, z17, z18, z19, z20, z8) ls H locs (show Int.toNat (4 - (k_d + 1).toInt) < Int.toNat (4 - k_d.toInt) from g_up (show k_d.toInt < (k_d + 1).toInt by omega) (show k_d.toInt < 4 by omega)) ⟨lv_sub hl [0, 1, 2, 3, 4] rfl, hP, hD, hS, ⟨by omega, by omega⟩, i_6⟩
    ·
      have i_21 : z9.toInt = p_b.toInt := by have z := g5_neN (a := z9.toInt) (b := p_b.toInt) (by rfl) (by rfl) c_21; omega
      refine lv_iconst (v := 1) hx hb dX5_findsBody_31 (by decide) ?_
      exact W.zret (v := 1) hx hb hr rfl (fun t ht hW => ⟨⟨1, [(a_k, (oc5 a_h a_j a_pt z8 z9 z10 z11 z12 z13 z14 z15 z16 z17)), (a_h, (oc1 e_wa e_le e_st e_fo e_lc a_l a_g a_b a_s a_p a_w e_gb a_bb)), (a_g, (oc6 6 5 a_gn e_g)), (a_gn, (arI G 30 f_g)), (a_b, (oc6 5 24 a_bn e_b)), (a_bn, (arI G 120 f_b)), (a_p, (oc6 8 5 a_pn e_p)), (a_pn, (arI G 40 f_p)), (a_bb, (arJ G 24 f_bb)), (a_j, (oc2 a_as a_sk)), (a_as, (arI G 8 z19)), (a_sk, (arJ G 50 z20)), (a_l, (arW G 6 f_l)), (a_pt, (arI G 200 z18))], rfl, ⟨1, z8, z9, z10, z11, z12, z13, z14, z15, z16, z17, z18, z19, z20, ⟨by have zc_o_r : (1 : Int32).toInt = 1 := (by decide); omega, by have zc_o_r : (1 : Int32).toInt = 1 := (by decide); omega⟩, i_6, rfl, rfl⟩, by rw [ht]; exact hP.sub [0, 1, 2, 3, 4, 5, 6, 7, 8, 9, 10, 11, 12, 13] rfl, hD.sub [0, 1, 2, 3, 4, 5, 6, 7, 8, 9, 10, 11, 12, 13] (by decide) rfl⟩, hS.F ht⟩) hS.2.2 dX5_findsBody_32
theorem dgX5_cellsFrom_0 : ∀ r ∈ ([(0, (.lconst 0, 1)), (1, (.lstore_n 3, 1)), (2, (.iconst 0, 1)), (3, (.istore 5, 2)), (5, (.iload 5, 2)), (7, (.iconst 4, 1)), (8, (.if_icmp .ge 51, 3)), (11, (.aload_n 0, 1)), (12, (.iload_n 1, 1)), (13, (.iload 5, 2)), (15, (.iload_n 2, 1)), (16, (.iconst 0, 1)), (17, (.invokevirtual 91, 3)), (20, (.iconst 0, 1)), (21, (.istore 6, 2)), (23, (.iload 6, 2)), (25, (.aload_n 0, 1)), (26, (.getfield 36, 3)), (29, (.if_icmp .ge 24, 3)), (32, (.lload_n 3, 1)), (33, (.lconst 1, 1)), (34, (.aload_n 0, 1)), (35, (.getfield 18, 3)), (38, (.iload 6, 2)), (40, (.iaload, 1)), (41, (.bipush 64, 2)), (43, (.irem, 1)), (44, (.lshl, 1)), (45, (.lor, 1)), (46, (.lstore_n 3, 1)), (47, (.iinc 6 1, 3)), (50, (.goto (-27), 3)), (53, (.iinc 5 1, 3)), (56, (.goto (-51), 3)), (59, (.lload_n 3, 1)), (60, (.lreturn, 1))] : List (Nat × (Instr × Nat))), decode cX5_cellsFrom r.1 = .ok r.2 := by decide +kernel
theorem dX5_cellsFrom_0 : decode cX5_cellsFrom 0 = .ok (.lconst 0, 1) := dgX5_cellsFrom_0 (0, (.lconst 0, 1)) (List.mem_of_getElem? (i := 0) rfl)
theorem dX5_cellsFrom_1 : decode cX5_cellsFrom 1 = .ok (.lstore_n 3, 1) := dgX5_cellsFrom_0 (1, (.lstore_n 3, 1)) (List.mem_of_getElem? (i := 1) rfl)
theorem dX5_cellsFrom_2 : decode cX5_cellsFrom 2 = .ok (.iconst 0, 1) := dgX5_cellsFrom_0 (2, (.iconst 0, 1)) (List.mem_of_getElem? (i := 2) rfl)
theorem dX5_cellsFrom_3 : decode cX5_cellsFrom 3 = .ok (.istore 5, 2) := dgX5_cellsFrom_0 (3, (.istore 5, 2)) (List.mem_of_getElem? (i := 3) rfl)
theorem dX5_cellsFrom_5 : decode cX5_cellsFrom 5 = .ok (.iload 5, 2) := dgX5_cellsFrom_0 (5, (.iload 5, 2)) (List.mem_of_getElem? (i := 4) rfl)
theorem dX5_cellsFrom_7 : decode cX5_cellsFrom 7 = .ok (.iconst 4, 1) := dgX5_cellsFrom_0 (7, (.iconst 4, 1)) (List.mem_of_getElem? (i := 5) rfl)
theorem dX5_cellsFrom_8 : decode cX5_cellsFrom 8 = .ok (.if_icmp .ge 51, 3) := dgX5_cellsFrom_0 (8, (.if_icmp .ge 51, 3)) (List.mem_of_getElem? (i := 6) rfl)
theorem dX5_cellsFrom_11 : decode cX5_cellsFrom 11 = .ok (.aload_n 0, 1) := dgX5_cellsFrom_0 (11, (.aload_n 0, 1)) (List.mem_of_getElem? (i := 7) rfl)
theorem dX5_cellsFrom_12 : decode cX5_cellsFrom 12 = .ok (.iload_n 1, 1) := dgX5_cellsFrom_0 (12, (.iload_n 1, 1)) (List.mem_of_getElem? (i := 8) rfl)
theorem dX5_cellsFrom_13 : decode cX5_cellsFrom 13 = .ok (.iload 5, 2) := dgX5_cellsFrom_0 (13, (.iload 5, 2)) (List.mem_of_getElem? (i := 9) rfl)
theorem dX5_cellsFrom_15 : decode cX5_cellsFrom 15 = .ok (.iload_n 2, 1) := dgX5_cellsFrom_0 (15, (.iload_n 2, 1)) (List.mem_of_getElem? (i := 10) rfl)
theorem dX5_cellsFrom_16 : decode cX5_cellsFrom 16 = .ok (.iconst 0, 1) := dgX5_cellsFrom_0 (16, (.iconst 0, 1)) (List.mem_of_getElem? (i := 11) rfl)
theorem dX5_cellsFrom_17 : decode cX5_cellsFrom 17 = .ok (.invokevirtual 91, 3) := dgX5_cellsFrom_0 (17, (.invokevirtual 91, 3)) (List.mem_of_getElem? (i := 12) rfl)
theorem dX5_cellsFrom_20 : decode cX5_cellsFrom 20 = .ok (.iconst 0, 1) := dgX5_cellsFrom_0 (20, (.iconst 0, 1)) (List.mem_of_getElem? (i := 13) rfl)
theorem dX5_cellsFrom_21 : decode cX5_cellsFrom 21 = .ok (.istore 6, 2) := dgX5_cellsFrom_0 (21, (.istore 6, 2)) (List.mem_of_getElem? (i := 14) rfl)
theorem dX5_cellsFrom_23 : decode cX5_cellsFrom 23 = .ok (.iload 6, 2) := dgX5_cellsFrom_0 (23, (.iload 6, 2)) (List.mem_of_getElem? (i := 15) rfl)
theorem dX5_cellsFrom_25 : decode cX5_cellsFrom 25 = .ok (.aload_n 0, 1) := dgX5_cellsFrom_0 (25, (.aload_n 0, 1)) (List.mem_of_getElem? (i := 16) rfl)
theorem dX5_cellsFrom_26 : decode cX5_cellsFrom 26 = .ok (.getfield 36, 3) := dgX5_cellsFrom_0 (26, (.getfield 36, 3)) (List.mem_of_getElem? (i := 17) rfl)
theorem dX5_cellsFrom_29 : decode cX5_cellsFrom 29 = .ok (.if_icmp .ge 24, 3) := dgX5_cellsFrom_0 (29, (.if_icmp .ge 24, 3)) (List.mem_of_getElem? (i := 18) rfl)
theorem dX5_cellsFrom_32 : decode cX5_cellsFrom 32 = .ok (.lload_n 3, 1) := dgX5_cellsFrom_0 (32, (.lload_n 3, 1)) (List.mem_of_getElem? (i := 19) rfl)
theorem dX5_cellsFrom_33 : decode cX5_cellsFrom 33 = .ok (.lconst 1, 1) := dgX5_cellsFrom_0 (33, (.lconst 1, 1)) (List.mem_of_getElem? (i := 20) rfl)
theorem dX5_cellsFrom_34 : decode cX5_cellsFrom 34 = .ok (.aload_n 0, 1) := dgX5_cellsFrom_0 (34, (.aload_n 0, 1)) (List.mem_of_getElem? (i := 21) rfl)
theorem dX5_cellsFrom_35 : decode cX5_cellsFrom 35 = .ok (.getfield 18, 3) := dgX5_cellsFrom_0 (35, (.getfield 18, 3)) (List.mem_of_getElem? (i := 22) rfl)
theorem dX5_cellsFrom_38 : decode cX5_cellsFrom 38 = .ok (.iload 6, 2) := dgX5_cellsFrom_0 (38, (.iload 6, 2)) (List.mem_of_getElem? (i := 23) rfl)
theorem dX5_cellsFrom_40 : decode cX5_cellsFrom 40 = .ok (.iaload, 1) := dgX5_cellsFrom_0 (40, (.iaload, 1)) (List.mem_of_getElem? (i := 24) rfl)
theorem dX5_cellsFrom_41 : decode cX5_cellsFrom 41 = .ok (.bipush 64, 2) := dgX5_cellsFrom_0 (41, (.bipush 64, 2)) (List.mem_of_getElem? (i := 25) rfl)
theorem dX5_cellsFrom_43 : decode cX5_cellsFrom 43 = .ok (.irem, 1) := dgX5_cellsFrom_0 (43, (.irem, 1)) (List.mem_of_getElem? (i := 26) rfl)
theorem dX5_cellsFrom_44 : decode cX5_cellsFrom 44 = .ok (.lshl, 1) := dgX5_cellsFrom_0 (44, (.lshl, 1)) (List.mem_of_getElem? (i := 27) rfl)
theorem dX5_cellsFrom_45 : decode cX5_cellsFrom 45 = .ok (.lor, 1) := dgX5_cellsFrom_0 (45, (.lor, 1)) (List.mem_of_getElem? (i := 28) rfl)
theorem dX5_cellsFrom_46 : decode cX5_cellsFrom 46 = .ok (.lstore_n 3, 1) := dgX5_cellsFrom_0 (46, (.lstore_n 3, 1)) (List.mem_of_getElem? (i := 29) rfl)
theorem dX5_cellsFrom_47 : decode cX5_cellsFrom 47 = .ok (.iinc 6 1, 3) := dgX5_cellsFrom_0 (47, (.iinc 6 1, 3)) (List.mem_of_getElem? (i := 30) rfl)
theorem dX5_cellsFrom_50 : decode cX5_cellsFrom 50 = .ok (.goto (-27), 3) := dgX5_cellsFrom_0 (50, (.goto (-27), 3)) (List.mem_of_getElem? (i := 31) rfl)
theorem dX5_cellsFrom_53 : decode cX5_cellsFrom 53 = .ok (.iinc 5 1, 3) := dgX5_cellsFrom_0 (53, (.iinc 5 1, 3)) (List.mem_of_getElem? (i := 32) rfl)
theorem dX5_cellsFrom_56 : decode cX5_cellsFrom 56 = .ok (.goto (-51), 3) := dgX5_cellsFrom_0 (56, (.goto (-51), 3)) (List.mem_of_getElem? (i := 33) rfl)
theorem dX5_cellsFrom_59 : decode cX5_cellsFrom 59 = .ok (.lload_n 3, 1) := dgX5_cellsFrom_0 (59, (.lload_n 3, 1)) (List.mem_of_getElem? (i := 34) rfl)
theorem dX5_cellsFrom_60 : decode cX5_cellsFrom 60 = .ok (.lreturn, 1) := dgX5_cellsFrom_0 (60, (.lreturn, 1)) (List.mem_of_getElem? (i := 35) rfl)
set_option maxHeartbeats 4000000 in
set_option maxRecDepth 100000 in
theorem s_cellsFromN (l : Launch) (G : g5_G) (a_k a_h a_g a_gn a_b a_bn a_p a_pn a_bb a_j a_as a_sk a_l a_pt a_s a_w : Nat) (sz : Nat) (e_le : Int32) (e_st : Int32) (e_fo : Int32) (e_lc : Int32) (e_g : Int32) (e_b : Int32) (e_p : Int32) (e_ln : Int32) (e_se : Int32) (e_lh : Int32) (e_br : Int32) (e_we : Int32) (e_me : Int32) (e_ce : Int32) (e_wy : Int32) (e_ho : Int32) (e_ov : Int32) (p_c : Int32) (p_h : Int32) (e_wa : Int64) (e_gb : Int64) (f_g : Nat → Int32) (f_b : Nat → Int32) (f_p : Nat → Int32) (f_bb : Nat → Int64) (f_as : Nat → Int32) (f_sk : Nat → Int64) (f_l : Nat → Option Nat) (f_pt : Nat → Int32) (h_e_g : 0 ≤ e_g.toInt ∧ e_g.toInt ≤ 6) (h_e_b : 0 ≤ e_b.toInt ∧ e_b.toInt ≤ 5) (h_e_p : 0 ≤ e_p.toInt ∧ e_p.toInt ≤ 8) (h_e_ov : 0 ≤ e_ov.toInt ∧ e_ov.toInt ≤ 1) (e_gk : gOK f_g e_g.toInt) (e_pk : gOK f_p e_p.toInt) (e_gi : inT e_gb f_g e_g.toInt) (e_f : e_fo.toInt < 0 ∨ e_lc.toInt ≤ e_fo.toInt) : Met l yX5_cellsFrom (wsG yX5_cellsFrom cX5_cellsFrom 7 (some .long)) ({ frames := 14, cells := 0, slots := 0, locals := 556 }) (va_Pc [.ref a_k, .int p_c, .int p_h] (g5_P G [(a_k, (oc5 a_h a_j a_pt e_ln e_se e_lh e_br e_we e_me e_ce e_wy e_ho e_ov)), (a_h, (oc1 e_wa e_le e_st e_fo e_lc a_l a_g a_b a_s a_p a_w e_gb a_bb)), (a_g, (oc6 6 5 a_gn e_g)), (a_gn, (arI G 30 f_g)), (a_b, (oc6 5 24 a_bn e_b)), (a_bn, (arI G 120 f_b)), (a_p, (oc6 8 5 a_pn e_p)), (a_pn, (arI G 40 f_p)), (a_bb, (arJ G 24 f_bb)), (a_j, (oc2 a_as a_sk)), (a_as, (arI G 8 f_as)), (a_sk, (arJ G 50 f_sk)), (a_l, (arW G 6 f_l)), (a_pt, (arI G 200 f_pt))] sz)) (va_Ql (fun (r : Int64) (u : va_W) => (∃ (o_r : Int64) (o_ln : Int32) (o_se : Int32) (o_lh : Int32) (o_br : Int32) (o_we : Int32) (o_me : Int32) (o_ce : Int32) (o_wy : Int32) (o_ho : Int32) (o_ov : Int32) (o_pt : Nat → Int32) (o_as : Nat → Int32) (o_sk : Nat → Int64), (0 ≤ o_ov.toInt ∧ o_ov.toInt ≤ 1) ∧ (r = o_r) ∧ (u = [(a_k, (oc5 a_h a_j a_pt o_ln o_se o_lh o_br o_we o_me o_ce o_wy o_ho o_ov)), (a_h, (oc1 e_wa e_le e_st e_fo e_lc a_l a_g a_b a_s a_p a_w e_gb a_bb)), (a_g, (oc6 6 5 a_gn e_g)), (a_gn, (arI G 30 f_g)), (a_b, (oc6 5 24 a_bn e_b)), (a_bn, (arI G 120 f_b)), (a_p, (oc6 8 5 a_pn e_p)), (a_pn, (arI G 40 f_p)), (a_bb, (arJ G 24 f_bb)), (a_j, (oc2 a_as a_sk)), (a_as, (arI G 8 o_as)), (a_sk, (arJ G 50 o_sk)), (a_l, (arW G 6 f_l)), (a_pt, (arI G 200 o_pt))]))) (g5_B G (va_A [(a_k, (oc5 a_h a_j a_pt e_ln e_se e_lh e_br e_we e_me e_ce e_wy e_ho e_ov)), (a_h, (oc1 e_wa e_le e_st e_fo e_lc a_l a_g a_b a_s a_p a_w e_gb a_bb)), (a_g, (oc6 6 5 a_gn e_g)), (a_gn, (arI G 30 f_g)), (a_b, (oc6 5 24 a_bn e_b)), (a_bn, (arI G 120 f_b)), (a_p, (oc6 8 5 a_pn e_p)), (a_pn, (arI G 40 f_p)), (a_bb, (arJ G 24 f_bb)), (a_j, (oc2 a_as a_sk)), (a_as, (arI G 8 f_as)), (a_sk, (arJ G 50 f_sk)), (a_l, (arW G 6 f_l)), (a_pt, (arI G 200 f_pt))] sz)) (va_A [(a_k, (oc5 a_h a_j a_pt e_ln e_se e_lh e_br e_we e_me e_ce e_wy e_ho e_ov)), (a_h, (oc1 e_wa e_le e_st e_fo e_lc a_l a_g a_b a_s a_p a_w e_gb a_bb)), (a_g, (oc6 6 5 a_gn e_g)), (a_gn, (arI G 30 f_g)), (a_b, (oc6 5 24 a_bn e_b)), (a_bn, (arI G 120 f_b)), (a_p, (oc6 8 5 a_pn e_p)), (a_pn, (arI G 40 f_p)), (a_bb, (arJ G 24 f_bb)), (a_j, (oc2 a_as a_sk)), (a_as, (arI G 8 f_as)), (a_sk, (arJ G 50 f_sk)), (a_l, (arW G 6 f_l)), (a_pt, (arI G 200 f_pt))] sz)) 0 0 (va_A [(a_k, (oc5 a_h a_j a_pt e_ln e_se e_lh e_br e_we e_me e_ce e_wy e_ho e_ov)), (a_h, (oc1 e_wa e_le e_st e_fo e_lc a_l a_g a_b a_s a_p a_w e_gb a_bb)), (a_g, (oc6 6 5 a_gn e_g)), (a_gn, (arI G 30 f_g)), (a_b, (oc6 5 24 a_bn e_b)), (a_bn, (arI G 120 f_b)), (a_p, (oc6 8 5 a_pn e_p)), (a_pn, (arI G 40 f_p)), (a_bb, (arJ G 24 f_bb)), (a_j, (oc2 a_as a_sk)), (a_as, (arI G 8 f_as)), (a_sk, (arJ G 50 f_sk)), (a_l, (arW G 6 f_l)), (a_pt, (arI G 200 f_pt))] sz) := by
  refine Met.ofW (cc := cX5_cellsFrom) (maxL := 7) (ret := (some .long)) (by decide) rfl ?_
  intro p e s m args below meth c s₁ B hml hv
  obtain ⟨rfl, hsz, hP, hK, hD0, hN, hT⟩ := hv
  have hx := B.exec
  have hb := B.bytes
  have hr := B.returns
  have hts : ∀ w ∈ tblG, w.before _ s = true := fun w h => atoms_spec (ws := (wsG yX5_cellsFrom cX5_cellsFrom 7 (some .long))) B.pre w (List.mem_cons_of_mem _ h)
  have hown : s.vm.findClass RX5 = some m.cls := findClass_of_methodNamed B.named
  have hlocks := B.notSynchronized
  subst hsz
  have hD := hD0.self (sz := s.heap.size)
  generalize hAe : va_A [(a_k, (oc5 a_h a_j a_pt e_ln e_se e_lh e_br e_we e_me e_ce e_wy e_ho e_ov)), (a_h, (oc1 e_wa e_le e_st e_fo e_lc a_l a_g a_b a_s a_p a_w e_gb a_bb)), (a_g, (oc6 6 5 a_gn e_g)), (a_gn, (arI G 30 f_g)), (a_b, (oc6 5 24 a_bn e_b)), (a_bn, (arI G 120 f_b)), (a_p, (oc6 8 5 a_pn e_p)), (a_pn, (arI G 40 f_p)), (a_bb, (arJ G 24 f_bb)), (a_j, (oc2 a_as a_sk)), (a_as, (arI G 8 f_as)), (a_sk, (arJ G 50 f_sk)), (a_l, (arW G 6 f_l)), (a_pt, (arI G 200 f_pt))] s.heap.size = A at hD hT ⊢
  have hA : ∀ q : Nat, s.heap.size ≤ q → A q := fun q h => by rw [← hAe]; exact Or.inr h
  have hS : va_S A s.heap s.heap [] := va_S.rf
  have hP : va_P G.1 vwCl [(a_k, (oc5 a_h a_j a_pt e_ln e_se e_lh e_br e_we e_me e_ce e_wy e_ho e_ov)), (a_h, (oc1 e_wa e_le e_st e_fo e_lc a_l a_g a_b a_s a_p a_w e_gb a_bb)), (a_g, (oc6 6 5 a_gn e_g)), (a_gn, (arI G 30 f_g)), (a_b, (oc6 5 24 a_bn e_b)), (a_bn, (arI G 120 f_b)), (a_p, (oc6 8 5 a_pn e_p)), (a_pn, (arI G 40 f_p)), (a_bb, (arJ G 24 f_bb)), (a_j, (oc2 a_as a_sk)), (a_as, (arI G 8 f_as)), (a_sk, (arJ G 50 f_sk)), (a_l, (arW G 6 f_l)), (a_pt, (arI G 200 f_pt))] s.heap := hP
  have hl := lv_entry ([.ref a_k, .int p_c, .int p_h]) (n := 7) (Nat.le_of_ble_eq_true rfl)
  rw [lg_entry_eq]
  generalize (lg_sl ([.ref a_k, .int p_c, .int p_h]) ++ List.replicate (7 - (lg_sl ([.ref a_k, .int p_c, .int p_h])).length) Slot.unset).toArray = ls at hl ⊢
  have hl : lv_has ls 7 [(0, .ref a_k), (1, .int p_c), (2, .int p_h)] := hl
  refine lv_lconst (v := 0) hx hb dX5_cellsFrom_0 (by decide) ?_
  refine lv_lstore_n (lv' := [(3, .long 0), (0, .ref a_k), (1, .int p_c), (2, .int p_h)]) hx hb dX5_cellsFrom_1 rfl hl (by decide) rfl (fun ls hl => ?_)
  refine lv_iconst (v := 0) hx hb dX5_cellsFrom_2 (by decide) ?_
  refine lv_istore (lv' := [(5, .int 0), (3, .long 0), (0, .ref a_k), (1, .int p_c), (2, .int p_h)]) hx hb dX5_cellsFrom_3 hl (by decide) rfl (fun ls hl => ?_)
  refine g5_loop (α := (Int32) × (Int64) × (Int32) × (Int32) × (Int32) × (Int32) × (Int32) × (Int32) × (Int32) × (Int32) × (Int32) × (Nat → Int32) × (Nat → Int32) × (Nat → Int64) × (Int32)) (fun (q : (Int32) × (Int64) × (Int32) × (Int32) × (Int32) × (Int32) × (Int32) × (Int32) × (Int32) × (Int32) × (Int32) × (Nat → Int32) × (Nat → Int32) × (Nat → Int64) × (Int32)) (ls : Array Slot) (H : Heap) (locs : List Loc) => match q with | (k_d, k_b, k_se, k_lh, k_br, k_we, k_me, k_ce, k_wy, k_ho, k_ov, k_pt, k_as, k_sk, k_ln) => lv_has ls 7 [(3, .long k_b), (5, .int k_d), (0, .ref a_k), (1, .int p_c), (2, .int p_h)] ∧ va_P G.1 vwCl [(a_k, (oc5 a_h a_j a_pt k_ln k_se k_lh k_br k_we k_me k_ce k_wy k_ho k_ov)), (a_h, (oc1 e_wa e_le e_st e_fo e_lc a_l a_g a_b a_s a_p a_w e_gb a_bb)), (a_g, (oc6 6 5 a_gn e_g)), (a_gn, (arI G 30 f_g)), (a_b, (oc6 5 24 a_bn e_b)), (a_bn, (arI G 120 f_b)), (a_p, (oc6 8 5 a_pn e_p)), (a_pn, (arI G 40 f_p)), (a_bb, (arJ G 24 f_bb)), (a_j, (oc2 a_as a_sk)), (a_as, (arI G 8 k_as)), (a_sk, (arJ G 50 k_sk)), (a_l, (arW G 6 f_l)), (a_pt, (arI G 200 k_pt))] H ∧ va_D A [(a_k, (oc5 a_h a_j a_pt k_ln k_se k_lh k_br k_we k_me k_ce k_wy k_ho k_ov)), (a_h, (oc1 e_wa e_le e_st e_fo e_lc a_l a_g a_b a_s a_p a_w e_gb a_bb)), (a_g, (oc6 6 5 a_gn e_g)), (a_gn, (arI G 30 f_g)), (a_b, (oc6 5 24 a_bn e_b)), (a_bn, (arI G 120 f_b)), (a_p, (oc6 8 5 a_pn e_p)), (a_pn, (arI G 40 f_p)), (a_bb, (arJ G 24 f_bb)), (a_j, (oc2 a_as a_sk)), (a_as, (arI G 8 k_as)), (a_sk, (arJ G 50 k_sk)), (a_l, (arW G 6 f_l)), (a_pt, (arI G 200 k_pt))] ∧ va_S A s.heap H locs ∧ (0 ≤ k_d.toInt ∧ k_d.toInt ≤ 4) ∧ (0 ≤ k_ov.toInt ∧ k_ov.toInt ≤ 1)) (fun (q : (Int32) × (Int64) × (Int32) × (Int32) × (Int32) × (Int32) × (Int32) × (Int32) × (Int32) × (Int32) × (Int32) × (Nat → Int32) × (Nat → Int32) × (Nat → Int64) × (Int32)) => match q with | (k_d, k_b, k_se, k_lh, k_br, k_we, k_me, k_ce, k_wy, k_ho, k_ov, k_pt, k_as, k_sk, k_ln) => Int.toNat (4 - k_d.toInt)) (0, 0, e_se, e_lh, e_br, e_we, e_me, e_ce, e_wy, e_ho, e_ov, f_pt, f_as, f_sk, e_ln) ⟨lv_sub hl [1, 0, 2, 3, 4] rfl, hP, hD, hS, ⟨by decide, by decide⟩, h_e_ov⟩ ?_
  rintro ⟨k_d, k_b, k_se, k_lh, k_br, k_we, k_me, k_ce, k_wy, k_ho, k_ov, k_pt, k_as, k_sk, k_ln⟩ ls H locs ⟨hl, hP, hD, hS, i_1, i_2⟩ ih_5_3
  have hl : lv_has ls 7 [(3, .long k_b), (5, .int k_d), (0, .ref a_k), (1, .int p_c), (2, .int p_h)] := hl
  have i_1 : 0 ≤ k_d.toInt ∧ k_d.toInt ≤ 4 := i_1
  have i_2 : 0 ≤ k_ov.toInt ∧ k_ov.toInt ≤ 1 := i_2
  refine g5_rs [(a_k, (oc5 a_h a_j a_pt k_ln k_se k_lh k_br k_we k_me k_ce k_wy k_ho k_ov)), (a_h, (oc1 e_wa e_le e_st e_fo e_lc a_l a_g a_b a_s a_p a_w e_gb a_bb)), (a_g, (oc6 6 5 a_gn e_g)), (a_gn, (arI G 30 f_g)), (a_b, (oc6 5 24 a_bn e_b)), (a_bn, (arI G 120 f_b)), (a_p, (oc6 8 5 a_pn e_p)), (a_pn, (arI G 40 f_p)), (a_bb, (arJ G 24 f_bb)), (a_j, (oc2 a_as a_sk)), (a_as, (arI G 8 k_as)), (a_sk, (arJ G 50 k_sk)), (a_l, (arW G 6 f_l)), (a_pt, (arI G 200 k_pt))] hP hD (fun hP hD => ?_)
  refine lv_iload hx hb dX5_cellsFrom_5 (lv_at hl 1 rfl) ?_
  refine lv_iconst (v := 4) hx hb dX5_cellsFrom_7 (by decide) ?_
  refine lv_icmp_ge (tgt := 59) hx hb dX5_cellsFrom_8 (by decide) (fun c_4 => ?_) (fun c_4 => ?_)
  ·
    have i_4 : k_d.toInt ≥ 4 := by have z := g5_ge (a := k_d.toInt) (b := 4) (by rfl) (by decide) c_4; omega
    refine lv_lload_n hx hb dX5_cellsFrom_59 rfl (lv_at hl 0 rfl) ?_
    exact W.lret (v := k_b) hx hb hr (fun t ht hW => ⟨⟨k_b, [(a_k, (oc5 a_h a_j a_pt k_ln k_se k_lh k_br k_we k_me k_ce k_wy k_ho k_ov)), (a_h, (oc1 e_wa e_le e_st e_fo e_lc a_l a_g a_b a_s a_p a_w e_gb a_bb)), (a_g, (oc6 6 5 a_gn e_g)), (a_gn, (arI G 30 f_g)), (a_b, (oc6 5 24 a_bn e_b)), (a_bn, (arI G 120 f_b)), (a_p, (oc6 8 5 a_pn e_p)), (a_pn, (arI G 40 f_p)), (a_bb, (arJ G 24 f_bb)), (a_j, (oc2 a_as a_sk)), (a_as, (arI G 8 k_as)), (a_sk, (arJ G 50 k_sk)), (a_l, (arW G 6 f_l)), (a_pt, (arI G 200 k_pt))], rfl, ⟨k_b, k_ln, k_se, k_lh, k_br, k_we, k_me, k_ce, k_wy, k_ho, k_ov, k_pt, k_as, k_sk, i_2, rfl, rfl⟩, by rw [ht]; exact hP.sub [0, 1, 2, 3, 4, 5, 6, 7, 8, 9, 10, 11, 12, 13] rfl, hD.sub [0, 1, 2, 3, 4, 5, 6, 7, 8, 9, 10, 11, 12, 13] (by decide) rfl⟩, hS.F ht⟩) hS.2.2 dX5_cellsFrom_60
  ·
    have i_4 : k_d.toInt < 4 := by have z := g5_geN (a := k_d.toInt) (b := 4) (by rfl) (by decide) c_4; omega
    refine lv_aload_n hx hb dX5_cellsFrom_11 rfl (lv_at hl 2 rfl) ?_
    refine lv_iload_n hx hb dX5_cellsFrom_12 rfl (lv_at hl 3 rfl) ?_
    refine lv_iload hx hb dX5_cellsFrom_13 (lv_at hl 1 rfl) ?_
    refine lv_iload_n hx hb dX5_cellsFrom_15 rfl (lv_at hl 4 rfl) ?_
    refine lv_iconst (v := 0) hx hb dX5_cellsFrom_16 (by decide) ?_
    obtain ⟨hPc, hDc, hFc⟩ := g5_sub3 (wc := [(a_k, (oc5 a_h a_j a_pt k_ln k_se k_lh k_br k_we k_me k_ce k_wy k_ho k_ov)), (a_h, (oc1 e_wa e_le e_st e_fo e_lc a_l a_g a_b a_s a_p a_w e_gb a_bb)), (a_g, (oc6 6 5 a_gn e_g)), (a_gn, (arI G 30 f_g)), (a_b, (oc6 5 24 a_bn e_b)), (a_bn, (arI G 120 f_b)), (a_p, (oc6 8 5 a_pn e_p)), (a_pn, (arI G 40 f_p)), (a_bb, (arJ G 24 f_bb)), (a_j, (oc2 a_as a_sk)), (a_as, (arI G 8 k_as)), (a_sk, (arJ G 50 k_sk)), (a_l, (arW G 6 f_l)), (a_pt, (arI G 200 k_pt))]) hP hD hS hA [0, 1, 2, 3, 4, 5, 6, 7, 8, 9, 10, 11, 12, 13] (by decide) rfl
    refine va_callv (va_runV (As := [.int p_c, .int k_d, .int p_h, .int 0]) (rest := []) ⟨hx, hb, hml, hown, hts⟩ (k_runN l G a_k a_h a_g a_gn a_b a_bn a_p a_pn a_bb a_j a_as a_sk a_l a_pt a_s a_w H.size e_le e_st e_fo e_lc e_g e_b e_p k_ln k_se k_lh k_br k_we k_me k_ce k_wy k_ho k_ov p_c k_d p_h 0 e_wa e_gb f_g f_b f_p f_bb k_as k_sk f_l k_pt h_e_g h_e_b h_e_p i_2 (e_gk) (e_pk) (e_gi) (e_f)) (cwV 4 hts gV_X5_91 rfl rfl rfl hv_X5_run ⟨Nat.le_of_ble_eq_true rfl, Nat.le_of_ble_eq_true rfl⟩) (g5_preV hPc hK hDc hN hT hS hFc (ci := 5) (q0 := 0) rfl rfl) rfl rfl hl.1 rfl (lv_room (Nat.le_of_ble_eq_true rfl)) dX5_cellsFrom_17 ⟨Nat.le_of_ble_eq_true rfl, Nat.le_of_ble_eq_true rfl⟩) hS (fun q _ h => hFc q h) hFc (fun u t H1 locs ht hvm hw hB hz1 hk1 hS => ?_)
    obtain ⟨hP1, hD1⟩ := hB
    rw [ht] at hP1
    obtain ⟨z8, z9, z10, z11, z12, z13, z14, z15, z16, z17, z18, z19, z20, i_5, i_6, i_7, rfl⟩ := hw
    have i_5 : 0 ≤ z8.toInt ∧ z8.toInt ≤ 200 := i_5
    have i_6 : 0 ≤ z17.toInt ∧ z17.toInt ≤ 1 := i_6
    have i_7 : ∀ j : Nat, (j : Int) < z8.toInt → 0 ≤ (z18 j).toInt ∧ (z18 j).toInt ≤ 1535 := i_7
    obtain ⟨hP, hD⟩ := va_join (wr := []) hP hD [0, 1, 2, 3, 4, 5, 6, 7, 8, 9, 10, 11, 12, 13] [] rfl rfl (by decide) (by decide) hk1 hFc hP1 hD1
    generalize H1 = H at hP hS ⊢
    refine g5_rs [(a_k, (oc5 a_h a_j a_pt z8 z9 z10 z11 z12 z13 z14 z15 z16 z17)), (a_h, (oc1 e_wa e_le e_st e_fo e_lc a_l a_g a_b a_s a_p a_w e_gb a_bb)), (a_g, (oc6 6 5 a_gn e_g)), (a_gn, (arI G 30 f_g)), (a_b, (oc6 5 24 a_bn e_b)), (a_bn, (arI G 120 f_b)), (a_p, (oc6 8 5 a_pn e_p)), (a_pn, (arI G 40 f_p)), (a_bb, (arJ G 24 f_bb)), (a_j, (oc2 a_as a_sk)), (a_as, (arI G 8 z19)), (a_sk, (arJ G 50 z20)), (a_l, (arW G 6 f_l)), (a_pt, (arI G 200 z18))] hP hD (fun hP hD => ?_)
    refine lv_iconst (v := 0) hx hb dX5_cellsFrom_20 (by decide) ?_
    refine lv_istore (lv' := [(6, .int 0), (3, .long k_b), (5, .int k_d), (0, .ref a_k), (1, .int p_c), (2, .int p_h)]) hx hb dX5_cellsFrom_21 hl (by decide) rfl (fun ls hl => ?_)
    refine g5_loop (α := (Int32) × (Int64)) (fun (q : (Int32) × (Int64)) (ls : Array Slot) (H : Heap) (locs : List Loc) => match q with | (k_i, k_x) => lv_has ls 7 [(3, .long k_x), (6, .int k_i), (5, .int k_d), (0, .ref a_k), (1, .int p_c), (2, .int p_h)] ∧ va_P G.1 vwCl [(a_k, (oc5 a_h a_j a_pt z8 z9 z10 z11 z12 z13 z14 z15 z16 z17)), (a_h, (oc1 e_wa e_le e_st e_fo e_lc a_l a_g a_b a_s a_p a_w e_gb a_bb)), (a_g, (oc6 6 5 a_gn e_g)), (a_gn, (arI G 30 f_g)), (a_b, (oc6 5 24 a_bn e_b)), (a_bn, (arI G 120 f_b)), (a_p, (oc6 8 5 a_pn e_p)), (a_pn, (arI G 40 f_p)), (a_bb, (arJ G 24 f_bb)), (a_j, (oc2 a_as a_sk)), (a_as, (arI G 8 z19)), (a_sk, (arJ G 50 z20)), (a_l, (arW G 6 f_l)), (a_pt, (arI G 200 z18))] H ∧ va_D A [(a_k, (oc5 a_h a_j a_pt z8 z9 z10 z11 z12 z13 z14 z15 z16 z17)), (a_h, (oc1 e_wa e_le e_st e_fo e_lc a_l a_g a_b a_s a_p a_w e_gb a_bb)), (a_g, (oc6 6 5 a_gn e_g)), (a_gn, (arI G 30 f_g)), (a_b, (oc6 5 24 a_bn e_b)), (a_bn, (arI G 120 f_b)), (a_p, (oc6 8 5 a_pn e_p)), (a_pn, (arI G 40 f_p)), (a_bb, (arJ G 24 f_bb)), (a_j, (oc2 a_as a_sk)), (a_as, (arI G 8 z19)), (a_sk, (arJ G 50 z20)), (a_l, (arW G 6 f_l)), (a_pt, (arI G 200 z18))] ∧ va_S A s.heap H locs ∧ (0 ≤ k_i.toInt ∧ k_i.toInt ≤ 200)) (fun (q : (Int32) × (Int64)) => match q with | (k_i, k_x) => Int.toNat (200 - k_i.toInt)) (0, k_b) ⟨lv_sub hl [1, 0, 2, 3, 4, 5] rfl, hP, hD, hS, ⟨by decide, by decide⟩⟩ ?_
    rintro ⟨k_i, k_x⟩ ls H locs ⟨hl, hP, hD, hS, i_21⟩ ih_23_22
    have hl : lv_has ls 7 [(3, .long k_x), (6, .int k_i), (5, .int k_d), (0, .ref a_k), (1, .int p_c), (2, .int p_h)] := hl
    have i_21 : 0 ≤ k_i.toInt ∧ k_i.toInt ≤ 200 := i_21
    refine g5_rs [(a_k, (oc5 a_h a_j a_pt z8 z9 z10 z11 z12 z13 z14 z15 z16 z17)), (a_h, (oc1 e_wa e_le e_st e_fo e_lc a_l a_g a_b a_s a_p a_w e_gb a_bb)), (a_g, (oc6 6 5 a_gn e_g)), (a_gn, (arI G 30 f_g)), (a_b, (oc6 5 24 a_bn e_b)), (a_bn, (arI G 120 f_b)), (a_p, (oc6 8 5 a_pn e_p)), (a_pn, (arI G 40 f_p)), (a_bb, (arJ G 24 f_bb)), (a_j, (oc2 a_as a_sk)), (a_as, (arI G 8 z19)), (a_sk, (arJ G 50 z20)), (a_l, (arW G 6 f_l)), (a_pt, (arI G 200 z18))] hP hD (fun hP hD => ?_)
    refine lv_iload hx hb dX5_cellsFrom_23 (lv_at hl 1 rfl) ?_
    refine lv_aload_n hx hb dX5_cellsFrom_25 rfl (lv_at hl 3 rfl) ?_
    refine va_get (D := G.1) (ci := 5) (v := .int z8) (C := RX5) (T := TX5) (N := 13) hx hb hts inG_X5 hown hK hP 0 rfl rfl 3 (by decide) (hts _ fl_X5_36) (fun _ h9 => h9) rfl dX5_cellsFrom_26 ?_
    refine lv_icmp_ge (tgt := 53) hx hb dX5_cellsFrom_29 (by decide) (fun c_23 => ?_) (fun c_23 => ?_)
    ·
      have i_23 : k_i.toInt ≥ z8.toInt := by have z := g5_ge (a := k_i.toInt) (b := z8.toInt) (by rfl) (by rfl) c_23; omega
      refine lv_iinc (v := (k_d + 1)) (lv' := [(5, .int (k_d + 1)), (3, .long k_x), (6, .int k_i), (0, .ref a_k), (1, .int p_c), (2, .int p_h)]) hx hb dX5_cellsFrom_53 hl (k := 2) rfl rfl (by decide) rfl (fun ls hl => ?_)
      have t_24 : (k_d + 1).toInt = k_d.toInt + 1 := g5_iadd (a := k_d.toInt) (b := 1) rfl (by decide) (by omega) (by omega)
      refine lv_goto (tgt := 5) hx hb dX5_cellsFrom_56 (by decide) ?_
      exact ih_5_3 ((k_d + 1), k_x, z9, z10, z11, z12, z13, z14, z15, z16, z17, z18, z19, z20, z8) ls H locs (show Int.toNat (4 - (k_d + 1).toInt) < Int.toNat (4 - k_d.toInt) from g_up (show k_d.toInt < (k_d + 1).toInt by omega) (show k_d.toInt < 4 by omega)) ⟨lv_sub hl [1, 0, 3, 4, 5] rfl, hP, hD, hS, ⟨by omega, by omega⟩, i_6⟩
    ·
      have i_23 : k_i.toInt < z8.toInt := by have z := g5_geN (a := k_i.toInt) (b := z8.toInt) (by rfl) (by rfl) c_23; omega
      refine lv_lload_n hx hb dX5_cellsFrom_32 rfl (lv_at hl 0 rfl) ?_
      refine lv_lconst (v := 1) hx hb dX5_cellsFrom_33 (by decide) ?_
      refine lv_aload_n hx hb dX5_cellsFrom_34 rfl (lv_at hl 3 rfl) ?_
      refine va_get (D := G.1) (ci := 5) (v := .ref a_pt) (C := RX5) (T := TX5) (N := 13) hx hb hts inG_X5 hown hK hP 0 rfl rfl 2 (by decide) (hts _ fl_X5_18) (fun _ h9 => h9) rfl dX5_cellsFrom_35 ?_
      refine lv_iload hx hb dX5_cellsFrom_38 (lv_at hl 1 rfl) ?_
      refine va_iald hx hb hK hP 13 0 rfl rfl (i := k_i) (vp_in_iff.mpr ⟨by omega, by omega⟩) dX5_cellsFrom_40 ?_
      have hp_25 : 0 ≤ (z18 k_i.toNatClampNeg).toInt ∧ (z18 k_i.toNatClampNeg).toInt ≤ 1535 := i_7 _ (by have zz := g5_clamp k_i; omega)
      refine lv_bipush (v := 64) hx hb dX5_cellsFrom_41 (by decide) ?_
      refine lv_irem hx hb dX5_cellsFrom_43 (by decide) ?_
      have t_26 : ((z18 k_i.toNatClampNeg) - (z18 k_i.toNatClampNeg) / 64 * 64).toInt = (z18 k_i.toNatClampNeg).toInt % 64 := g5_irem (a := (z18 k_i.toNatClampNeg).toInt) (b := 64) rfl (by decide) (by omega) (by decide)
      refine lv_lshl (v := ((1 : Int64) <<< (((z18 k_i.toNatClampNeg) - (z18 k_i.toNatClampNeg) / 64 * 64).toInt64 &&& 63))) hx hb dX5_cellsFrom_44 rfl ?_
      refine lv_lor hx hb dX5_cellsFrom_45 ?_
      refine lv_lstore_n (lv' := [(3, .long (k_x ||| ((1 : Int64) <<< (((z18 k_i.toNatClampNeg) - (z18 k_i.toNatClampNeg) / 64 * 64).toInt64 &&& 63)))), (6, .int k_i), (5, .int k_d), (0, .ref a_k), (1, .int p_c), (2, .int p_h)]) hx hb dX5_cellsFrom_46 rfl hl (by decide) rfl (fun ls hl => ?_)
      refine lv_iinc (v := (k_i + 1)) (lv' := [(6, .int (k_i + 1)), (3, .long (k_x ||| ((1 : Int64) <<< (((z18 k_i.toNatClampNeg) - (z18 k_i.toNatClampNeg) / 64 * 64).toInt64 &&& 63)))), (5, .int k_d), (0, .ref a_k), (1, .int p_c), (2, .int p_h)]) hx hb dX5_cellsFrom_47 hl (k := 1) rfl rfl (by decide) rfl (fun ls hl => ?_)
      have t_27 : (k_i + 1).toInt = k_i.toInt + 1 := g5_iadd (a := k_i.toInt) (b := 1) rfl (by decide) (by omega) (by omega)
      refine lv_goto (tgt := 23) hx hb dX5_cellsFrom_50 (by decide) ?_
      exact ih_23_22 ((k_i + 1), (k_x ||| ((1 : Int64) <<< (((z18 k_i.toNatClampNeg) - (z18 k_i.toNatClampNeg) / 64 * 64).toInt64 &&& 63)))) ls H locs (show Int.toNat (200 - (k_i + 1).toInt) < Int.toNat (200 - k_i.toInt) from g_up (show k_i.toInt < (k_i + 1).toInt by omega) (show k_i.toInt < 200 by omega)) ⟨lv_sub hl [1, 0, 2, 3, 4, 5] rfl, hP, hD, hS, ⟨by omega, by omega⟩⟩
theorem dgX5_lateness_0 : ∀ r ∈ ([(0, (.iconst (-1), 1)), (1, (.istore 4, 2)), (3, (.iconst 0, 1)), (4, (.istore 5, 2)), (6, (.iload 5, 2)), (8, (.iconst 4, 1)), (9, (.if_icmp .ge 51, 3)), (12, (.aload_n 0, 1)), (13, (.iload_n 1, 1)), (14, (.iload 5, 2)), (16, (.iload_n 2, 1)), (17, (.iconst 0, 1)), (18, (.invokevirtual 91, 3)), (21, (.iload_n 2, 1)), (22, (.aload_n 0, 1)), (23, (.getfield 42, 3)), (26, (.isub, 1)), (27, (.istore 6, 2)), (29, (.aload_n 0, 1)), (30, (.getfield 39, 3)), (33, (.iload_n 3, 1)), (34, (.if_icmp .ne 20, 3)), (37, (.iload 4, 2)), (39, (.iconst (-1), 1)), (40, (.if_icmp .eq 10, 3)), (43, (.iload 6, 2)), (45, (.iload 4, 2)), (47, (.if_icmp .ge 7, 3)), (50, (.iload 6, 2)), (52, (.istore 4, 2)), (54, (.iinc 5 1, 3)), (57, (.goto (-51), 3)), (60, (.iload 4, 2)), (62, (.ireturn, 1))] : List (Nat × (Instr × Nat))), decode cX5_lateness r.1 = .ok r.2 := by decide +kernel
theorem dX5_lateness_0 : decode cX5_lateness 0 = .ok (.iconst (-1), 1) := dgX5_lateness_0 (0, (.iconst (-1), 1)) (List.mem_of_getElem? (i := 0) rfl)
theorem dX5_lateness_1 : decode cX5_lateness 1 = .ok (.istore 4, 2) := dgX5_lateness_0 (1, (.istore 4, 2)) (List.mem_of_getElem? (i := 1) rfl)
theorem dX5_lateness_3 : decode cX5_lateness 3 = .ok (.iconst 0, 1) := dgX5_lateness_0 (3, (.iconst 0, 1)) (List.mem_of_getElem? (i := 2) rfl)
theorem dX5_lateness_4 : decode cX5_lateness 4 = .ok (.istore 5, 2) := dgX5_lateness_0 (4, (.istore 5, 2)) (List.mem_of_getElem? (i := 3) rfl)
theorem dX5_lateness_6 : decode cX5_lateness 6 = .ok (.iload 5, 2) := dgX5_lateness_0 (6, (.iload 5, 2)) (List.mem_of_getElem? (i := 4) rfl)
theorem dX5_lateness_8 : decode cX5_lateness 8 = .ok (.iconst 4, 1) := dgX5_lateness_0 (8, (.iconst 4, 1)) (List.mem_of_getElem? (i := 5) rfl)
theorem dX5_lateness_9 : decode cX5_lateness 9 = .ok (.if_icmp .ge 51, 3) := dgX5_lateness_0 (9, (.if_icmp .ge 51, 3)) (List.mem_of_getElem? (i := 6) rfl)
theorem dX5_lateness_12 : decode cX5_lateness 12 = .ok (.aload_n 0, 1) := dgX5_lateness_0 (12, (.aload_n 0, 1)) (List.mem_of_getElem? (i := 7) rfl)
theorem dX5_lateness_13 : decode cX5_lateness 13 = .ok (.iload_n 1, 1) := dgX5_lateness_0 (13, (.iload_n 1, 1)) (List.mem_of_getElem? (i := 8) rfl)
theorem dX5_lateness_14 : decode cX5_lateness 14 = .ok (.iload 5, 2) := dgX5_lateness_0 (14, (.iload 5, 2)) (List.mem_of_getElem? (i := 9) rfl)
theorem dX5_lateness_16 : decode cX5_lateness 16 = .ok (.iload_n 2, 1) := dgX5_lateness_0 (16, (.iload_n 2, 1)) (List.mem_of_getElem? (i := 10) rfl)
theorem dX5_lateness_17 : decode cX5_lateness 17 = .ok (.iconst 0, 1) := dgX5_lateness_0 (17, (.iconst 0, 1)) (List.mem_of_getElem? (i := 11) rfl)
theorem dX5_lateness_18 : decode cX5_lateness 18 = .ok (.invokevirtual 91, 3) := dgX5_lateness_0 (18, (.invokevirtual 91, 3)) (List.mem_of_getElem? (i := 12) rfl)
theorem dX5_lateness_21 : decode cX5_lateness 21 = .ok (.iload_n 2, 1) := dgX5_lateness_0 (21, (.iload_n 2, 1)) (List.mem_of_getElem? (i := 13) rfl)
theorem dX5_lateness_22 : decode cX5_lateness 22 = .ok (.aload_n 0, 1) := dgX5_lateness_0 (22, (.aload_n 0, 1)) (List.mem_of_getElem? (i := 14) rfl)
theorem dX5_lateness_23 : decode cX5_lateness 23 = .ok (.getfield 42, 3) := dgX5_lateness_0 (23, (.getfield 42, 3)) (List.mem_of_getElem? (i := 15) rfl)
theorem dX5_lateness_26 : decode cX5_lateness 26 = .ok (.isub, 1) := dgX5_lateness_0 (26, (.isub, 1)) (List.mem_of_getElem? (i := 16) rfl)
theorem dX5_lateness_27 : decode cX5_lateness 27 = .ok (.istore 6, 2) := dgX5_lateness_0 (27, (.istore 6, 2)) (List.mem_of_getElem? (i := 17) rfl)
theorem dX5_lateness_29 : decode cX5_lateness 29 = .ok (.aload_n 0, 1) := dgX5_lateness_0 (29, (.aload_n 0, 1)) (List.mem_of_getElem? (i := 18) rfl)
theorem dX5_lateness_30 : decode cX5_lateness 30 = .ok (.getfield 39, 3) := dgX5_lateness_0 (30, (.getfield 39, 3)) (List.mem_of_getElem? (i := 19) rfl)
theorem dX5_lateness_33 : decode cX5_lateness 33 = .ok (.iload_n 3, 1) := dgX5_lateness_0 (33, (.iload_n 3, 1)) (List.mem_of_getElem? (i := 20) rfl)
theorem dX5_lateness_34 : decode cX5_lateness 34 = .ok (.if_icmp .ne 20, 3) := dgX5_lateness_0 (34, (.if_icmp .ne 20, 3)) (List.mem_of_getElem? (i := 21) rfl)
theorem dX5_lateness_37 : decode cX5_lateness 37 = .ok (.iload 4, 2) := dgX5_lateness_0 (37, (.iload 4, 2)) (List.mem_of_getElem? (i := 22) rfl)
theorem dX5_lateness_39 : decode cX5_lateness 39 = .ok (.iconst (-1), 1) := dgX5_lateness_0 (39, (.iconst (-1), 1)) (List.mem_of_getElem? (i := 23) rfl)
theorem dX5_lateness_40 : decode cX5_lateness 40 = .ok (.if_icmp .eq 10, 3) := dgX5_lateness_0 (40, (.if_icmp .eq 10, 3)) (List.mem_of_getElem? (i := 24) rfl)
theorem dX5_lateness_43 : decode cX5_lateness 43 = .ok (.iload 6, 2) := dgX5_lateness_0 (43, (.iload 6, 2)) (List.mem_of_getElem? (i := 25) rfl)
theorem dX5_lateness_45 : decode cX5_lateness 45 = .ok (.iload 4, 2) := dgX5_lateness_0 (45, (.iload 4, 2)) (List.mem_of_getElem? (i := 26) rfl)
theorem dX5_lateness_47 : decode cX5_lateness 47 = .ok (.if_icmp .ge 7, 3) := dgX5_lateness_0 (47, (.if_icmp .ge 7, 3)) (List.mem_of_getElem? (i := 27) rfl)
theorem dX5_lateness_50 : decode cX5_lateness 50 = .ok (.iload 6, 2) := dgX5_lateness_0 (50, (.iload 6, 2)) (List.mem_of_getElem? (i := 28) rfl)
theorem dX5_lateness_52 : decode cX5_lateness 52 = .ok (.istore 4, 2) := dgX5_lateness_0 (52, (.istore 4, 2)) (List.mem_of_getElem? (i := 29) rfl)
theorem dX5_lateness_54 : decode cX5_lateness 54 = .ok (.iinc 5 1, 3) := dgX5_lateness_0 (54, (.iinc 5 1, 3)) (List.mem_of_getElem? (i := 30) rfl)
theorem dX5_lateness_57 : decode cX5_lateness 57 = .ok (.goto (-51), 3) := dgX5_lateness_0 (57, (.goto (-51), 3)) (List.mem_of_getElem? (i := 31) rfl)
theorem dX5_lateness_60 : decode cX5_lateness 60 = .ok (.iload 4, 2) := dgX5_lateness_0 (60, (.iload 4, 2)) (List.mem_of_getElem? (i := 32) rfl)
theorem dX5_lateness_62 : decode cX5_lateness 62 = .ok (.ireturn, 1) := dgX5_lateness_0 (62, (.ireturn, 1)) (List.mem_of_getElem? (i := 33) rfl)
set_option maxHeartbeats 4000000 in
set_option maxRecDepth 100000 in
theorem s_latenessN (l : Launch) (G : g5_G) (a_k a_h a_g a_gn a_b a_bn a_p a_pn a_bb a_j a_as a_sk a_l a_pt a_s a_w : Nat) (sz : Nat) (e_le : Int32) (e_st : Int32) (e_fo : Int32) (e_lc : Int32) (e_g : Int32) (e_b : Int32) (e_p : Int32) (e_ln : Int32) (e_se : Int32) (e_lh : Int32) (e_br : Int32) (e_we : Int32) (e_me : Int32) (e_ce : Int32) (e_wy : Int32) (e_ho : Int32) (e_ov : Int32) (p_c : Int32) (p_h : Int32) (p_b : Int32) (e_wa : Int64) (e_gb : Int64) (f_g : Nat → Int32) (f_b : Nat → Int32) (f_p : Nat → Int32) (f_bb : Nat → Int64) (f_as : Nat → Int32) (f_sk : Nat → Int64) (f_l : Nat → Option Nat) (f_pt : Nat → Int32) (h_e_g : 0 ≤ e_g.toInt ∧ e_g.toInt ≤ 6) (h_e_b : 0 ≤ e_b.toInt ∧ e_b.toInt ≤ 5) (h_e_p : 0 ≤ e_p.toInt ∧ e_p.toInt ≤ 8) (h_e_ov : 0 ≤ e_ov.toInt ∧ e_ov.toInt ≤ 1) (e_gk : gOK f_g e_g.toInt) (e_pk : gOK f_p e_p.toInt) (e_gi : inT e_gb f_g e_g.toInt) (e_f : e_fo.toInt < 0 ∨ e_lc.toInt ≤ e_fo.toInt) : Met l yX5_lateness (wsG yX5_lateness cX5_lateness 7 (some .int)) ({ frames := 14, cells := 0, slots := 0, locals := 556 }) (va_Pc [.ref a_k, .int p_c, .int p_h, .int p_b] (g5_P G [(a_k, (oc5 a_h a_j a_pt e_ln e_se e_lh e_br e_we e_me e_ce e_wy e_ho e_ov)), (a_h, (oc1 e_wa e_le e_st e_fo e_lc a_l a_g a_b a_s a_p a_w e_gb a_bb)), (a_g, (oc6 6 5 a_gn e_g)), (a_gn, (arI G 30 f_g)), (a_b, (oc6 5 24 a_bn e_b)), (a_bn, (arI G 120 f_b)), (a_p, (oc6 8 5 a_pn e_p)), (a_pn, (arI G 40 f_p)), (a_bb, (arJ G 24 f_bb)), (a_j, (oc2 a_as a_sk)), (a_as, (arI G 8 f_as)), (a_sk, (arJ G 50 f_sk)), (a_l, (arW G 6 f_l)), (a_pt, (arI G 200 f_pt))] sz)) (va_Qi (fun (r : Int32) (u : va_W) => (∃ (o_r : Int32) (o_ln : Int32) (o_se : Int32) (o_lh : Int32) (o_br : Int32) (o_we : Int32) (o_me : Int32) (o_ce : Int32) (o_wy : Int32) (o_ho : Int32) (o_ov : Int32) (o_pt : Nat → Int32) (o_as : Nat → Int32) (o_sk : Nat → Int64), (0 ≤ o_ov.toInt ∧ o_ov.toInt ≤ 1) ∧ (r = o_r) ∧ (u = [(a_k, (oc5 a_h a_j a_pt o_ln o_se o_lh o_br o_we o_me o_ce o_wy o_ho o_ov)), (a_h, (oc1 e_wa e_le e_st e_fo e_lc a_l a_g a_b a_s a_p a_w e_gb a_bb)), (a_g, (oc6 6 5 a_gn e_g)), (a_gn, (arI G 30 f_g)), (a_b, (oc6 5 24 a_bn e_b)), (a_bn, (arI G 120 f_b)), (a_p, (oc6 8 5 a_pn e_p)), (a_pn, (arI G 40 f_p)), (a_bb, (arJ G 24 f_bb)), (a_j, (oc2 a_as a_sk)), (a_as, (arI G 8 o_as)), (a_sk, (arJ G 50 o_sk)), (a_l, (arW G 6 f_l)), (a_pt, (arI G 200 o_pt))]))) (g5_B G (va_A [(a_k, (oc5 a_h a_j a_pt e_ln e_se e_lh e_br e_we e_me e_ce e_wy e_ho e_ov)), (a_h, (oc1 e_wa e_le e_st e_fo e_lc a_l a_g a_b a_s a_p a_w e_gb a_bb)), (a_g, (oc6 6 5 a_gn e_g)), (a_gn, (arI G 30 f_g)), (a_b, (oc6 5 24 a_bn e_b)), (a_bn, (arI G 120 f_b)), (a_p, (oc6 8 5 a_pn e_p)), (a_pn, (arI G 40 f_p)), (a_bb, (arJ G 24 f_bb)), (a_j, (oc2 a_as a_sk)), (a_as, (arI G 8 f_as)), (a_sk, (arJ G 50 f_sk)), (a_l, (arW G 6 f_l)), (a_pt, (arI G 200 f_pt))] sz)) (va_A [(a_k, (oc5 a_h a_j a_pt e_ln e_se e_lh e_br e_we e_me e_ce e_wy e_ho e_ov)), (a_h, (oc1 e_wa e_le e_st e_fo e_lc a_l a_g a_b a_s a_p a_w e_gb a_bb)), (a_g, (oc6 6 5 a_gn e_g)), (a_gn, (arI G 30 f_g)), (a_b, (oc6 5 24 a_bn e_b)), (a_bn, (arI G 120 f_b)), (a_p, (oc6 8 5 a_pn e_p)), (a_pn, (arI G 40 f_p)), (a_bb, (arJ G 24 f_bb)), (a_j, (oc2 a_as a_sk)), (a_as, (arI G 8 f_as)), (a_sk, (arJ G 50 f_sk)), (a_l, (arW G 6 f_l)), (a_pt, (arI G 200 f_pt))] sz)) 0 0 (va_A [(a_k, (oc5 a_h a_j a_pt e_ln e_se e_lh e_br e_we e_me e_ce e_wy e_ho e_ov)), (a_h, (oc1 e_wa e_le e_st e_fo e_lc a_l a_g a_b a_s a_p a_w e_gb a_bb)), (a_g, (oc6 6 5 a_gn e_g)), (a_gn, (arI G 30 f_g)), (a_b, (oc6 5 24 a_bn e_b)), (a_bn, (arI G 120 f_b)), (a_p, (oc6 8 5 a_pn e_p)), (a_pn, (arI G 40 f_p)), (a_bb, (arJ G 24 f_bb)), (a_j, (oc2 a_as a_sk)), (a_as, (arI G 8 f_as)), (a_sk, (arJ G 50 f_sk)), (a_l, (arW G 6 f_l)), (a_pt, (arI G 200 f_pt))] sz) := by
  refine Met.ofW (cc := cX5_lateness) (maxL := 7) (ret := (some .int)) (by decide) rfl ?_
  intro p e s m args below meth c s₁ B hml hv
  obtain ⟨rfl, hsz, hP, hK, hD0, hN, hT⟩ := hv
  have hx := B.exec
  have hb := B.bytes
  have hr := B.returns
  have hts : ∀ w ∈ tblG, w.before _ s = true := fun w h => atoms_spec (ws := (wsG yX5_lateness cX5_lateness 7 (some .int))) B.pre w (List.mem_cons_of_mem _ h)
  have hown : s.vm.findClass RX5 = some m.cls := findClass_of_methodNamed B.named
  have hlocks := B.notSynchronized
  subst hsz
  have hD := hD0.self (sz := s.heap.size)
  generalize hAe : va_A [(a_k, (oc5 a_h a_j a_pt e_ln e_se e_lh e_br e_we e_me e_ce e_wy e_ho e_ov)), (a_h, (oc1 e_wa e_le e_st e_fo e_lc a_l a_g a_b a_s a_p a_w e_gb a_bb)), (a_g, (oc6 6 5 a_gn e_g)), (a_gn, (arI G 30 f_g)), (a_b, (oc6 5 24 a_bn e_b)), (a_bn, (arI G 120 f_b)), (a_p, (oc6 8 5 a_pn e_p)), (a_pn, (arI G 40 f_p)), (a_bb, (arJ G 24 f_bb)), (a_j, (oc2 a_as a_sk)), (a_as, (arI G 8 f_as)), (a_sk, (arJ G 50 f_sk)), (a_l, (arW G 6 f_l)), (a_pt, (arI G 200 f_pt))] s.heap.size = A at hD hT ⊢
  have hA : ∀ q : Nat, s.heap.size ≤ q → A q := fun q h => by rw [← hAe]; exact Or.inr h
  have hS : va_S A s.heap s.heap [] := va_S.rf
  have hP : va_P G.1 vwCl [(a_k, (oc5 a_h a_j a_pt e_ln e_se e_lh e_br e_we e_me e_ce e_wy e_ho e_ov)), (a_h, (oc1 e_wa e_le e_st e_fo e_lc a_l a_g a_b a_s a_p a_w e_gb a_bb)), (a_g, (oc6 6 5 a_gn e_g)), (a_gn, (arI G 30 f_g)), (a_b, (oc6 5 24 a_bn e_b)), (a_bn, (arI G 120 f_b)), (a_p, (oc6 8 5 a_pn e_p)), (a_pn, (arI G 40 f_p)), (a_bb, (arJ G 24 f_bb)), (a_j, (oc2 a_as a_sk)), (a_as, (arI G 8 f_as)), (a_sk, (arJ G 50 f_sk)), (a_l, (arW G 6 f_l)), (a_pt, (arI G 200 f_pt))] s.heap := hP
  have hl := lv_entry ([.ref a_k, .int p_c, .int p_h, .int p_b]) (n := 7) (Nat.le_of_ble_eq_true rfl)
  rw [lg_entry_eq]
  generalize (lg_sl ([.ref a_k, .int p_c, .int p_h, .int p_b]) ++ List.replicate (7 - (lg_sl ([.ref a_k, .int p_c, .int p_h, .int p_b])).length) Slot.unset).toArray = ls at hl ⊢
  have hl : lv_has ls 7 [(0, .ref a_k), (1, .int p_c), (2, .int p_h), (3, .int p_b)] := hl
  refine lv_iconst (v := (-1)) hx hb dX5_lateness_0 (by decide) ?_
  refine lv_istore (lv' := [(4, .int (-1)), (0, .ref a_k), (1, .int p_c), (2, .int p_h), (3, .int p_b)]) hx hb dX5_lateness_1 hl (by decide) rfl (fun ls hl => ?_)
  refine lv_iconst (v := 0) hx hb dX5_lateness_3 (by decide) ?_
  refine lv_istore (lv' := [(5, .int 0), (4, .int (-1)), (0, .ref a_k), (1, .int p_c), (2, .int p_h), (3, .int p_b)]) hx hb dX5_lateness_4 hl (by decide) rfl (fun ls hl => ?_)
  refine g5_loop (α := (Int32) × (Int32) × (Int32) × (Int32) × (Int32) × (Int32) × (Int32) × (Int32) × (Int32) × (Int32) × (Int32) × (Nat → Int32) × (Nat → Int32) × (Nat → Int64) × (Int32)) (fun (q : (Int32) × (Int32) × (Int32) × (Int32) × (Int32) × (Int32) × (Int32) × (Int32) × (Int32) × (Int32) × (Int32) × (Nat → Int32) × (Nat → Int32) × (Nat → Int64) × (Int32)) (ls : Array Slot) (H : Heap) (locs : List Loc) => match q with | (k_d, k_l, k_se, k_lh, k_br, k_we, k_me, k_ce, k_wy, k_ho, k_ov, k_pt, k_as, k_sk, k_ln) => lv_has ls 7 [(4, .int k_l), (5, .int k_d), (0, .ref a_k), (1, .int p_c), (2, .int p_h), (3, .int p_b)] ∧ va_P G.1 vwCl [(a_k, (oc5 a_h a_j a_pt k_ln k_se k_lh k_br k_we k_me k_ce k_wy k_ho k_ov)), (a_h, (oc1 e_wa e_le e_st e_fo e_lc a_l a_g a_b a_s a_p a_w e_gb a_bb)), (a_g, (oc6 6 5 a_gn e_g)), (a_gn, (arI G 30 f_g)), (a_b, (oc6 5 24 a_bn e_b)), (a_bn, (arI G 120 f_b)), (a_p, (oc6 8 5 a_pn e_p)), (a_pn, (arI G 40 f_p)), (a_bb, (arJ G 24 f_bb)), (a_j, (oc2 a_as a_sk)), (a_as, (arI G 8 k_as)), (a_sk, (arJ G 50 k_sk)), (a_l, (arW G 6 f_l)), (a_pt, (arI G 200 k_pt))] H ∧ va_D A [(a_k, (oc5 a_h a_j a_pt k_ln k_se k_lh k_br k_we k_me k_ce k_wy k_ho k_ov)), (a_h, (oc1 e_wa e_le e_st e_fo e_lc a_l a_g a_b a_s a_p a_w e_gb a_bb)), (a_g, (oc6 6 5 a_gn e_g)), (a_gn, (arI G 30 f_g)), (a_b, (oc6 5 24 a_bn e_b)), (a_bn, (arI G 120 f_b)), (a_p, (oc6 8 5 a_pn e_p)), (a_pn, (arI G 40 f_p)), (a_bb, (arJ G 24 f_bb)), (a_j, (oc2 a_as a_sk)), (a_as, (arI G 8 k_as)), (a_sk, (arJ G 50 k_sk)), (a_l, (arW G 6 f_l)), (a_pt, (arI G 200 k_pt))] ∧ va_S A s.heap H locs ∧ (0 ≤ k_d.toInt ∧ k_d.toInt ≤ 4) ∧ (0 ≤ k_ov.toInt ∧ k_ov.toInt ≤ 1)) (fun (q : (Int32) × (Int32) × (Int32) × (Int32) × (Int32) × (Int32) × (Int32) × (Int32) × (Int32) × (Int32) × (Int32) × (Nat → Int32) × (Nat → Int32) × (Nat → Int64) × (Int32)) => match q with | (k_d, k_l, k_se, k_lh, k_br, k_we, k_me, k_ce, k_wy, k_ho, k_ov, k_pt, k_as, k_sk, k_ln) => Int.toNat (4 - k_d.toInt)) (0, (-1), e_se, e_lh, e_br, e_we, e_me, e_ce, e_wy, e_ho, e_ov, f_pt, f_as, f_sk, e_ln) ⟨lv_sub hl [1, 0, 2, 3, 4, 5] rfl, hP, hD, hS, ⟨by decide, by decide⟩, h_e_ov⟩ ?_
  rintro ⟨k_d, k_l, k_se, k_lh, k_br, k_we, k_me, k_ce, k_wy, k_ho, k_ov, k_pt, k_as, k_sk, k_ln⟩ ls H locs ⟨hl, hP, hD, hS, i_1, i_2⟩ ih_6_3
  have hl : lv_has ls 7 [(4, .int k_l), (5, .int k_d), (0, .ref a_k), (1, .int p_c), (2, .int p_h), (3, .int p_b)] := hl
  have i_1 : 0 ≤ k_d.toInt ∧ k_d.toInt ≤ 4 := i_1
  have i_2 : 0 ≤ k_ov.toInt ∧ k_ov.toInt ≤ 1 := i_2
  refine g5_rs [(a_k, (oc5 a_h a_j a_pt k_ln k_se k_lh k_br k_we k_me k_ce k_wy k_ho k_ov)), (a_h, (oc1 e_wa e_le e_st e_fo e_lc a_l a_g a_b a_s a_p a_w e_gb a_bb)), (a_g, (oc6 6 5 a_gn e_g)), (a_gn, (arI G 30 f_g)), (a_b, (oc6 5 24 a_bn e_b)), (a_bn, (arI G 120 f_b)), (a_p, (oc6 8 5 a_pn e_p)), (a_pn, (arI G 40 f_p)), (a_bb, (arJ G 24 f_bb)), (a_j, (oc2 a_as a_sk)), (a_as, (arI G 8 k_as)), (a_sk, (arJ G 50 k_sk)), (a_l, (arW G 6 f_l)), (a_pt, (arI G 200 k_pt))] hP hD (fun hP hD => ?_)
  refine lv_iload hx hb dX5_lateness_6 (lv_at hl 1 rfl) ?_
  refine lv_iconst (v := 4) hx hb dX5_lateness_8 (by decide) ?_
  refine lv_icmp_ge (tgt := 60) hx hb dX5_lateness_9 (by decide) (fun c_4 => ?_) (fun c_4 => ?_)
  ·
    have i_4 : k_d.toInt ≥ 4 := by have z := g5_ge (a := k_d.toInt) (b := 4) (by rfl) (by decide) c_4; omega
    refine lv_iload hx hb dX5_lateness_60 (lv_at hl 0 rfl) ?_
    exact W.iret (v := k_l) hx hb hr (fun t ht hW => ⟨⟨k_l, [(a_k, (oc5 a_h a_j a_pt k_ln k_se k_lh k_br k_we k_me k_ce k_wy k_ho k_ov)), (a_h, (oc1 e_wa e_le e_st e_fo e_lc a_l a_g a_b a_s a_p a_w e_gb a_bb)), (a_g, (oc6 6 5 a_gn e_g)), (a_gn, (arI G 30 f_g)), (a_b, (oc6 5 24 a_bn e_b)), (a_bn, (arI G 120 f_b)), (a_p, (oc6 8 5 a_pn e_p)), (a_pn, (arI G 40 f_p)), (a_bb, (arJ G 24 f_bb)), (a_j, (oc2 a_as a_sk)), (a_as, (arI G 8 k_as)), (a_sk, (arJ G 50 k_sk)), (a_l, (arW G 6 f_l)), (a_pt, (arI G 200 k_pt))], rfl, ⟨k_l, k_ln, k_se, k_lh, k_br, k_we, k_me, k_ce, k_wy, k_ho, k_ov, k_pt, k_as, k_sk, i_2, rfl, rfl⟩, by rw [ht]; exact hP.sub [0, 1, 2, 3, 4, 5, 6, 7, 8, 9, 10, 11, 12, 13] rfl, hD.sub [0, 1, 2, 3, 4, 5, 6, 7, 8, 9, 10, 11, 12, 13] (by decide) rfl⟩, hS.F ht⟩) hS.2.2 dX5_lateness_62
  ·
    have i_4 : k_d.toInt < 4 := by have z := g5_geN (a := k_d.toInt) (b := 4) (by rfl) (by decide) c_4; omega
    refine lv_aload_n hx hb dX5_lateness_12 rfl (lv_at hl 2 rfl) ?_
    refine lv_iload_n hx hb dX5_lateness_13 rfl (lv_at hl 3 rfl) ?_
    refine lv_iload hx hb dX5_lateness_14 (lv_at hl 1 rfl) ?_
    refine lv_iload_n hx hb dX5_lateness_16 rfl (lv_at hl 4 rfl) ?_
    refine lv_iconst (v := 0) hx hb dX5_lateness_17 (by decide) ?_
    obtain ⟨hPc, hDc, hFc⟩ := g5_sub3 (wc := [(a_k, (oc5 a_h a_j a_pt k_ln k_se k_lh k_br k_we k_me k_ce k_wy k_ho k_ov)), (a_h, (oc1 e_wa e_le e_st e_fo e_lc a_l a_g a_b a_s a_p a_w e_gb a_bb)), (a_g, (oc6 6 5 a_gn e_g)), (a_gn, (arI G 30 f_g)), (a_b, (oc6 5 24 a_bn e_b)), (a_bn, (arI G 120 f_b)), (a_p, (oc6 8 5 a_pn e_p)), (a_pn, (arI G 40 f_p)), (a_bb, (arJ G 24 f_bb)), (a_j, (oc2 a_as a_sk)), (a_as, (arI G 8 k_as)), (a_sk, (arJ G 50 k_sk)), (a_l, (arW G 6 f_l)), (a_pt, (arI G 200 k_pt))]) hP hD hS hA [0, 1, 2, 3, 4, 5, 6, 7, 8, 9, 10, 11, 12, 13] (by decide) rfl
    refine va_callv (va_runV (As := [.int p_c, .int k_d, .int p_h, .int 0]) (rest := []) ⟨hx, hb, hml, hown, hts⟩ (k_runN l G a_k a_h a_g a_gn a_b a_bn a_p a_pn a_bb a_j a_as a_sk a_l a_pt a_s a_w H.size e_le e_st e_fo e_lc e_g e_b e_p k_ln k_se k_lh k_br k_we k_me k_ce k_wy k_ho k_ov p_c k_d p_h 0 e_wa e_gb f_g f_b f_p f_bb k_as k_sk f_l k_pt h_e_g h_e_b h_e_p i_2 (e_gk) (e_pk) (e_gi) (e_f)) (cwV 4 hts gV_X5_91 rfl rfl rfl hv_X5_run ⟨Nat.le_of_ble_eq_true rfl, Nat.le_of_ble_eq_true rfl⟩) (g5_preV hPc hK hDc hN hT hS hFc (ci := 5) (q0 := 0) rfl rfl) rfl rfl hl.1 rfl (lv_room (Nat.le_of_ble_eq_true rfl)) dX5_lateness_18 ⟨Nat.le_of_ble_eq_true rfl, Nat.le_of_ble_eq_true rfl⟩) hS (fun q _ h => hFc q h) hFc (fun u t H1 locs ht hvm hw hB hz1 hk1 hS => ?_)
    obtain ⟨hP1, hD1⟩ := hB
    rw [ht] at hP1
    obtain ⟨z8, z9, z10, z11, z12, z13, z14, z15, z16, z17, z18, z19, z20, i_5, i_6, i_7, rfl⟩ := hw
    have i_5 : 0 ≤ z8.toInt ∧ z8.toInt ≤ 200 := i_5
    have i_6 : 0 ≤ z17.toInt ∧ z17.toInt ≤ 1 := i_6
    have i_7 : ∀ j : Nat, (j : Int) < z8.toInt → 0 ≤ (z18 j).toInt ∧ (z18 j).toInt ≤ 1535 := i_7
    obtain ⟨hP, hD⟩ := va_join (wr := []) hP hD [0, 1, 2, 3, 4, 5, 6, 7, 8, 9, 10, 11, 12, 13] [] rfl rfl (by decide) (by decide) hk1 hFc hP1 hD1
    generalize H1 = H at hP hS ⊢
    refine g5_rs [(a_k, (oc5 a_h a_j a_pt z8 z9 z10 z11 z12 z13 z14 z15 z16 z17)), (a_h, (oc1 e_wa e_le e_st e_fo e_lc a_l a_g a_b a_s a_p a_w e_gb a_bb)), (a_g, (oc6 6 5 a_gn e_g)), (a_gn, (arI G 30 f_g)), (a_b, (oc6 5 24 a_bn e_b)), (a_bn, (arI G 120 f_b)), (a_p, (oc6 8 5 a_pn e_p)), (a_pn, (arI G 40 f_p)), (a_bb, (arJ G 24 f_bb)), (a_j, (oc2 a_as a_sk)), (a_as, (arI G 8 z19)), (a_sk, (arJ G 50 z20)), (a_l, (arW G 6 f_l)), (a_pt, (arI G 200 z18))] hP hD (fun hP hD => ?_)
    refine lv_iload_n hx hb dX5_lateness_21 rfl (lv_at hl 4 rfl) ?_
    refine lv_aload_n hx hb dX5_lateness_22 rfl (lv_at hl 2 rfl) ?_
    refine va_get (D := G.1) (ci := 5) (v := .int z10) (C := RX5) (T := TX5) (N := 13) hx hb hts inG_X5 hown hK hP 0 rfl rfl 5 (by decide) (hts _ fl_X5_42) (fun _ h9 => h9) rfl dX5_lateness_23 ?_
    refine lv_isub hx hb dX5_lateness_26 ?_
    refine lv_istore (lv' := [(6, .int (p_h - z10)), (4, .int k_l), (5, .int k_d), (0, .ref a_k), (1, .int p_c), (2, .int p_h), (3, .int p_b)]) hx hb dX5_lateness_27 hl (by decide) rfl (fun ls hl => ?_)
    refine lv_aload_n hx hb dX5_lateness_29 rfl (lv_at hl 3 rfl) ?_
    refine va_get (D := G.1) (ci := 5) (v := .int z9) (C := RX5) (T := TX5) (N := 13) hx hb hts inG_X5 hown hK hP 0 rfl rfl 4 (by decide) (hts _ fl_X5_39) (fun _ h9 => h9) rfl dX5_lateness_30 ?_
    refine lv_iload_n hx hb dX5_lateness_33 rfl (lv_at hl 6 rfl) ?_
    refine lv_icmp_ne (tgt := 54) hx hb dX5_lateness_34 (by decide) (fun c_21 => ?_) (fun c_21 => ?_)
    ·
      have n_21 : gNe (z9.toInt) (p_b.toInt) := by have z := g5_ne (a := z9.toInt) (b := p_b.toInt) (by rfl) (by rfl) c_21; unfold gNe; omega
      refine lv_iinc (v := (k_d + 1)) (lv' := [(5, .int (k_d + 1)), (6, .int (p_h - z10)), (4, .int k_l), (0, .ref a_k), (1, .int p_c), (2, .int p_h), (3, .int p_b)]) hx hb dX5_lateness_54 hl (k := 2) rfl rfl (by decide) rfl (fun ls hl => ?_)
      have t_22 : (k_d + 1).toInt = k_d.toInt + 1 := g5_iadd (a := k_d.toInt) (b := 1) rfl (by decide) (by omega) (by omega)
      refine lv_goto (tgt := 6) hx hb dX5_lateness_57 (by decide) ?_
      exact ih_6_3 ((k_d + 1), k_l, z9, z10, z11, z12, z13, z14, z15, z16, z17, z18, z19, z20, z8) ls H locs (show Int.toNat (4 - (k_d + 1).toInt) < Int.toNat (4 - k_d.toInt) from g_up (show k_d.toInt < (k_d + 1).toInt by omega) (show k_d.toInt < 4 by omega)) ⟨lv_sub hl [2, 0, 3, 4, 5, 6] rfl, hP, hD, hS, ⟨by omega, by omega⟩, i_6⟩
    ·
      have i_21 : z9.toInt = p_b.toInt := by have z := g5_neN (a := z9.toInt) (b := p_b.toInt) (by rfl) (by rfl) c_21; omega
      refine lv_iload hx hb dX5_lateness_37 (lv_at hl 1 rfl) ?_
      refine lv_iconst (v := (-1)) hx hb dX5_lateness_39 (by decide) ?_
      refine lv_icmp_eq (tgt := 50) hx hb dX5_lateness_40 (by decide) (fun c_23 => ?_) (fun c_23 => ?_)
      ·
        have i_23 : k_l.toInt = (-1) := by have z := g5_eq (a := k_l.toInt) (b := (-1)) (by rfl) (by decide) c_23; omega
        refine lv_iload hx hb dX5_lateness_50 (lv_at hl 0 rfl) ?_
        refine lv_istore (lv' := [(4, .int (p_h - z10)), (6, .int (p_h - z10)), (5, .int k_d), (0, .ref a_k), (1, .int p_c), (2, .int p_h), (3, .int p_b)]) hx hb dX5_lateness_52 hl (by decide) rfl (fun ls hl => ?_)
        refine lv_iinc (v := (k_d + 1)) (lv' := [(5, .int (k_d + 1)), (4, .int (p_h - z10)), (6, .int (p_h - z10)), (0, .ref a_k), (1, .int p_c), (2, .int p_h), (3, .int p_b)]) hx hb dX5_lateness_54 hl (k := 2) rfl rfl (by decide) rfl (fun ls hl => ?_)
        have t_24 : (k_d + 1).toInt = k_d.toInt + 1 := g5_iadd (a := k_d.toInt) (b := 1) rfl (by decide) (by omega) (by omega)
        refine lv_goto (tgt := 6) hx hb dX5_lateness_57 (by decide) ?_
        exact ih_6_3 ((k_d + 1), (p_h - z10), z9, z10, z11, z12, z13, z14, z15, z16, z17, z18, z19, z20, z8) ls H locs (show Int.toNat (4 - (k_d + 1).toInt) < Int.toNat (4 - k_d.toInt) from g_up (show k_d.toInt < (k_d + 1).toInt by omega) (show k_d.toInt < 4 by omega)) ⟨lv_sub hl [1, 0, 3, 4, 5, 6] rfl, hP, hD, hS, ⟨by omega, by omega⟩, i_6⟩
      ·
        have n_23 : gNe (k_l.toInt) ((-1)) := by have z := g5_eqN (a := k_l.toInt) (b := (-1)) (by rfl) (by decide) c_23; unfold gNe; omega
        refine lv_iload hx hb dX5_lateness_43 (lv_at hl 0 rfl) ?_
        refine lv_iload hx hb dX5_lateness_45 (lv_at hl 1 rfl) ?_
        refine lv_icmp_ge (tgt := 54) hx hb dX5_lateness_47 (by decide) (fun c_25 => ?_) (fun c_25 => ?_)
        ·
          have i_25 : (p_h - z10).toInt ≥ k_l.toInt := by have z := g5_ge (a := (p_h - z10).toInt) (b := k_l.toInt) (by rfl) (by rfl) c_25; omega
          refine lv_iinc (v := (k_d + 1)) (lv' := [(5, .int (k_d + 1)), (6, .int (p_h - z10)), (4, .int k_l), (0, .ref a_k), (1, .int p_c), (2, .int p_h), (3, .int p_b)]) hx hb dX5_lateness_54 hl (k := 2) rfl rfl (by decide) rfl (fun ls hl => ?_)
          have t_26 : (k_d + 1).toInt = k_d.toInt + 1 := g5_iadd (a := k_d.toInt) (b := 1) rfl (by decide) (by omega) (by omega)
          refine lv_goto (tgt := 6) hx hb dX5_lateness_57 (by decide) ?_
          exact ih_6_3 ((k_d + 1), k_l, z9, z10, z11, z12, z13, z14, z15, z16, z17, z18, z19, z20, z8) ls H locs (show Int.toNat (4 - (k_d + 1).toInt) < Int.toNat (4 - k_d.toInt) from g_up (show k_d.toInt < (k_d + 1).toInt by omega) (show k_d.toInt < 4 by omega)) ⟨lv_sub hl [2, 0, 3, 4, 5, 6] rfl, hP, hD, hS, ⟨by omega, by omega⟩, i_6⟩
        ·
          have i_25 : (p_h - z10).toInt < k_l.toInt := by have z := g5_geN (a := (p_h - z10).toInt) (b := k_l.toInt) (by rfl) (by rfl) c_25; omega
          refine lv_iload hx hb dX5_lateness_50 (lv_at hl 0 rfl) ?_
          refine lv_istore (lv' := [(4, .int (p_h - z10)), (6, .int (p_h - z10)), (5, .int k_d), (0, .ref a_k), (1, .int p_c), (2, .int p_h), (3, .int p_b)]) hx hb dX5_lateness_52 hl (by decide) rfl (fun ls hl => ?_)
          refine lv_iinc (v := (k_d + 1)) (lv' := [(5, .int (k_d + 1)), (4, .int (p_h - z10)), (6, .int (p_h - z10)), (0, .ref a_k), (1, .int p_c), (2, .int p_h), (3, .int p_b)]) hx hb dX5_lateness_54 hl (k := 2) rfl rfl (by decide) rfl (fun ls hl => ?_)
          have t_27 : (k_d + 1).toInt = k_d.toInt + 1 := g5_iadd (a := k_d.toInt) (b := 1) rfl (by decide) (by omega) (by omega)
          refine lv_goto (tgt := 6) hx hb dX5_lateness_57 (by decide) ?_
          exact ih_6_3 ((k_d + 1), (p_h - z10), z9, z10, z11, z12, z13, z14, z15, z16, z17, z18, z19, z20, z8) ls H locs (show Int.toNat (4 - (k_d + 1).toInt) < Int.toNat (4 - k_d.toInt) from g_up (show k_d.toInt < (k_d + 1).toInt by omega) (show k_d.toInt < 4 by omega)) ⟨lv_sub hl [1, 0, 3, 4, 5, 6] rfl, hP, hD, hS, ⟨by omega, by omega⟩, i_6⟩
set_option maxHeartbeats 4000000 in
set_option maxRecDepth 100000 in
theorem s_bodiesFromL (l : Launch) (G : g5_G) (a_k a_h a_g a_gn a_b a_bn a_p a_pn a_bb a_j a_as a_sk a_l a_lo a_sr a_cd a_hd a_pt a_s a_w : Nat) (sz : Nat) (e_le : Int32) (e_st : Int32) (e_fo : Int32) (e_lc : Int32) (e_g : Int32) (e_b : Int32) (e_p : Int32) (e_cl : Int32) (e_ln : Int32) (e_se : Int32) (e_lh : Int32) (e_br : Int32) (e_we : Int32) (e_me : Int32) (e_ce : Int32) (e_wy : Int32) (e_ho : Int32) (e_ov : Int32) (p_c : Int32) (p_h : Int32) (e_wa : Int64) (e_gb : Int64) (f_g : Nat → Int32) (f_b : Nat → Int32) (f_p : Nat → Int32) (f_bb : Nat → Int64) (f_as : Nat → Int32) (f_sk : Nat → Int64) (f_l : Nat → Option Nat) (f_sr : Nat → Int32) (f_cd : Nat → Int32) (f_hd : Nat → Int32) (f_pt : Nat → Int32) (n_sr : Nat) (n_cd : Nat) (n_hd : Nat) (h_e_g : 0 ≤ e_g.toInt ∧ e_g.toInt ≤ 6) (h_e_b : 0 ≤ e_b.toInt ∧ e_b.toInt ≤ 5) (h_e_p : 0 ≤ e_p.toInt ∧ e_p.toInt ≤ 8) (h_e_cl : 0 ≤ e_cl.toInt ∧ e_cl.toInt ≤ 12) (h_e_ov : 0 ≤ e_ov.toInt ∧ e_ov.toInt ≤ 1) (e_gk : gOK f_g e_g.toInt) (e_pk : gOK f_p e_p.toInt) (e_gi : inT e_gb f_g e_g.toInt) (e_f : 0 ≤ e_fo.toInt ∧ e_fo.toInt < e_lc.toInt ∧ e_lc.toInt ≤ 6) (e_a : f_l e_fo.toNatClampNeg = some a_lo) (e_hn : n_cd ≤ 400) (e_hs : ∀ j : Nat, j < n_sr → 0 ≤ (f_sr j).toInt ∧ (f_sr j).toInt ≤ (n_cd : Int)) (e_hk : ∀ j : Nat, j < n_cd → (f_cd j >>> (12 &&& 31)).toInt = 1 → (f_cd j &&& 4095).toInt < 8) (e_c : (e_cl.toInt : Int) ≤ (n_hd : Int) ∧ (e_cl.toInt + 1 : Int) ≤ (n_sr : Int)) : Met l yX5_bodiesFrom (wsG yX5_bodiesFrom cX5_bodiesFrom 5 (some .int)) ({ frames := 14, cells := 0, slots := 0, locals := 556 }) (va_Pc [.ref a_k, .int p_c, .int p_h] (g5_P G [(a_k, (oc5 a_h a_j a_pt e_ln e_se e_lh e_br e_we e_me e_ce e_wy e_ho e_ov)), (a_h, (oc1 e_wa e_le e_st e_fo e_lc a_l a_g a_b a_s a_p a_w e_gb a_bb)), (a_g, (oc6 6 5 a_gn e_g)), (a_gn, (arI G 30 f_g)), (a_b, (oc6 5 24 a_bn e_b)), (a_bn, (arI G 120 f_b)), (a_p, (oc6 8 5 a_pn e_p)), (a_pn, (arI G 40 f_p)), (a_bb, (arJ G 24 f_bb)), (a_j, (oc2 a_as a_sk)), (a_as, (arI G 8 f_as)), (a_sk, (arJ G 50 f_sk)), (a_l, (arW G 6 f_l)), (a_lo, (oc3 e_cl a_hd a_sr a_cd)), (a_sr, (arI G n_sr f_sr)), (a_cd, (arI G n_cd f_cd)), (a_hd, (arI G n_hd f_hd)), (a_pt, (arI G 200 f_pt))] sz)) (va_Qi (fun (r : Int32) (u : va_W) => (∃ (o_r : Int32) (o_ln : Int32) (o_se : Int32) (o_lh : Int32) (o_br : Int32) (o_we : Int32) (o_me : Int32) (o_ce : Int32) (o_wy : Int32) (o_ho : Int32) (o_ov : Int32) (o_pt : Nat → Int32) (o_as : Nat → Int32) (o_sk : Nat → Int64), (0 ≤ o_ov.toInt ∧ o_ov.toInt ≤ 1) ∧ (r = o_r) ∧ (u = [(a_k, (oc5 a_h a_j a_pt o_ln o_se o_lh o_br o_we o_me o_ce o_wy o_ho o_ov)), (a_h, (oc1 e_wa e_le e_st e_fo e_lc a_l a_g a_b a_s a_p a_w e_gb a_bb)), (a_g, (oc6 6 5 a_gn e_g)), (a_gn, (arI G 30 f_g)), (a_b, (oc6 5 24 a_bn e_b)), (a_bn, (arI G 120 f_b)), (a_p, (oc6 8 5 a_pn e_p)), (a_pn, (arI G 40 f_p)), (a_bb, (arJ G 24 f_bb)), (a_j, (oc2 a_as a_sk)), (a_as, (arI G 8 o_as)), (a_sk, (arJ G 50 o_sk)), (a_l, (arW G 6 f_l)), (a_lo, (oc3 e_cl a_hd a_sr a_cd)), (a_sr, (arI G n_sr f_sr)), (a_cd, (arI G n_cd f_cd)), (a_hd, (arI G n_hd f_hd)), (a_pt, (arI G 200 o_pt))]))) (g5_B G (va_A [(a_k, (oc5 a_h a_j a_pt e_ln e_se e_lh e_br e_we e_me e_ce e_wy e_ho e_ov)), (a_h, (oc1 e_wa e_le e_st e_fo e_lc a_l a_g a_b a_s a_p a_w e_gb a_bb)), (a_g, (oc6 6 5 a_gn e_g)), (a_gn, (arI G 30 f_g)), (a_b, (oc6 5 24 a_bn e_b)), (a_bn, (arI G 120 f_b)), (a_p, (oc6 8 5 a_pn e_p)), (a_pn, (arI G 40 f_p)), (a_bb, (arJ G 24 f_bb)), (a_j, (oc2 a_as a_sk)), (a_as, (arI G 8 f_as)), (a_sk, (arJ G 50 f_sk)), (a_l, (arW G 6 f_l)), (a_lo, (oc3 e_cl a_hd a_sr a_cd)), (a_sr, (arI G n_sr f_sr)), (a_cd, (arI G n_cd f_cd)), (a_hd, (arI G n_hd f_hd)), (a_pt, (arI G 200 f_pt))] sz)) (va_A [(a_k, (oc5 a_h a_j a_pt e_ln e_se e_lh e_br e_we e_me e_ce e_wy e_ho e_ov)), (a_h, (oc1 e_wa e_le e_st e_fo e_lc a_l a_g a_b a_s a_p a_w e_gb a_bb)), (a_g, (oc6 6 5 a_gn e_g)), (a_gn, (arI G 30 f_g)), (a_b, (oc6 5 24 a_bn e_b)), (a_bn, (arI G 120 f_b)), (a_p, (oc6 8 5 a_pn e_p)), (a_pn, (arI G 40 f_p)), (a_bb, (arJ G 24 f_bb)), (a_j, (oc2 a_as a_sk)), (a_as, (arI G 8 f_as)), (a_sk, (arJ G 50 f_sk)), (a_l, (arW G 6 f_l)), (a_lo, (oc3 e_cl a_hd a_sr a_cd)), (a_sr, (arI G n_sr f_sr)), (a_cd, (arI G n_cd f_cd)), (a_hd, (arI G n_hd f_hd)), (a_pt, (arI G 200 f_pt))] sz)) 0 0 (va_A [(a_k, (oc5 a_h a_j a_pt e_ln e_se e_lh e_br e_we e_me e_ce e_wy e_ho e_ov)), (a_h, (oc1 e_wa e_le e_st e_fo e_lc a_l a_g a_b a_s a_p a_w e_gb a_bb)), (a_g, (oc6 6 5 a_gn e_g)), (a_gn, (arI G 30 f_g)), (a_b, (oc6 5 24 a_bn e_b)), (a_bn, (arI G 120 f_b)), (a_p, (oc6 8 5 a_pn e_p)), (a_pn, (arI G 40 f_p)), (a_bb, (arJ G 24 f_bb)), (a_j, (oc2 a_as a_sk)), (a_as, (arI G 8 f_as)), (a_sk, (arJ G 50 f_sk)), (a_l, (arW G 6 f_l)), (a_lo, (oc3 e_cl a_hd a_sr a_cd)), (a_sr, (arI G n_sr f_sr)), (a_cd, (arI G n_cd f_cd)), (a_hd, (arI G n_hd f_hd)), (a_pt, (arI G 200 f_pt))] sz) := by
  refine Met.ofW (cc := cX5_bodiesFrom) (maxL := 5) (ret := (some .int)) (by decide) rfl ?_
  intro p e s m args below meth c s₁ B hml hv
  obtain ⟨rfl, hsz, hP, hK, hD0, hN, hT⟩ := hv
  have hx := B.exec
  have hb := B.bytes
  have hr := B.returns
  have hts : ∀ w ∈ tblG, w.before _ s = true := fun w h => atoms_spec (ws := (wsG yX5_bodiesFrom cX5_bodiesFrom 5 (some .int))) B.pre w (List.mem_cons_of_mem _ h)
  have hown : s.vm.findClass RX5 = some m.cls := findClass_of_methodNamed B.named
  have hlocks := B.notSynchronized
  subst hsz
  have hD := hD0.self (sz := s.heap.size)
  generalize hAe : va_A [(a_k, (oc5 a_h a_j a_pt e_ln e_se e_lh e_br e_we e_me e_ce e_wy e_ho e_ov)), (a_h, (oc1 e_wa e_le e_st e_fo e_lc a_l a_g a_b a_s a_p a_w e_gb a_bb)), (a_g, (oc6 6 5 a_gn e_g)), (a_gn, (arI G 30 f_g)), (a_b, (oc6 5 24 a_bn e_b)), (a_bn, (arI G 120 f_b)), (a_p, (oc6 8 5 a_pn e_p)), (a_pn, (arI G 40 f_p)), (a_bb, (arJ G 24 f_bb)), (a_j, (oc2 a_as a_sk)), (a_as, (arI G 8 f_as)), (a_sk, (arJ G 50 f_sk)), (a_l, (arW G 6 f_l)), (a_lo, (oc3 e_cl a_hd a_sr a_cd)), (a_sr, (arI G n_sr f_sr)), (a_cd, (arI G n_cd f_cd)), (a_hd, (arI G n_hd f_hd)), (a_pt, (arI G 200 f_pt))] s.heap.size = A at hD hT ⊢
  have hA : ∀ q : Nat, s.heap.size ≤ q → A q := fun q h => by rw [← hAe]; exact Or.inr h
  have hS : va_S A s.heap s.heap [] := va_S.rf
  have hP : va_P G.1 vwCl [(a_k, (oc5 a_h a_j a_pt e_ln e_se e_lh e_br e_we e_me e_ce e_wy e_ho e_ov)), (a_h, (oc1 e_wa e_le e_st e_fo e_lc a_l a_g a_b a_s a_p a_w e_gb a_bb)), (a_g, (oc6 6 5 a_gn e_g)), (a_gn, (arI G 30 f_g)), (a_b, (oc6 5 24 a_bn e_b)), (a_bn, (arI G 120 f_b)), (a_p, (oc6 8 5 a_pn e_p)), (a_pn, (arI G 40 f_p)), (a_bb, (arJ G 24 f_bb)), (a_j, (oc2 a_as a_sk)), (a_as, (arI G 8 f_as)), (a_sk, (arJ G 50 f_sk)), (a_l, (arW G 6 f_l)), (a_lo, (oc3 e_cl a_hd a_sr a_cd)), (a_sr, (arI G n_sr f_sr)), (a_cd, (arI G n_cd f_cd)), (a_hd, (arI G n_hd f_hd)), (a_pt, (arI G 200 f_pt))] s.heap := hP
  have hl := lv_entry ([.ref a_k, .int p_c, .int p_h]) (n := 5) (Nat.le_of_ble_eq_true rfl)
  rw [lg_entry_eq]
  generalize (lg_sl ([.ref a_k, .int p_c, .int p_h]) ++ List.replicate (5 - (lg_sl ([.ref a_k, .int p_c, .int p_h])).length) Slot.unset).toArray = ls at hl ⊢
  have hl : lv_has ls 5 [(0, .ref a_k), (1, .int p_c), (2, .int p_h)] := hl
  refine lv_iconst (v := 0) hx hb dX5_bodiesFrom_0 (by decide) ?_
  refine lv_istore_n (lv' := [(3, .int 0), (0, .ref a_k), (1, .int p_c), (2, .int p_h)]) hx hb dX5_bodiesFrom_1 rfl hl (by decide) rfl (fun ls hl => ?_)
  refine lv_iconst (v := 0) hx hb dX5_bodiesFrom_2 (by decide) ?_
  refine lv_istore (lv' := [(4, .int 0), (3, .int 0), (0, .ref a_k), (1, .int p_c), (2, .int p_h)]) hx hb dX5_bodiesFrom_3 hl (by decide) rfl (fun ls hl => ?_)
  refine g5_loop (α := (Int32) × (Int32) × (Int32) × (Int32) × (Int32) × (Int32) × (Int32) × (Int32) × (Int32) × (Int32) × (Int32) × (Nat → Int32) × (Nat → Int32) × (Nat → Int64) × (Int32)) (fun (q : (Int32) × (Int32) × (Int32) × (Int32) × (Int32) × (Int32) × (Int32) × (Int32) × (Int32) × (Int32) × (Int32) × (Nat → Int32) × (Nat → Int32) × (Nat → Int64) × (Int32)) (ls : Array Slot) (H : Heap) (locs : List Loc) => match q with | (k_d, k_b, k_se, k_lh, k_br, k_we, k_me, k_ce, k_wy, k_ho, k_ov, k_pt, k_as, k_sk, k_ln) => lv_has ls 5 [(3, .int k_b), (4, .int k_d), (0, .ref a_k), (1, .int p_c), (2, .int p_h)] ∧ va_P G.1 vwCl [(a_k, (oc5 a_h a_j a_pt k_ln k_se k_lh k_br k_we k_me k_ce k_wy k_ho k_ov)), (a_h, (oc1 e_wa e_le e_st e_fo e_lc a_l a_g a_b a_s a_p a_w e_gb a_bb)), (a_g, (oc6 6 5 a_gn e_g)), (a_gn, (arI G 30 f_g)), (a_b, (oc6 5 24 a_bn e_b)), (a_bn, (arI G 120 f_b)), (a_p, (oc6 8 5 a_pn e_p)), (a_pn, (arI G 40 f_p)), (a_bb, (arJ G 24 f_bb)), (a_j, (oc2 a_as a_sk)), (a_as, (arI G 8 k_as)), (a_sk, (arJ G 50 k_sk)), (a_l, (arW G 6 f_l)), (a_lo, (oc3 e_cl a_hd a_sr a_cd)), (a_sr, (arI G n_sr f_sr)), (a_cd, (arI G n_cd f_cd)), (a_hd, (arI G n_hd f_hd)), (a_pt, (arI G 200 k_pt))] H ∧ va_D A [(a_k, (oc5 a_h a_j a_pt k_ln k_se k_lh k_br k_we k_me k_ce k_wy k_ho k_ov)), (a_h, (oc1 e_wa e_le e_st e_fo e_lc a_l a_g a_b a_s a_p a_w e_gb a_bb)), (a_g, (oc6 6 5 a_gn e_g)), (a_gn, (arI G 30 f_g)), (a_b, (oc6 5 24 a_bn e_b)), (a_bn, (arI G 120 f_b)), (a_p, (oc6 8 5 a_pn e_p)), (a_pn, (arI G 40 f_p)), (a_bb, (arJ G 24 f_bb)), (a_j, (oc2 a_as a_sk)), (a_as, (arI G 8 k_as)), (a_sk, (arJ G 50 k_sk)), (a_l, (arW G 6 f_l)), (a_lo, (oc3 e_cl a_hd a_sr a_cd)), (a_sr, (arI G n_sr f_sr)), (a_cd, (arI G n_cd f_cd)), (a_hd, (arI G n_hd f_hd)), (a_pt, (arI G 200 k_pt))] ∧ va_S A s.heap H locs ∧ (0 ≤ k_d.toInt ∧ k_d.toInt ≤ 4) ∧ (0 ≤ k_ov.toInt ∧ k_ov.toInt ≤ 1)) (fun (q : (Int32) × (Int32) × (Int32) × (Int32) × (Int32) × (Int32) × (Int32) × (Int32) × (Int32) × (Int32) × (Int32) × (Nat → Int32) × (Nat → Int32) × (Nat → Int64) × (Int32)) => match q with | (k_d, k_b, k_se, k_lh, k_br, k_we, k_me, k_ce, k_wy, k_ho, k_ov, k_pt, k_as, k_sk, k_ln) => Int.toNat (4 - k_d.toInt)) (0, 0, e_se, e_lh, e_br, e_we, e_me, e_ce, e_wy, e_ho, e_ov, f_pt, f_as, f_sk, e_ln) ⟨lv_sub hl [1, 0, 2, 3, 4] rfl, hP, hD, hS, ⟨by decide, by decide⟩, h_e_ov⟩ ?_
  rintro ⟨k_d, k_b, k_se, k_lh, k_br, k_we, k_me, k_ce, k_wy, k_ho, k_ov, k_pt, k_as, k_sk, k_ln⟩ ls H locs ⟨hl, hP, hD, hS, i_1, i_2⟩ ih_5_3
  have hl : lv_has ls 5 [(3, .int k_b), (4, .int k_d), (0, .ref a_k), (1, .int p_c), (2, .int p_h)] := hl
  have i_1 : 0 ≤ k_d.toInt ∧ k_d.toInt ≤ 4 := i_1
  have i_2 : 0 ≤ k_ov.toInt ∧ k_ov.toInt ≤ 1 := i_2
  refine g5_rs [(a_k, (oc5 a_h a_j a_pt k_ln k_se k_lh k_br k_we k_me k_ce k_wy k_ho k_ov)), (a_h, (oc1 e_wa e_le e_st e_fo e_lc a_l a_g a_b a_s a_p a_w e_gb a_bb)), (a_g, (oc6 6 5 a_gn e_g)), (a_gn, (arI G 30 f_g)), (a_b, (oc6 5 24 a_bn e_b)), (a_bn, (arI G 120 f_b)), (a_p, (oc6 8 5 a_pn e_p)), (a_pn, (arI G 40 f_p)), (a_bb, (arJ G 24 f_bb)), (a_j, (oc2 a_as a_sk)), (a_as, (arI G 8 k_as)), (a_sk, (arJ G 50 k_sk)), (a_l, (arW G 6 f_l)), (a_lo, (oc3 e_cl a_hd a_sr a_cd)), (a_sr, (arI G n_sr f_sr)), (a_cd, (arI G n_cd f_cd)), (a_hd, (arI G n_hd f_hd)), (a_pt, (arI G 200 k_pt))] hP hD (fun hP hD => ?_)
  refine lv_iload hx hb dX5_bodiesFrom_5 (lv_at hl 1 rfl) ?_
  refine lv_iconst (v := 4) hx hb dX5_bodiesFrom_7 (by decide) ?_
  refine lv_icmp_ge (tgt := 47) hx hb dX5_bodiesFrom_8 (by decide) (fun c_4 => ?_) (fun c_4 => ?_)
  ·
    have i_4 : k_d.toInt ≥ 4 := by have z := g5_ge (a := k_d.toInt) (b := 4) (by rfl) (by decide) c_4; omega
    refine lv_iload_n hx hb dX5_bodiesFrom_47 rfl (lv_at hl 0 rfl) ?_
    exact W.iret (v := k_b) hx hb hr (fun t ht hW => ⟨⟨k_b, [(a_k, (oc5 a_h a_j a_pt k_ln k_se k_lh k_br k_we k_me k_ce k_wy k_ho k_ov)), (a_h, (oc1 e_wa e_le e_st e_fo e_lc a_l a_g a_b a_s a_p a_w e_gb a_bb)), (a_g, (oc6 6 5 a_gn e_g)), (a_gn, (arI G 30 f_g)), (a_b, (oc6 5 24 a_bn e_b)), (a_bn, (arI G 120 f_b)), (a_p, (oc6 8 5 a_pn e_p)), (a_pn, (arI G 40 f_p)), (a_bb, (arJ G 24 f_bb)), (a_j, (oc2 a_as a_sk)), (a_as, (arI G 8 k_as)), (a_sk, (arJ G 50 k_sk)), (a_l, (arW G 6 f_l)), (a_lo, (oc3 e_cl a_hd a_sr a_cd)), (a_sr, (arI G n_sr f_sr)), (a_cd, (arI G n_cd f_cd)), (a_hd, (arI G n_hd f_hd)), (a_pt, (arI G 200 k_pt))], rfl, ⟨k_b, k_ln, k_se, k_lh, k_br, k_we, k_me, k_ce, k_wy, k_ho, k_ov, k_pt, k_as, k_sk, i_2, rfl, rfl⟩, by rw [ht]; exact hP.sub [0, 1, 2, 3, 4, 5, 6, 7, 8, 9, 10, 11, 12, 13, 14, 15, 16, 17] rfl, hD.sub [0, 1, 2, 3, 4, 5, 6, 7, 8, 9, 10, 11, 12, 13, 14, 15, 16, 17] (by decide) rfl⟩, hS.F ht⟩) hS.2.2 dX5_bodiesFrom_48
  ·
    have i_4 : k_d.toInt < 4 := by have z := g5_geN (a := k_d.toInt) (b := 4) (by rfl) (by decide) c_4; omega
    refine lv_aload_n hx hb dX5_bodiesFrom_11 rfl (lv_at hl 2 rfl) ?_
    refine lv_iload_n hx hb dX5_bodiesFrom_12 rfl (lv_at hl 3 rfl) ?_
    refine lv_iload hx hb dX5_bodiesFrom_13 (lv_at hl 1 rfl) ?_
    refine lv_iload_n hx hb dX5_bodiesFrom_15 rfl (lv_at hl 4 rfl) ?_
    refine lv_iconst (v := 0) hx hb dX5_bodiesFrom_16 (by decide) ?_
    obtain ⟨hPc, hDc, hFc⟩ := g5_sub3 (wc := [(a_k, (oc5 a_h a_j a_pt k_ln k_se k_lh k_br k_we k_me k_ce k_wy k_ho k_ov)), (a_h, (oc1 e_wa e_le e_st e_fo e_lc a_l a_g a_b a_s a_p a_w e_gb a_bb)), (a_g, (oc6 6 5 a_gn e_g)), (a_gn, (arI G 30 f_g)), (a_b, (oc6 5 24 a_bn e_b)), (a_bn, (arI G 120 f_b)), (a_p, (oc6 8 5 a_pn e_p)), (a_pn, (arI G 40 f_p)), (a_bb, (arJ G 24 f_bb)), (a_j, (oc2 a_as a_sk)), (a_as, (arI G 8 k_as)), (a_sk, (arJ G 50 k_sk)), (a_l, (arW G 6 f_l)), (a_lo, (oc3 e_cl a_hd a_sr a_cd)), (a_sr, (arI G n_sr f_sr)), (a_cd, (arI G n_cd f_cd)), (a_hd, (arI G n_hd f_hd)), (a_pt, (arI G 200 k_pt))]) hP hD hS hA [0, 1, 2, 3, 4, 5, 6, 7, 8, 9, 10, 11, 12, 13, 14, 15, 16, 17] (by decide) rfl
    refine va_callv (va_runV (As := [.int p_c, .int k_d, .int p_h, .int 0]) (rest := []) ⟨hx, hb, hml, hown, hts⟩ (k_runL l G a_k a_h a_g a_gn a_b a_bn a_p a_pn a_bb a_j a_as a_sk a_l a_lo a_sr a_cd a_hd a_pt a_s a_w H.size e_le e_st e_fo e_lc e_g e_b e_p e_cl k_ln k_se k_lh k_br k_we k_me k_ce k_wy k_ho k_ov p_c k_d p_h 0 e_wa e_gb f_g f_b f_p f_bb k_as k_sk f_l f_sr f_cd f_hd k_pt n_sr n_cd n_hd h_e_g h_e_b h_e_p h_e_cl i_2 (e_gk) (e_pk) (e_gi) (e_f) (e_a) (e_hn) (e_hs) (e_hk) (e_c)) (cwV 4 hts gV_X5_91 rfl rfl rfl hv_X5_run ⟨Nat.le_of_ble_eq_true rfl, Nat.le_of_ble_eq_true rfl⟩) (g5_preV hPc hK hDc hN hT hS hFc (ci := 5) (q0 := 0) rfl rfl) rfl rfl hl.1 rfl (lv_room (Nat.le_of_ble_eq_true rfl)) dX5_bodiesFrom_17 ⟨Nat.le_of_ble_eq_true rfl, Nat.le_of_ble_eq_true rfl⟩) hS (fun q _ h => hFc q h) hFc (fun u t H1 locs ht hvm hw hB hz1 hk1 hS => ?_)
    obtain ⟨hP1, hD1⟩ := hB
    rw [ht] at hP1
    obtain ⟨z8, z9, z10, z11, z12, z13, z14, z15, z16, z17, z18, z19, z20, i_5, i_6, i_7, rfl⟩ := hw
    have i_5 : 0 ≤ z8.toInt ∧ z8.toInt ≤ 200 := i_5
    have i_6 : 0 ≤ z17.toInt ∧ z17.toInt ≤ 1 := i_6
    have i_7 : ∀ j : Nat, (j : Int) < z8.toInt → 0 ≤ (z18 j).toInt ∧ (z18 j).toInt ≤ 1535 := i_7
    obtain ⟨hP, hD⟩ := va_join (wr := []) hP hD [0, 1, 2, 3, 4, 5, 6, 7, 8, 9, 10, 11, 12, 13, 14, 15, 16, 17] [] rfl rfl (by decide) (by decide) hk1 hFc hP1 hD1
    generalize H1 = H at hP hS ⊢
    refine g5_rs [(a_k, (oc5 a_h a_j a_pt z8 z9 z10 z11 z12 z13 z14 z15 z16 z17)), (a_h, (oc1 e_wa e_le e_st e_fo e_lc a_l a_g a_b a_s a_p a_w e_gb a_bb)), (a_g, (oc6 6 5 a_gn e_g)), (a_gn, (arI G 30 f_g)), (a_b, (oc6 5 24 a_bn e_b)), (a_bn, (arI G 120 f_b)), (a_p, (oc6 8 5 a_pn e_p)), (a_pn, (arI G 40 f_p)), (a_bb, (arJ G 24 f_bb)), (a_j, (oc2 a_as a_sk)), (a_as, (arI G 8 z19)), (a_sk, (arJ G 50 z20)), (a_l, (arW G 6 f_l)), (a_lo, (oc3 e_cl a_hd a_sr a_cd)), (a_sr, (arI G n_sr f_sr)), (a_cd, (arI G n_cd f_cd)), (a_hd, (arI G n_hd f_hd)), (a_pt, (arI G 200 z18))] hP hD (fun hP hD => ?_)
    refine lv_iload_n hx hb dX5_bodiesFrom_20 rfl (lv_at hl 0 rfl) ?_
    refine lv_aload_n hx hb dX5_bodiesFrom_21 rfl (lv_at hl 2 rfl) ?_
    refine va_get (D := G.1) (ci := 5) (v := .int z9) (C := RX5) (T := TX5) (N := 13) hx hb hts inG_X5 hown hK hP 0 rfl rfl 4 (by decide) (hts _ fl_X5_39) (fun _ h9 => h9) rfl dX5_bodiesFrom_22 ?_
    refine lv_iconst (v := (-1)) hx hb dX5_bodiesFrom_25 (by decide) ?_
    refine lv_icmp_ne (tgt := 33) hx hb dX5_bodiesFrom_26 (by decide) (fun c_21 => ?_) (fun c_21 => ?_)
    ·
      have n_21 : gNe (z9.toInt) ((-1)) := by have z := g5_ne (a := z9.toInt) (b := (-1)) (by rfl) (by decide) c_21; unfold gNe; omega
      refine lv_iconst (v := 1) hx hb dX5_bodiesFrom_33 (by decide) ?_
      refine lv_aload_n hx hb dX5_bodiesFrom_34 rfl (lv_at hl 2 rfl) ?_
      refine va_get (D := G.1) (ci := 5) (v := .int z9) (C := RX5) (T := TX5) (N := 13) hx hb hts inG_X5 hown hK hP 0 rfl rfl 4 (by decide) (hts _ fl_X5_39) (fun _ h9 => h9) rfl dX5_bodiesFrom_35 ?_
      refine lv_ishl hx hb dX5_bodiesFrom_38 ?_
      refine lv_ior hx hb dX5_bodiesFrom_39 ?_
      refine lv_istore_n (lv' := [(3, .int (k_b ||| (1 <<< (z9 &&& 31)))), (4, .int k_d), (0, .ref a_k), (1, .int p_c), (2, .int p_h)]) hx hb dX5_bodiesFrom_40 rfl hl (by decide) rfl (fun ls hl => ?_)
      refine lv_iinc (v := (k_d + 1)) (lv' := [(4, .int (k_d + 1)), (3, .int (k_b ||| (1 <<< (z9 &&& 31)))), (0, .ref a_k), (1, .int p_c), (2, .int p_h)]) hx hb dX5_bodiesFrom_41 hl (k := 1) rfl rfl (by decide) rfl (fun ls hl => ?_)
      have t_22 : (k_d + 1).toInt = k_d.toInt + 1 := g5_iadd (a := k_d.toInt) (b := 1) rfl (by decide) (by omega) (by omega)
      refine lv_goto (tgt := 5) hx hb dX5_bodiesFrom_44 (by decide) ?_
      exact ih_5_3 ((k_d + 1), (k_b ||| (1 <<< (z9 &&& 31))), z9, z10, z11, z12, z13, z14, z15, z16, z17, z18, z19, z20, z8) ls H locs (show Int.toNat (4 - (k_d + 1).toInt) < Int.toNat (4 - k_d.toInt) from g_up (show k_d.toInt < (k_d + 1).toInt by omega) (show k_d.toInt < 4 by omega)) ⟨lv_sub hl [1, 0, 2, 3, 4] rfl, hP, hD, hS, ⟨by omega, by omega⟩, i_6⟩
    ·
      have i_21 : z9.toInt = (-1) := by have z := g5_neN (a := z9.toInt) (b := (-1)) (by rfl) (by decide) c_21; omega
      refine lv_iconst (v := 0) hx hb dX5_bodiesFrom_29 (by decide) ?_
      refine lv_goto (tgt := 39) hx hb dX5_bodiesFrom_30 (by decide) ?_
      refine lv_ior hx hb dX5_bodiesFrom_39 ?_
      refine g5_ti (v := k_b) (by simp) ?_
      refine lv_istore_n (lv' := [(3, .int k_b), (4, .int k_d), (0, .ref a_k), (1, .int p_c), (2, .int p_h)]) hx hb dX5_bodiesFrom_40 rfl hl (by decide) rfl (fun ls hl => ?_)
      refine lv_iinc (v := (k_d + 1)) (lv' := [(4, .int (k_d + 1)), (3, .int k_b), (0, .ref a_k), (1, .int p_c), (2, .int p_h)]) hx hb dX5_bodiesFrom_41 hl (k := 1) rfl rfl (by decide) rfl (fun ls hl => ?_)
      have t_23 : (k_d + 1).toInt = k_d.toInt + 1 := g5_iadd (a := k_d.toInt) (b := 1) rfl (by decide) (by omega) (by omega)
      refine lv_goto (tgt := 5) hx hb dX5_bodiesFrom_44 (by decide) ?_
      exact ih_5_3 ((k_d + 1), k_b, z9, z10, z11, z12, z13, z14, z15, z16, z17, z18, z19, z20, z8) ls H locs (show Int.toNat (4 - (k_d + 1).toInt) < Int.toNat (4 - k_d.toInt) from g_up (show k_d.toInt < (k_d + 1).toInt by omega) (show k_d.toInt < 4 by omega)) ⟨lv_sub hl [1, 0, 2, 3, 4] rfl, hP, hD, hS, ⟨by omega, by omega⟩, i_6⟩
set_option maxHeartbeats 4000000 in
set_option maxRecDepth 100000 in
theorem s_findsBodyL (l : Launch) (G : g5_G) (a_k a_h a_g a_gn a_b a_bn a_p a_pn a_bb a_j a_as a_sk a_l a_lo a_sr a_cd a_hd a_pt a_s a_w : Nat) (sz : Nat) (e_le : Int32) (e_st : Int32) (e_fo : Int32) (e_lc : Int32) (e_g : Int32) (e_b : Int32) (e_p : Int32) (e_cl : Int32) (e_ln : Int32) (e_se : Int32) (e_lh : Int32) (e_br : Int32) (e_we : Int32) (e_me : Int32) (e_ce : Int32) (e_wy : Int32) (e_ho : Int32) (e_ov : Int32) (p_c : Int32) (p_h : Int32) (p_b : Int32) (e_wa : Int64) (e_gb : Int64) (f_g : Nat → Int32) (f_b : Nat → Int32) (f_p : Nat → Int32) (f_bb : Nat → Int64) (f_as : Nat → Int32) (f_sk : Nat → Int64) (f_l : Nat → Option Nat) (f_sr : Nat → Int32) (f_cd : Nat → Int32) (f_hd : Nat → Int32) (f_pt : Nat → Int32) (n_sr : Nat) (n_cd : Nat) (n_hd : Nat) (h_e_g : 0 ≤ e_g.toInt ∧ e_g.toInt ≤ 6) (h_e_b : 0 ≤ e_b.toInt ∧ e_b.toInt ≤ 5) (h_e_p : 0 ≤ e_p.toInt ∧ e_p.toInt ≤ 8) (h_e_cl : 0 ≤ e_cl.toInt ∧ e_cl.toInt ≤ 12) (h_e_ov : 0 ≤ e_ov.toInt ∧ e_ov.toInt ≤ 1) (e_gk : gOK f_g e_g.toInt) (e_pk : gOK f_p e_p.toInt) (e_gi : inT e_gb f_g e_g.toInt) (e_f : 0 ≤ e_fo.toInt ∧ e_fo.toInt < e_lc.toInt ∧ e_lc.toInt ≤ 6) (e_a : f_l e_fo.toNatClampNeg = some a_lo) (e_hn : n_cd ≤ 400) (e_hs : ∀ j : Nat, j < n_sr → 0 ≤ (f_sr j).toInt ∧ (f_sr j).toInt ≤ (n_cd : Int)) (e_hk : ∀ j : Nat, j < n_cd → (f_cd j >>> (12 &&& 31)).toInt = 1 → (f_cd j &&& 4095).toInt < 8) (e_c : (e_cl.toInt : Int) ≤ (n_hd : Int) ∧ (e_cl.toInt + 1 : Int) ≤ (n_sr : Int)) : Met l yX5_findsBody (wsG yX5_findsBody cX5_findsBody 5 (some .boolean)) ({ frames := 14, cells := 0, slots := 0, locals := 556 }) (va_Pc [.ref a_k, .int p_b, .int p_c, .int p_h] (g5_P G [(a_k, (oc5 a_h a_j a_pt e_ln e_se e_lh e_br e_we e_me e_ce e_wy e_ho e_ov)), (a_h, (oc1 e_wa e_le e_st e_fo e_lc a_l a_g a_b a_s a_p a_w e_gb a_bb)), (a_g, (oc6 6 5 a_gn e_g)), (a_gn, (arI G 30 f_g)), (a_b, (oc6 5 24 a_bn e_b)), (a_bn, (arI G 120 f_b)), (a_p, (oc6 8 5 a_pn e_p)), (a_pn, (arI G 40 f_p)), (a_bb, (arJ G 24 f_bb)), (a_j, (oc2 a_as a_sk)), (a_as, (arI G 8 f_as)), (a_sk, (arJ G 50 f_sk)), (a_l, (arW G 6 f_l)), (a_lo, (oc3 e_cl a_hd a_sr a_cd)), (a_sr, (arI G n_sr f_sr)), (a_cd, (arI G n_cd f_cd)), (a_hd, (arI G n_hd f_hd)), (a_pt, (arI G 200 f_pt))] sz)) (va_Qi (fun (r : Int32) (u : va_W) => (∃ (o_r : Int32) (o_ln : Int32) (o_se : Int32) (o_lh : Int32) (o_br : Int32) (o_we : Int32) (o_me : Int32) (o_ce : Int32) (o_wy : Int32) (o_ho : Int32) (o_ov : Int32) (o_pt : Nat → Int32) (o_as : Nat → Int32) (o_sk : Nat → Int64), (0 ≤ o_r.toInt ∧ o_r.toInt ≤ 1) ∧ (0 ≤ o_ov.toInt ∧ o_ov.toInt ≤ 1) ∧ (r = o_r) ∧ (u = [(a_k, (oc5 a_h a_j a_pt o_ln o_se o_lh o_br o_we o_me o_ce o_wy o_ho o_ov)), (a_h, (oc1 e_wa e_le e_st e_fo e_lc a_l a_g a_b a_s a_p a_w e_gb a_bb)), (a_g, (oc6 6 5 a_gn e_g)), (a_gn, (arI G 30 f_g)), (a_b, (oc6 5 24 a_bn e_b)), (a_bn, (arI G 120 f_b)), (a_p, (oc6 8 5 a_pn e_p)), (a_pn, (arI G 40 f_p)), (a_bb, (arJ G 24 f_bb)), (a_j, (oc2 a_as a_sk)), (a_as, (arI G 8 o_as)), (a_sk, (arJ G 50 o_sk)), (a_l, (arW G 6 f_l)), (a_lo, (oc3 e_cl a_hd a_sr a_cd)), (a_sr, (arI G n_sr f_sr)), (a_cd, (arI G n_cd f_cd)), (a_hd, (arI G n_hd f_hd)), (a_pt, (arI G 200 o_pt))]))) (g5_B G (va_A [(a_k, (oc5 a_h a_j a_pt e_ln e_se e_lh e_br e_we e_me e_ce e_wy e_ho e_ov)), (a_h, (oc1 e_wa e_le e_st e_fo e_lc a_l a_g a_b a_s a_p a_w e_gb a_bb)), (a_g, (oc6 6 5 a_gn e_g)), (a_gn, (arI G 30 f_g)), (a_b, (oc6 5 24 a_bn e_b)), (a_bn, (arI G 120 f_b)), (a_p, (oc6 8 5 a_pn e_p)), (a_pn, (arI G 40 f_p)), (a_bb, (arJ G 24 f_bb)), (a_j, (oc2 a_as a_sk)), (a_as, (arI G 8 f_as)), (a_sk, (arJ G 50 f_sk)), (a_l, (arW G 6 f_l)), (a_lo, (oc3 e_cl a_hd a_sr a_cd)), (a_sr, (arI G n_sr f_sr)), (a_cd, (arI G n_cd f_cd)), (a_hd, (arI G n_hd f_hd)), (a_pt, (arI G 200 f_pt))] sz)) (va_A [(a_k, (oc5 a_h a_j a_pt e_ln e_se e_lh e_br e_we e_me e_ce e_wy e_ho e_ov)), (a_h, (oc1 e_wa e_le e_st e_fo e_lc a_l a_g a_b a_s a_p a_w e_gb a_bb)), (a_g, (oc6 6 5 a_gn e_g)), (a_gn, (arI G 30 f_g)), (a_b, (oc6 5 24 a_bn e_b)), (a_bn, (arI G 120 f_b)), (a_p, (oc6 8 5 a_pn e_p)), (a_pn, (arI G 40 f_p)), (a_bb, (arJ G 24 f_bb)), (a_j, (oc2 a_as a_sk)), (a_as, (arI G 8 f_as)), (a_sk, (arJ G 50 f_sk)), (a_l, (arW G 6 f_l)), (a_lo, (oc3 e_cl a_hd a_sr a_cd)), (a_sr, (arI G n_sr f_sr)), (a_cd, (arI G n_cd f_cd)), (a_hd, (arI G n_hd f_hd)), (a_pt, (arI G 200 f_pt))] sz)) 0 0 (va_A [(a_k, (oc5 a_h a_j a_pt e_ln e_se e_lh e_br e_we e_me e_ce e_wy e_ho e_ov)), (a_h, (oc1 e_wa e_le e_st e_fo e_lc a_l a_g a_b a_s a_p a_w e_gb a_bb)), (a_g, (oc6 6 5 a_gn e_g)), (a_gn, (arI G 30 f_g)), (a_b, (oc6 5 24 a_bn e_b)), (a_bn, (arI G 120 f_b)), (a_p, (oc6 8 5 a_pn e_p)), (a_pn, (arI G 40 f_p)), (a_bb, (arJ G 24 f_bb)), (a_j, (oc2 a_as a_sk)), (a_as, (arI G 8 f_as)), (a_sk, (arJ G 50 f_sk)), (a_l, (arW G 6 f_l)), (a_lo, (oc3 e_cl a_hd a_sr a_cd)), (a_sr, (arI G n_sr f_sr)), (a_cd, (arI G n_cd f_cd)), (a_hd, (arI G n_hd f_hd)), (a_pt, (arI G 200 f_pt))] sz) := by
  refine Met.ofW (cc := cX5_findsBody) (maxL := 5) (ret := (some .boolean)) (by decide) rfl ?_
  intro p e s m args below meth c s₁ B hml hv
  obtain ⟨rfl, hsz, hP, hK, hD0, hN, hT⟩ := hv
  have hx := B.exec
  have hb := B.bytes
  have hr := B.returns
  have hts : ∀ w ∈ tblG, w.before _ s = true := fun w h => atoms_spec (ws := (wsG yX5_findsBody cX5_findsBody 5 (some .boolean))) B.pre w (List.mem_cons_of_mem _ h)
  have hown : s.vm.findClass RX5 = some m.cls := findClass_of_methodNamed B.named
  have hlocks := B.notSynchronized
  subst hsz
  have hD := hD0.self (sz := s.heap.size)
  generalize hAe : va_A [(a_k, (oc5 a_h a_j a_pt e_ln e_se e_lh e_br e_we e_me e_ce e_wy e_ho e_ov)), (a_h, (oc1 e_wa e_le e_st e_fo e_lc a_l a_g a_b a_s a_p a_w e_gb a_bb)), (a_g, (oc6 6 5 a_gn e_g)), (a_gn, (arI G 30 f_g)), (a_b, (oc6 5 24 a_bn e_b)), (a_bn, (arI G 120 f_b)), (a_p, (oc6 8 5 a_pn e_p)), (a_pn, (arI G 40 f_p)), (a_bb, (arJ G 24 f_bb)), (a_j, (oc2 a_as a_sk)), (a_as, (arI G 8 f_as)), (a_sk, (arJ G 50 f_sk)), (a_l, (arW G 6 f_l)), (a_lo, (oc3 e_cl a_hd a_sr a_cd)), (a_sr, (arI G n_sr f_sr)), (a_cd, (arI G n_cd f_cd)), (a_hd, (arI G n_hd f_hd)), (a_pt, (arI G 200 f_pt))] s.heap.size = A at hD hT ⊢
  have hA : ∀ q : Nat, s.heap.size ≤ q → A q := fun q h => by rw [← hAe]; exact Or.inr h
  have hS : va_S A s.heap s.heap [] := va_S.rf
  have hP : va_P G.1 vwCl [(a_k, (oc5 a_h a_j a_pt e_ln e_se e_lh e_br e_we e_me e_ce e_wy e_ho e_ov)), (a_h, (oc1 e_wa e_le e_st e_fo e_lc a_l a_g a_b a_s a_p a_w e_gb a_bb)), (a_g, (oc6 6 5 a_gn e_g)), (a_gn, (arI G 30 f_g)), (a_b, (oc6 5 24 a_bn e_b)), (a_bn, (arI G 120 f_b)), (a_p, (oc6 8 5 a_pn e_p)), (a_pn, (arI G 40 f_p)), (a_bb, (arJ G 24 f_bb)), (a_j, (oc2 a_as a_sk)), (a_as, (arI G 8 f_as)), (a_sk, (arJ G 50 f_sk)), (a_l, (arW G 6 f_l)), (a_lo, (oc3 e_cl a_hd a_sr a_cd)), (a_sr, (arI G n_sr f_sr)), (a_cd, (arI G n_cd f_cd)), (a_hd, (arI G n_hd f_hd)), (a_pt, (arI G 200 f_pt))] s.heap := hP
  have hl := lv_entry ([.ref a_k, .int p_b, .int p_c, .int p_h]) (n := 5) (Nat.le_of_ble_eq_true rfl)
  rw [lg_entry_eq]
  generalize (lg_sl ([.ref a_k, .int p_b, .int p_c, .int p_h]) ++ List.replicate (5 - (lg_sl ([.ref a_k, .int p_b, .int p_c, .int p_h])).length) Slot.unset).toArray = ls at hl ⊢
  have hl : lv_has ls 5 [(0, .ref a_k), (1, .int p_b), (2, .int p_c), (3, .int p_h)] := hl
  refine lv_aload_n hx hb dX5_findsBody_0 rfl (lv_at hl 0 rfl) ?_
  refine lv_iconst (v := 0) hx hb dX5_findsBody_1 (by decide) ?_
  refine va_put (D := G.1) (ci := 5) (v := .int 0) (ty := .int) (C := RX5) (T := TX5) (N := 13) hx hb hts inG_X5 tyX5 tyX5_ok nmX5 hown hK hP hD hS 0 rfl rfl 8 (by decide) (hts _ fl_X5_95) (fun _ h9 => h9) rfl (by decide +kernel) rfl rfl (Nat.le_of_ble_eq_true rfl) dX5_findsBody_2 (fun H locs hP hD hS => ?_)
  refine g5_rs [(a_k, (oc5 a_h a_j a_pt e_ln e_se e_lh e_br e_we 0 e_ce e_wy e_ho e_ov)), (a_h, (oc1 e_wa e_le e_st e_fo e_lc a_l a_g a_b a_s a_p a_w e_gb a_bb)), (a_g, (oc6 6 5 a_gn e_g)), (a_gn, (arI G 30 f_g)), (a_b, (oc6 5 24 a_bn e_b)), (a_bn, (arI G 120 f_b)), (a_p, (oc6 8 5 a_pn e_p)), (a_pn, (arI G 40 f_p)), (a_bb, (arJ G 24 f_bb)), (a_j, (oc2 a_as a_sk)), (a_as, (arI G 8 f_as)), (a_sk, (arJ G 50 f_sk)), (a_l, (arW G 6 f_l)), (a_lo, (oc3 e_cl a_hd a_sr a_cd)), (a_sr, (arI G n_sr f_sr)), (a_cd, (arI G n_cd f_cd)), (a_hd, (arI G n_hd f_hd)), (a_pt, (arI G 200 f_pt))] hP hD (fun hP hD => ?_)
  refine lv_iconst (v := 0) hx hb dX5_findsBody_5 (by decide) ?_
  refine lv_istore (lv' := [(4, .int 0), (0, .ref a_k), (1, .int p_b), (2, .int p_c), (3, .int p_h)]) hx hb dX5_findsBody_6 hl (by decide) rfl (fun ls hl => ?_)
  refine g5_loop (α := (Int32) × (Int32) × (Int32) × (Int32) × (Int32) × (Int32) × (Int32) × (Int32) × (Int32) × (Int32) × (Nat → Int32) × (Nat → Int32) × (Nat → Int64) × (Int32)) (fun (q : (Int32) × (Int32) × (Int32) × (Int32) × (Int32) × (Int32) × (Int32) × (Int32) × (Int32) × (Int32) × (Nat → Int32) × (Nat → Int32) × (Nat → Int64) × (Int32)) (ls : Array Slot) (H : Heap) (locs : List Loc) => match q with | (k_d, k_se, k_lh, k_br, k_we, k_me, k_ce, k_wy, k_ho, k_ov, k_pt, k_as, k_sk, k_ln) => lv_has ls 5 [(4, .int k_d), (0, .ref a_k), (1, .int p_b), (2, .int p_c), (3, .int p_h)] ∧ va_P G.1 vwCl [(a_k, (oc5 a_h a_j a_pt k_ln k_se k_lh k_br k_we k_me k_ce k_wy k_ho k_ov)), (a_h, (oc1 e_wa e_le e_st e_fo e_lc a_l a_g a_b a_s a_p a_w e_gb a_bb)), (a_g, (oc6 6 5 a_gn e_g)), (a_gn, (arI G 30 f_g)), (a_b, (oc6 5 24 a_bn e_b)), (a_bn, (arI G 120 f_b)), (a_p, (oc6 8 5 a_pn e_p)), (a_pn, (arI G 40 f_p)), (a_bb, (arJ G 24 f_bb)), (a_j, (oc2 a_as a_sk)), (a_as, (arI G 8 k_as)), (a_sk, (arJ G 50 k_sk)), (a_l, (arW G 6 f_l)), (a_lo, (oc3 e_cl a_hd a_sr a_cd)), (a_sr, (arI G n_sr f_sr)), (a_cd, (arI G n_cd f_cd)), (a_hd, (arI G n_hd f_hd)), (a_pt, (arI G 200 k_pt))] H ∧ va_D A [(a_k, (oc5 a_h a_j a_pt k_ln k_se k_lh k_br k_we k_me k_ce k_wy k_ho k_ov)), (a_h, (oc1 e_wa e_le e_st e_fo e_lc a_l a_g a_b a_s a_p a_w e_gb a_bb)), (a_g, (oc6 6 5 a_gn e_g)), (a_gn, (arI G 30 f_g)), (a_b, (oc6 5 24 a_bn e_b)), (a_bn, (arI G 120 f_b)), (a_p, (oc6 8 5 a_pn e_p)), (a_pn, (arI G 40 f_p)), (a_bb, (arJ G 24 f_bb)), (a_j, (oc2 a_as a_sk)), (a_as, (arI G 8 k_as)), (a_sk, (arJ G 50 k_sk)), (a_l, (arW G 6 f_l)), (a_lo, (oc3 e_cl a_hd a_sr a_cd)), (a_sr, (arI G n_sr f_sr)), (a_cd, (arI G n_cd f_cd)), (a_hd, (arI G n_hd f_hd)), (a_pt, (arI G 200 k_pt))] ∧ va_S A s.heap H locs ∧ (0 ≤ k_d.toInt ∧ k_d.toInt ≤ 4) ∧ (0 ≤ k_ov.toInt ∧ k_ov.toInt ≤ 1)) (fun (q : (Int32) × (Int32) × (Int32) × (Int32) × (Int32) × (Int32) × (Int32) × (Int32) × (Int32) × (Int32) × (Nat → Int32) × (Nat → Int32) × (Nat → Int64) × (Int32)) => match q with | (k_d, k_se, k_lh, k_br, k_we, k_me, k_ce, k_wy, k_ho, k_ov, k_pt, k_as, k_sk, k_ln) => Int.toNat (4 - k_d.toInt)) (0, e_se, e_lh, e_br, e_we, 0, e_ce, e_wy, e_ho, e_ov, f_pt, f_as, f_sk, e_ln) ⟨lv_sub hl [0, 1, 2, 3, 4] rfl, hP, hD, hS, ⟨by decide, by decide⟩, h_e_ov⟩ ?_
  rintro ⟨k_d, k_se, k_lh, k_br, k_we, k_me, k_ce, k_wy, k_ho, k_ov, k_pt, k_as, k_sk, k_ln⟩ ls H locs ⟨hl, hP, hD, hS, i_1, i_2⟩ ih_8_3
  have hl : lv_has ls 5 [(4, .int k_d), (0, .ref a_k), (1, .int p_b), (2, .int p_c), (3, .int p_h)] := hl
  have i_1 : 0 ≤ k_d.toInt ∧ k_d.toInt ≤ 4 := i_1
  have i_2 : 0 ≤ k_ov.toInt ∧ k_ov.toInt ≤ 1 := i_2
  refine g5_rs [(a_k, (oc5 a_h a_j a_pt k_ln k_se k_lh k_br k_we k_me k_ce k_wy k_ho k_ov)), (a_h, (oc1 e_wa e_le e_st e_fo e_lc a_l a_g a_b a_s a_p a_w e_gb a_bb)), (a_g, (oc6 6 5 a_gn e_g)), (a_gn, (arI G 30 f_g)), (a_b, (oc6 5 24 a_bn e_b)), (a_bn, (arI G 120 f_b)), (a_p, (oc6 8 5 a_pn e_p)), (a_pn, (arI G 40 f_p)), (a_bb, (arJ G 24 f_bb)), (a_j, (oc2 a_as a_sk)), (a_as, (arI G 8 k_as)), (a_sk, (arJ G 50 k_sk)), (a_l, (arW G 6 f_l)), (a_lo, (oc3 e_cl a_hd a_sr a_cd)), (a_sr, (arI G n_sr f_sr)), (a_cd, (arI G n_cd f_cd)), (a_hd, (arI G n_hd f_hd)), (a_pt, (arI G 200 k_pt))] hP hD (fun hP hD => ?_)
  refine lv_iload hx hb dX5_findsBody_8 (lv_at hl 0 rfl) ?_
  refine lv_iconst (v := 4) hx hb dX5_findsBody_10 (by decide) ?_
  refine lv_icmp_ge (tgt := 39) hx hb dX5_findsBody_11 (by decide) (fun c_4 => ?_) (fun c_4 => ?_)
  ·
    have i_4 : k_d.toInt ≥ 4 := by have z := g5_ge (a := k_d.toInt) (b := 4) (by rfl) (by decide) c_4; omega
    refine lv_iconst (v := 0) hx hb dX5_findsBody_39 (by decide) ?_
    exact W.zret (v := 0) hx hb hr rfl (fun t ht hW => ⟨⟨0, [(a_k, (oc5 a_h a_j a_pt k_ln k_se k_lh k_br k_we k_me k_ce k_wy k_ho k_ov)), (a_h, (oc1 e_wa e_le e_st e_fo e_lc a_l a_g a_b a_s a_p a_w e_gb a_bb)), (a_g, (oc6 6 5 a_gn e_g)), (a_gn, (arI G 30 f_g)), (a_b, (oc6 5 24 a_bn e_b)), (a_bn, (arI G 120 f_b)), (a_p, (oc6 8 5 a_pn e_p)), (a_pn, (arI G 40 f_p)), (a_bb, (arJ G 24 f_bb)), (a_j, (oc2 a_as a_sk)), (a_as, (arI G 8 k_as)), (a_sk, (arJ G 50 k_sk)), (a_l, (arW G 6 f_l)), (a_lo, (oc3 e_cl a_hd a_sr a_cd)), (a_sr, (arI G n_sr f_sr)), (a_cd, (arI G n_cd f_cd)), (a_hd, (arI G n_hd f_hd)), (a_pt, (arI G 200 k_pt))], rfl, ⟨0, k_ln, k_se, k_lh, k_br, k_we, k_me, k_ce, k_wy, k_ho, k_ov, k_pt, k_as, k_sk, ⟨by have zc_o_r : (0 : Int32).toInt = 0 := (by decide); omega, by have zc_o_r : (0 : Int32).toInt = 0 := (by decide); omega⟩, i_2, rfl, rfl⟩, by rw [ht]; exact hP.sub [0, 1, 2, 3, 4, 5, 6, 7, 8, 9, 10, 11, 12, 13, 14, 15, 16, 17] rfl, hD.sub [0, 1, 2, 3, 4, 5, 6, 7, 8, 9, 10, 11, 12, 13, 14, 15, 16, 17] (by decide) rfl⟩, hS.F ht⟩) hS.2.2 dX5_findsBody_40
  ·
    have i_4 : k_d.toInt < 4 := by have z := g5_geN (a := k_d.toInt) (b := 4) (by rfl) (by decide) c_4; omega
    refine lv_aload_n hx hb dX5_findsBody_14 rfl (lv_at hl 1 rfl) ?_
    refine lv_iload_n hx hb dX5_findsBody_15 rfl (lv_at hl 3 rfl) ?_
    refine lv_iload hx hb dX5_findsBody_16 (lv_at hl 0 rfl) ?_
    refine lv_iload_n hx hb dX5_findsBody_18 rfl (lv_at hl 4 rfl) ?_
    refine lv_iconst (v := 0) hx hb dX5_findsBody_19 (by decide) ?_
    obtain ⟨hPc, hDc, hFc⟩ := g5_sub3 (wc := [(a_k, (oc5 a_h a_j a_pt k_ln k_se k_lh k_br k_we k_me k_ce k_wy k_ho k_ov)), (a_h, (oc1 e_wa e_le e_st e_fo e_lc a_l a_g a_b a_s a_p a_w e_gb a_bb)), (a_g, (oc6 6 5 a_gn e_g)), (a_gn, (arI G 30 f_g)), (a_b, (oc6 5 24 a_bn e_b)), (a_bn, (arI G 120 f_b)), (a_p, (oc6 8 5 a_pn e_p)), (a_pn, (arI G 40 f_p)), (a_bb, (arJ G 24 f_bb)), (a_j, (oc2 a_as a_sk)), (a_as, (arI G 8 k_as)), (a_sk, (arJ G 50 k_sk)), (a_l, (arW G 6 f_l)), (a_lo, (oc3 e_cl a_hd a_sr a_cd)), (a_sr, (arI G n_sr f_sr)), (a_cd, (arI G n_cd f_cd)), (a_hd, (arI G n_hd f_hd)), (a_pt, (arI G 200 k_pt))]) hP hD hS hA [0, 1, 2, 3, 4, 5, 6, 7, 8, 9, 10, 11, 12, 13, 14, 15, 16, 17] (by decide) rfl
    refine va_callv (va_runV (As := [.int p_c, .int k_d, .int p_h, .int 0]) (rest := []) ⟨hx, hb, hml, hown, hts⟩ (k_runL l G a_k a_h a_g a_gn a_b a_bn a_p a_pn a_bb a_j a_as a_sk a_l a_lo a_sr a_cd a_hd a_pt a_s a_w H.size e_le e_st e_fo e_lc e_g e_b e_p e_cl k_ln k_se k_lh k_br k_we k_me k_ce k_wy k_ho k_ov p_c k_d p_h 0 e_wa e_gb f_g f_b f_p f_bb k_as k_sk f_l f_sr f_cd f_hd k_pt n_sr n_cd n_hd h_e_g h_e_b h_e_p h_e_cl i_2 (e_gk) (e_pk) (e_gi) (e_f) (e_a) (e_hn) (e_hs) (e_hk) (e_c)) (cwV 4 hts gV_X5_91 rfl rfl rfl hv_X5_run ⟨Nat.le_of_ble_eq_true rfl, Nat.le_of_ble_eq_true rfl⟩) (g5_preV hPc hK hDc hN hT hS hFc (ci := 5) (q0 := 0) rfl rfl) rfl rfl hl.1 rfl (lv_room (Nat.le_of_ble_eq_true rfl)) dX5_findsBody_20 ⟨Nat.le_of_ble_eq_true rfl, Nat.le_of_ble_eq_true rfl⟩) hS (fun q _ h => hFc q h) hFc (fun u t H1 locs ht hvm hw hB hz1 hk1 hS => ?_)
    obtain ⟨hP1, hD1⟩ := hB
    rw [ht] at hP1
    obtain ⟨z8, z9, z10, z11, z12, z13, z14, z15, z16, z17, z18, z19, z20, i_5, i_6, i_7, rfl⟩ := hw
    have i_5 : 0 ≤ z8.toInt ∧ z8.toInt ≤ 200 := i_5
    have i_6 : 0 ≤ z17.toInt ∧ z17.toInt ≤ 1 := i_6
    have i_7 : ∀ j : Nat, (j : Int) < z8.toInt → 0 ≤ (z18 j).toInt ∧ (z18 j).toInt ≤ 1535 := i_7
    obtain ⟨hP, hD⟩ := va_join (wr := []) hP hD [0, 1, 2, 3, 4, 5, 6, 7, 8, 9, 10, 11, 12, 13, 14, 15, 16, 17] [] rfl rfl (by decide) (by decide) hk1 hFc hP1 hD1
    generalize H1 = H at hP hS ⊢
    refine g5_rs [(a_k, (oc5 a_h a_j a_pt z8 z9 z10 z11 z12 z13 z14 z15 z16 z17)), (a_h, (oc1 e_wa e_le e_st e_fo e_lc a_l a_g a_b a_s a_p a_w e_gb a_bb)), (a_g, (oc6 6 5 a_gn e_g)), (a_gn, (arI G 30 f_g)), (a_b, (oc6 5 24 a_bn e_b)), (a_bn, (arI G 120 f_b)), (a_p, (oc6 8 5 a_pn e_p)), (a_pn, (arI G 40 f_p)), (a_bb, (arJ G 24 f_bb)), (a_j, (oc2 a_as a_sk)), (a_as, (arI G 8 z19)), (a_sk, (arJ G 50 z20)), (a_l, (arW G 6 f_l)), (a_lo, (oc3 e_cl a_hd a_sr a_cd)), (a_sr, (arI G n_sr f_sr)), (a_cd, (arI G n_cd f_cd)), (a_hd, (arI G n_hd f_hd)), (a_pt, (arI G 200 z18))] hP hD (fun hP hD => ?_)
    refine lv_aload_n hx hb dX5_findsBody_23 rfl (lv_at hl 1 rfl) ?_
    refine va_get (D := G.1) (ci := 5) (v := .int z9) (C := RX5) (T := TX5) (N := 13) hx hb hts inG_X5 hown hK hP 0 rfl rfl 4 (by decide) (hts _ fl_X5_39) (fun _ h9 => h9) rfl dX5_findsBody_24 ?_
    refine lv_iload_n hx hb dX5_findsBody_27 rfl (lv_at hl 2 rfl) ?_
    refine lv_icmp_ne (tgt := 33) hx hb dX5_findsBody_28 (by decide) (fun c_21 => ?_) (fun c_21 => ?_)
    ·
      have n_21 : gNe (z9.toInt) (p_b.toInt) := by have z := g5_ne (a := z9.toInt) (b := p_b.toInt) (by rfl) (by rfl) c_21; unfold gNe; omega
      refine lv_iinc (v := (k_d + 1)) (lv' := [(4, .int (k_d + 1)), (0, .ref a_k), (1, .int p_b), (2, .int p_c), (3, .int p_h)]) hx hb dX5_findsBody_33 hl (k := 0) rfl rfl (by decide) rfl (fun ls hl => ?_)
      have t_22 : (k_d + 1).toInt = k_d.toInt + 1 := g5_iadd (a := k_d.toInt) (b := 1) rfl (by decide) (by omega) (by omega)
      refine lv_goto (tgt := 8) hx hb dX5_findsBody_36 (by decide) ?_
      exact ih_8_3 ((k_d + 1), z9, z10, z11, z12, z13, z14, z15, z16, z17, z18, z19, z20, z8) ls H locs (show Int.toNat (4 - (k_d + 1).toInt) < Int.toNat (4 - k_d.toInt) from g_up (show k_d.toInt < (k_d + 1).toInt by omega) (show k_d.toInt < 4 by omega)) ⟨lv_sub hl [0, 1, 2, 3, 4] rfl, hP, hD, hS, ⟨by omega, by omega⟩, i_6⟩
    ·
      have i_21 : z9.toInt = p_b.toInt := by have z := g5_neN (a := z9.toInt) (b := p_b.toInt) (by rfl) (by rfl) c_21; omega
      refine lv_iconst (v := 1) hx hb dX5_findsBody_31 (by decide) ?_
      exact W.zret (v := 1) hx hb hr rfl (fun t ht hW => ⟨⟨1, [(a_k, (oc5 a_h a_j a_pt z8 z9 z10 z11 z12 z13 z14 z15 z16 z17)), (a_h, (oc1 e_wa e_le e_st e_fo e_lc a_l a_g a_b a_s a_p a_w e_gb a_bb)), (a_g, (oc6 6 5 a_gn e_g)), (a_gn, (arI G 30 f_g)), (a_b, (oc6 5 24 a_bn e_b)), (a_bn, (arI G 120 f_b)), (a_p, (oc6 8 5 a_pn e_p)), (a_pn, (arI G 40 f_p)), (a_bb, (arJ G 24 f_bb)), (a_j, (oc2 a_as a_sk)), (a_as, (arI G 8 z19)), (a_sk, (arJ G 50 z20)), (a_l, (arW G 6 f_l)), (a_lo, (oc3 e_cl a_hd a_sr a_cd)), (a_sr, (arI G n_sr f_sr)), (a_cd, (arI G n_cd f_cd)), (a_hd, (arI G n_hd f_hd)), (a_pt, (arI G 200 z18))], rfl, ⟨1, z8, z9, z10, z11, z12, z13, z14, z15, z16, z17, z18, z19, z20, ⟨by have zc_o_r : (1 : Int32).toInt = 1 := (by decide); omega, by have zc_o_r : (1 : Int32).toInt = 1 := (by decide); omega⟩, i_6, rfl, rfl⟩, by rw [ht]; exact hP.sub [0, 1, 2, 3, 4, 5, 6, 7, 8, 9, 10, 11, 12, 13, 14, 15, 16, 17] rfl, hD.sub [0, 1, 2, 3, 4, 5, 6, 7, 8, 9, 10, 11, 12, 13, 14, 15, 16, 17] (by decide) rfl⟩, hS.F ht⟩) hS.2.2 dX5_findsBody_32
set_option maxHeartbeats 4000000 in
set_option maxRecDepth 100000 in
theorem s_cellsFromL (l : Launch) (G : g5_G) (a_k a_h a_g a_gn a_b a_bn a_p a_pn a_bb a_j a_as a_sk a_l a_lo a_sr a_cd a_hd a_pt a_s a_w : Nat) (sz : Nat) (e_le : Int32) (e_st : Int32) (e_fo : Int32) (e_lc : Int32) (e_g : Int32) (e_b : Int32) (e_p : Int32) (e_cl : Int32) (e_ln : Int32) (e_se : Int32) (e_lh : Int32) (e_br : Int32) (e_we : Int32) (e_me : Int32) (e_ce : Int32) (e_wy : Int32) (e_ho : Int32) (e_ov : Int32) (p_c : Int32) (p_h : Int32) (e_wa : Int64) (e_gb : Int64) (f_g : Nat → Int32) (f_b : Nat → Int32) (f_p : Nat → Int32) (f_bb : Nat → Int64) (f_as : Nat → Int32) (f_sk : Nat → Int64) (f_l : Nat → Option Nat) (f_sr : Nat → Int32) (f_cd : Nat → Int32) (f_hd : Nat → Int32) (f_pt : Nat → Int32) (n_sr : Nat) (n_cd : Nat) (n_hd : Nat) (h_e_g : 0 ≤ e_g.toInt ∧ e_g.toInt ≤ 6) (h_e_b : 0 ≤ e_b.toInt ∧ e_b.toInt ≤ 5) (h_e_p : 0 ≤ e_p.toInt ∧ e_p.toInt ≤ 8) (h_e_cl : 0 ≤ e_cl.toInt ∧ e_cl.toInt ≤ 12) (h_e_ov : 0 ≤ e_ov.toInt ∧ e_ov.toInt ≤ 1) (e_gk : gOK f_g e_g.toInt) (e_pk : gOK f_p e_p.toInt) (e_gi : inT e_gb f_g e_g.toInt) (e_f : 0 ≤ e_fo.toInt ∧ e_fo.toInt < e_lc.toInt ∧ e_lc.toInt ≤ 6) (e_a : f_l e_fo.toNatClampNeg = some a_lo) (e_hn : n_cd ≤ 400) (e_hs : ∀ j : Nat, j < n_sr → 0 ≤ (f_sr j).toInt ∧ (f_sr j).toInt ≤ (n_cd : Int)) (e_hk : ∀ j : Nat, j < n_cd → (f_cd j >>> (12 &&& 31)).toInt = 1 → (f_cd j &&& 4095).toInt < 8) (e_c : (e_cl.toInt : Int) ≤ (n_hd : Int) ∧ (e_cl.toInt + 1 : Int) ≤ (n_sr : Int)) : Met l yX5_cellsFrom (wsG yX5_cellsFrom cX5_cellsFrom 7 (some .long)) ({ frames := 14, cells := 0, slots := 0, locals := 556 }) (va_Pc [.ref a_k, .int p_c, .int p_h] (g5_P G [(a_k, (oc5 a_h a_j a_pt e_ln e_se e_lh e_br e_we e_me e_ce e_wy e_ho e_ov)), (a_h, (oc1 e_wa e_le e_st e_fo e_lc a_l a_g a_b a_s a_p a_w e_gb a_bb)), (a_g, (oc6 6 5 a_gn e_g)), (a_gn, (arI G 30 f_g)), (a_b, (oc6 5 24 a_bn e_b)), (a_bn, (arI G 120 f_b)), (a_p, (oc6 8 5 a_pn e_p)), (a_pn, (arI G 40 f_p)), (a_bb, (arJ G 24 f_bb)), (a_j, (oc2 a_as a_sk)), (a_as, (arI G 8 f_as)), (a_sk, (arJ G 50 f_sk)), (a_l, (arW G 6 f_l)), (a_lo, (oc3 e_cl a_hd a_sr a_cd)), (a_sr, (arI G n_sr f_sr)), (a_cd, (arI G n_cd f_cd)), (a_hd, (arI G n_hd f_hd)), (a_pt, (arI G 200 f_pt))] sz)) (va_Ql (fun (r : Int64) (u : va_W) => (∃ (o_r : Int64) (o_ln : Int32) (o_se : Int32) (o_lh : Int32) (o_br : Int32) (o_we : Int32) (o_me : Int32) (o_ce : Int32) (o_wy : Int32) (o_ho : Int32) (o_ov : Int32) (o_pt : Nat → Int32) (o_as : Nat → Int32) (o_sk : Nat → Int64), (0 ≤ o_ov.toInt ∧ o_ov.toInt ≤ 1) ∧ (r = o_r) ∧ (u = [(a_k, (oc5 a_h a_j a_pt o_ln o_se o_lh o_br o_we o_me o_ce o_wy o_ho o_ov)), (a_h, (oc1 e_wa e_le e_st e_fo e_lc a_l a_g a_b a_s a_p a_w e_gb a_bb)), (a_g, (oc6 6 5 a_gn e_g)), (a_gn, (arI G 30 f_g)), (a_b, (oc6 5 24 a_bn e_b)), (a_bn, (arI G 120 f_b)), (a_p, (oc6 8 5 a_pn e_p)), (a_pn, (arI G 40 f_p)), (a_bb, (arJ G 24 f_bb)), (a_j, (oc2 a_as a_sk)), (a_as, (arI G 8 o_as)), (a_sk, (arJ G 50 o_sk)), (a_l, (arW G 6 f_l)), (a_lo, (oc3 e_cl a_hd a_sr a_cd)), (a_sr, (arI G n_sr f_sr)), (a_cd, (arI G n_cd f_cd)), (a_hd, (arI G n_hd f_hd)), (a_pt, (arI G 200 o_pt))]))) (g5_B G (va_A [(a_k, (oc5 a_h a_j a_pt e_ln e_se e_lh e_br e_we e_me e_ce e_wy e_ho e_ov)), (a_h, (oc1 e_wa e_le e_st e_fo e_lc a_l a_g a_b a_s a_p a_w e_gb a_bb)), (a_g, (oc6 6 5 a_gn e_g)), (a_gn, (arI G 30 f_g)), (a_b, (oc6 5 24 a_bn e_b)), (a_bn, (arI G 120 f_b)), (a_p, (oc6 8 5 a_pn e_p)), (a_pn, (arI G 40 f_p)), (a_bb, (arJ G 24 f_bb)), (a_j, (oc2 a_as a_sk)), (a_as, (arI G 8 f_as)), (a_sk, (arJ G 50 f_sk)), (a_l, (arW G 6 f_l)), (a_lo, (oc3 e_cl a_hd a_sr a_cd)), (a_sr, (arI G n_sr f_sr)), (a_cd, (arI G n_cd f_cd)), (a_hd, (arI G n_hd f_hd)), (a_pt, (arI G 200 f_pt))] sz)) (va_A [(a_k, (oc5 a_h a_j a_pt e_ln e_se e_lh e_br e_we e_me e_ce e_wy e_ho e_ov)), (a_h, (oc1 e_wa e_le e_st e_fo e_lc a_l a_g a_b a_s a_p a_w e_gb a_bb)), (a_g, (oc6 6 5 a_gn e_g)), (a_gn, (arI G 30 f_g)), (a_b, (oc6 5 24 a_bn e_b)), (a_bn, (arI G 120 f_b)), (a_p, (oc6 8 5 a_pn e_p)), (a_pn, (arI G 40 f_p)), (a_bb, (arJ G 24 f_bb)), (a_j, (oc2 a_as a_sk)), (a_as, (arI G 8 f_as)), (a_sk, (arJ G 50 f_sk)), (a_l, (arW G 6 f_l)), (a_lo, (oc3 e_cl a_hd a_sr a_cd)), (a_sr, (arI G n_sr f_sr)), (a_cd, (arI G n_cd f_cd)), (a_hd, (arI G n_hd f_hd)), (a_pt, (arI G 200 f_pt))] sz)) 0 0 (va_A [(a_k, (oc5 a_h a_j a_pt e_ln e_se e_lh e_br e_we e_me e_ce e_wy e_ho e_ov)), (a_h, (oc1 e_wa e_le e_st e_fo e_lc a_l a_g a_b a_s a_p a_w e_gb a_bb)), (a_g, (oc6 6 5 a_gn e_g)), (a_gn, (arI G 30 f_g)), (a_b, (oc6 5 24 a_bn e_b)), (a_bn, (arI G 120 f_b)), (a_p, (oc6 8 5 a_pn e_p)), (a_pn, (arI G 40 f_p)), (a_bb, (arJ G 24 f_bb)), (a_j, (oc2 a_as a_sk)), (a_as, (arI G 8 f_as)), (a_sk, (arJ G 50 f_sk)), (a_l, (arW G 6 f_l)), (a_lo, (oc3 e_cl a_hd a_sr a_cd)), (a_sr, (arI G n_sr f_sr)), (a_cd, (arI G n_cd f_cd)), (a_hd, (arI G n_hd f_hd)), (a_pt, (arI G 200 f_pt))] sz) := by
  refine Met.ofW (cc := cX5_cellsFrom) (maxL := 7) (ret := (some .long)) (by decide) rfl ?_
  intro p e s m args below meth c s₁ B hml hv
  obtain ⟨rfl, hsz, hP, hK, hD0, hN, hT⟩ := hv
  have hx := B.exec
  have hb := B.bytes
  have hr := B.returns
  have hts : ∀ w ∈ tblG, w.before _ s = true := fun w h => atoms_spec (ws := (wsG yX5_cellsFrom cX5_cellsFrom 7 (some .long))) B.pre w (List.mem_cons_of_mem _ h)
  have hown : s.vm.findClass RX5 = some m.cls := findClass_of_methodNamed B.named
  have hlocks := B.notSynchronized
  subst hsz
  have hD := hD0.self (sz := s.heap.size)
  generalize hAe : va_A [(a_k, (oc5 a_h a_j a_pt e_ln e_se e_lh e_br e_we e_me e_ce e_wy e_ho e_ov)), (a_h, (oc1 e_wa e_le e_st e_fo e_lc a_l a_g a_b a_s a_p a_w e_gb a_bb)), (a_g, (oc6 6 5 a_gn e_g)), (a_gn, (arI G 30 f_g)), (a_b, (oc6 5 24 a_bn e_b)), (a_bn, (arI G 120 f_b)), (a_p, (oc6 8 5 a_pn e_p)), (a_pn, (arI G 40 f_p)), (a_bb, (arJ G 24 f_bb)), (a_j, (oc2 a_as a_sk)), (a_as, (arI G 8 f_as)), (a_sk, (arJ G 50 f_sk)), (a_l, (arW G 6 f_l)), (a_lo, (oc3 e_cl a_hd a_sr a_cd)), (a_sr, (arI G n_sr f_sr)), (a_cd, (arI G n_cd f_cd)), (a_hd, (arI G n_hd f_hd)), (a_pt, (arI G 200 f_pt))] s.heap.size = A at hD hT ⊢
  have hA : ∀ q : Nat, s.heap.size ≤ q → A q := fun q h => by rw [← hAe]; exact Or.inr h
  have hS : va_S A s.heap s.heap [] := va_S.rf
  have hP : va_P G.1 vwCl [(a_k, (oc5 a_h a_j a_pt e_ln e_se e_lh e_br e_we e_me e_ce e_wy e_ho e_ov)), (a_h, (oc1 e_wa e_le e_st e_fo e_lc a_l a_g a_b a_s a_p a_w e_gb a_bb)), (a_g, (oc6 6 5 a_gn e_g)), (a_gn, (arI G 30 f_g)), (a_b, (oc6 5 24 a_bn e_b)), (a_bn, (arI G 120 f_b)), (a_p, (oc6 8 5 a_pn e_p)), (a_pn, (arI G 40 f_p)), (a_bb, (arJ G 24 f_bb)), (a_j, (oc2 a_as a_sk)), (a_as, (arI G 8 f_as)), (a_sk, (arJ G 50 f_sk)), (a_l, (arW G 6 f_l)), (a_lo, (oc3 e_cl a_hd a_sr a_cd)), (a_sr, (arI G n_sr f_sr)), (a_cd, (arI G n_cd f_cd)), (a_hd, (arI G n_hd f_hd)), (a_pt, (arI G 200 f_pt))] s.heap := hP
  have hl := lv_entry ([.ref a_k, .int p_c, .int p_h]) (n := 7) (Nat.le_of_ble_eq_true rfl)
  rw [lg_entry_eq]
  generalize (lg_sl ([.ref a_k, .int p_c, .int p_h]) ++ List.replicate (7 - (lg_sl ([.ref a_k, .int p_c, .int p_h])).length) Slot.unset).toArray = ls at hl ⊢
  have hl : lv_has ls 7 [(0, .ref a_k), (1, .int p_c), (2, .int p_h)] := hl
  refine lv_lconst (v := 0) hx hb dX5_cellsFrom_0 (by decide) ?_
  refine lv_lstore_n (lv' := [(3, .long 0), (0, .ref a_k), (1, .int p_c), (2, .int p_h)]) hx hb dX5_cellsFrom_1 rfl hl (by decide) rfl (fun ls hl => ?_)
  refine lv_iconst (v := 0) hx hb dX5_cellsFrom_2 (by decide) ?_
  refine lv_istore (lv' := [(5, .int 0), (3, .long 0), (0, .ref a_k), (1, .int p_c), (2, .int p_h)]) hx hb dX5_cellsFrom_3 hl (by decide) rfl (fun ls hl => ?_)
  refine g5_loop (α := (Int32) × (Int64) × (Int32) × (Int32) × (Int32) × (Int32) × (Int32) × (Int32) × (Int32) × (Int32) × (Int32) × (Nat → Int32) × (Nat → Int32) × (Nat → Int64) × (Int32)) (fun (q : (Int32) × (Int64) × (Int32) × (Int32) × (Int32) × (Int32) × (Int32) × (Int32) × (Int32) × (Int32) × (Int32) × (Nat → Int32) × (Nat → Int32) × (Nat → Int64) × (Int32)) (ls : Array Slot) (H : Heap) (locs : List Loc) => match q with | (k_d, k_b, k_se, k_lh, k_br, k_we, k_me, k_ce, k_wy, k_ho, k_ov, k_pt, k_as, k_sk, k_ln) => lv_has ls 7 [(3, .long k_b), (5, .int k_d), (0, .ref a_k), (1, .int p_c), (2, .int p_h)] ∧ va_P G.1 vwCl [(a_k, (oc5 a_h a_j a_pt k_ln k_se k_lh k_br k_we k_me k_ce k_wy k_ho k_ov)), (a_h, (oc1 e_wa e_le e_st e_fo e_lc a_l a_g a_b a_s a_p a_w e_gb a_bb)), (a_g, (oc6 6 5 a_gn e_g)), (a_gn, (arI G 30 f_g)), (a_b, (oc6 5 24 a_bn e_b)), (a_bn, (arI G 120 f_b)), (a_p, (oc6 8 5 a_pn e_p)), (a_pn, (arI G 40 f_p)), (a_bb, (arJ G 24 f_bb)), (a_j, (oc2 a_as a_sk)), (a_as, (arI G 8 k_as)), (a_sk, (arJ G 50 k_sk)), (a_l, (arW G 6 f_l)), (a_lo, (oc3 e_cl a_hd a_sr a_cd)), (a_sr, (arI G n_sr f_sr)), (a_cd, (arI G n_cd f_cd)), (a_hd, (arI G n_hd f_hd)), (a_pt, (arI G 200 k_pt))] H ∧ va_D A [(a_k, (oc5 a_h a_j a_pt k_ln k_se k_lh k_br k_we k_me k_ce k_wy k_ho k_ov)), (a_h, (oc1 e_wa e_le e_st e_fo e_lc a_l a_g a_b a_s a_p a_w e_gb a_bb)), (a_g, (oc6 6 5 a_gn e_g)), (a_gn, (arI G 30 f_g)), (a_b, (oc6 5 24 a_bn e_b)), (a_bn, (arI G 120 f_b)), (a_p, (oc6 8 5 a_pn e_p)), (a_pn, (arI G 40 f_p)), (a_bb, (arJ G 24 f_bb)), (a_j, (oc2 a_as a_sk)), (a_as, (arI G 8 k_as)), (a_sk, (arJ G 50 k_sk)), (a_l, (arW G 6 f_l)), (a_lo, (oc3 e_cl a_hd a_sr a_cd)), (a_sr, (arI G n_sr f_sr)), (a_cd, (arI G n_cd f_cd)), (a_hd, (arI G n_hd f_hd)), (a_pt, (arI G 200 k_pt))] ∧ va_S A s.heap H locs ∧ (0 ≤ k_d.toInt ∧ k_d.toInt ≤ 4) ∧ (0 ≤ k_ov.toInt ∧ k_ov.toInt ≤ 1)) (fun (q : (Int32) × (Int64) × (Int32) × (Int32) × (Int32) × (Int32) × (Int32) × (Int32) × (Int32) × (Int32) × (Int32) × (Nat → Int32) × (Nat → Int32) × (Nat → Int64) × (Int32)) => match q with | (k_d, k_b, k_se, k_lh, k_br, k_we, k_me, k_ce, k_wy, k_ho, k_ov, k_pt, k_as, k_sk, k_ln) => Int.toNat (4 - k_d.toInt)) (0, 0, e_se, e_lh, e_br, e_we, e_me, e_ce, e_wy, e_ho, e_ov, f_pt, f_as, f_sk, e_ln) ⟨lv_sub hl [1, 0, 2, 3, 4] rfl, hP, hD, hS, ⟨by decide, by decide⟩, h_e_ov⟩ ?_
  rintro ⟨k_d, k_b, k_se, k_lh, k_br, k_we, k_me, k_ce, k_wy, k_ho, k_ov, k_pt, k_as, k_sk, k_ln⟩ ls H locs ⟨hl, hP, hD, hS, i_1, i_2⟩ ih_5_3
  have hl : lv_has ls 7 [(3, .long k_b), (5, .int k_d), (0, .ref a_k), (1, .int p_c), (2, .int p_h)] := hl
  have i_1 : 0 ≤ k_d.toInt ∧ k_d.toInt ≤ 4 := i_1
  have i_2 : 0 ≤ k_ov.toInt ∧ k_ov.toInt ≤ 1 := i_2
  refine g5_rs [(a_k, (oc5 a_h a_j a_pt k_ln k_se k_lh k_br k_we k_me k_ce k_wy k_ho k_ov)), (a_h, (oc1 e_wa e_le e_st e_fo e_lc a_l a_g a_b a_s a_p a_w e_gb a_bb)), (a_g, (oc6 6 5 a_gn e_g)), (a_gn, (arI G 30 f_g)), (a_b, (oc6 5 24 a_bn e_b)), (a_bn, (arI G 120 f_b)), (a_p, (oc6 8 5 a_pn e_p)), (a_pn, (arI G 40 f_p)), (a_bb, (arJ G 24 f_bb)), (a_j, (oc2 a_as a_sk)), (a_as, (arI G 8 k_as)), (a_sk, (arJ G 50 k_sk)), (a_l, (arW G 6 f_l)), (a_lo, (oc3 e_cl a_hd a_sr a_cd)), (a_sr, (arI G n_sr f_sr)), (a_cd, (arI G n_cd f_cd)), (a_hd, (arI G n_hd f_hd)), (a_pt, (arI G 200 k_pt))] hP hD (fun hP hD => ?_)
  refine lv_iload hx hb dX5_cellsFrom_5 (lv_at hl 1 rfl) ?_
  refine lv_iconst (v := 4) hx hb dX5_cellsFrom_7 (by decide) ?_
  refine lv_icmp_ge (tgt := 59) hx hb dX5_cellsFrom_8 (by decide) (fun c_4 => ?_) (fun c_4 => ?_)
  ·
    have i_4 : k_d.toInt ≥ 4 := by have z := g5_ge (a := k_d.toInt) (b := 4) (by rfl) (by decide) c_4; omega
    refine lv_lload_n hx hb dX5_cellsFrom_59 rfl (lv_at hl 0 rfl) ?_
    exact W.lret (v := k_b) hx hb hr (fun t ht hW => ⟨⟨k_b, [(a_k, (oc5 a_h a_j a_pt k_ln k_se k_lh k_br k_we k_me k_ce k_wy k_ho k_ov)), (a_h, (oc1 e_wa e_le e_st e_fo e_lc a_l a_g a_b a_s a_p a_w e_gb a_bb)), (a_g, (oc6 6 5 a_gn e_g)), (a_gn, (arI G 30 f_g)), (a_b, (oc6 5 24 a_bn e_b)), (a_bn, (arI G 120 f_b)), (a_p, (oc6 8 5 a_pn e_p)), (a_pn, (arI G 40 f_p)), (a_bb, (arJ G 24 f_bb)), (a_j, (oc2 a_as a_sk)), (a_as, (arI G 8 k_as)), (a_sk, (arJ G 50 k_sk)), (a_l, (arW G 6 f_l)), (a_lo, (oc3 e_cl a_hd a_sr a_cd)), (a_sr, (arI G n_sr f_sr)), (a_cd, (arI G n_cd f_cd)), (a_hd, (arI G n_hd f_hd)), (a_pt, (arI G 200 k_pt))], rfl, ⟨k_b, k_ln, k_se, k_lh, k_br, k_we, k_me, k_ce, k_wy, k_ho, k_ov, k_pt, k_as, k_sk, i_2, rfl, rfl⟩, by rw [ht]; exact hP.sub [0, 1, 2, 3, 4, 5, 6, 7, 8, 9, 10, 11, 12, 13, 14, 15, 16, 17] rfl, hD.sub [0, 1, 2, 3, 4, 5, 6, 7, 8, 9, 10, 11, 12, 13, 14, 15, 16, 17] (by decide) rfl⟩, hS.F ht⟩) hS.2.2 dX5_cellsFrom_60
  ·
    have i_4 : k_d.toInt < 4 := by have z := g5_geN (a := k_d.toInt) (b := 4) (by rfl) (by decide) c_4; omega
    refine lv_aload_n hx hb dX5_cellsFrom_11 rfl (lv_at hl 2 rfl) ?_
    refine lv_iload_n hx hb dX5_cellsFrom_12 rfl (lv_at hl 3 rfl) ?_
    refine lv_iload hx hb dX5_cellsFrom_13 (lv_at hl 1 rfl) ?_
    refine lv_iload_n hx hb dX5_cellsFrom_15 rfl (lv_at hl 4 rfl) ?_
    refine lv_iconst (v := 0) hx hb dX5_cellsFrom_16 (by decide) ?_
    obtain ⟨hPc, hDc, hFc⟩ := g5_sub3 (wc := [(a_k, (oc5 a_h a_j a_pt k_ln k_se k_lh k_br k_we k_me k_ce k_wy k_ho k_ov)), (a_h, (oc1 e_wa e_le e_st e_fo e_lc a_l a_g a_b a_s a_p a_w e_gb a_bb)), (a_g, (oc6 6 5 a_gn e_g)), (a_gn, (arI G 30 f_g)), (a_b, (oc6 5 24 a_bn e_b)), (a_bn, (arI G 120 f_b)), (a_p, (oc6 8 5 a_pn e_p)), (a_pn, (arI G 40 f_p)), (a_bb, (arJ G 24 f_bb)), (a_j, (oc2 a_as a_sk)), (a_as, (arI G 8 k_as)), (a_sk, (arJ G 50 k_sk)), (a_l, (arW G 6 f_l)), (a_lo, (oc3 e_cl a_hd a_sr a_cd)), (a_sr, (arI G n_sr f_sr)), (a_cd, (arI G n_cd f_cd)), (a_hd, (arI G n_hd f_hd)), (a_pt, (arI G 200 k_pt))]) hP hD hS hA [0, 1, 2, 3, 4, 5, 6, 7, 8, 9, 10, 11, 12, 13, 14, 15, 16, 17] (by decide) rfl
    refine va_callv (va_runV (As := [.int p_c, .int k_d, .int p_h, .int 0]) (rest := []) ⟨hx, hb, hml, hown, hts⟩ (k_runL l G a_k a_h a_g a_gn a_b a_bn a_p a_pn a_bb a_j a_as a_sk a_l a_lo a_sr a_cd a_hd a_pt a_s a_w H.size e_le e_st e_fo e_lc e_g e_b e_p e_cl k_ln k_se k_lh k_br k_we k_me k_ce k_wy k_ho k_ov p_c k_d p_h 0 e_wa e_gb f_g f_b f_p f_bb k_as k_sk f_l f_sr f_cd f_hd k_pt n_sr n_cd n_hd h_e_g h_e_b h_e_p h_e_cl i_2 (e_gk) (e_pk) (e_gi) (e_f) (e_a) (e_hn) (e_hs) (e_hk) (e_c)) (cwV 4 hts gV_X5_91 rfl rfl rfl hv_X5_run ⟨Nat.le_of_ble_eq_true rfl, Nat.le_of_ble_eq_true rfl⟩) (g5_preV hPc hK hDc hN hT hS hFc (ci := 5) (q0 := 0) rfl rfl) rfl rfl hl.1 rfl (lv_room (Nat.le_of_ble_eq_true rfl)) dX5_cellsFrom_17 ⟨Nat.le_of_ble_eq_true rfl, Nat.le_of_ble_eq_true rfl⟩) hS (fun q _ h => hFc q h) hFc (fun u t H1 locs ht hvm hw hB hz1 hk1 hS => ?_)
    obtain ⟨hP1, hD1⟩ := hB
    rw [ht] at hP1
    obtain ⟨z8, z9, z10, z11, z12, z13, z14, z15, z16, z17, z18, z19, z20, i_5, i_6, i_7, rfl⟩ := hw
    have i_5 : 0 ≤ z8.toInt ∧ z8.toInt ≤ 200 := i_5
    have i_6 : 0 ≤ z17.toInt ∧ z17.toInt ≤ 1 := i_6
    have i_7 : ∀ j : Nat, (j : Int) < z8.toInt → 0 ≤ (z18 j).toInt ∧ (z18 j).toInt ≤ 1535 := i_7
    obtain ⟨hP, hD⟩ := va_join (wr := []) hP hD [0, 1, 2, 3, 4, 5, 6, 7, 8, 9, 10, 11, 12, 13, 14, 15, 16, 17] [] rfl rfl (by decide) (by decide) hk1 hFc hP1 hD1
    generalize H1 = H at hP hS ⊢
    refine g5_rs [(a_k, (oc5 a_h a_j a_pt z8 z9 z10 z11 z12 z13 z14 z15 z16 z17)), (a_h, (oc1 e_wa e_le e_st e_fo e_lc a_l a_g a_b a_s a_p a_w e_gb a_bb)), (a_g, (oc6 6 5 a_gn e_g)), (a_gn, (arI G 30 f_g)), (a_b, (oc6 5 24 a_bn e_b)), (a_bn, (arI G 120 f_b)), (a_p, (oc6 8 5 a_pn e_p)), (a_pn, (arI G 40 f_p)), (a_bb, (arJ G 24 f_bb)), (a_j, (oc2 a_as a_sk)), (a_as, (arI G 8 z19)), (a_sk, (arJ G 50 z20)), (a_l, (arW G 6 f_l)), (a_lo, (oc3 e_cl a_hd a_sr a_cd)), (a_sr, (arI G n_sr f_sr)), (a_cd, (arI G n_cd f_cd)), (a_hd, (arI G n_hd f_hd)), (a_pt, (arI G 200 z18))] hP hD (fun hP hD => ?_)
    refine lv_iconst (v := 0) hx hb dX5_cellsFrom_20 (by decide) ?_
    refine lv_istore (lv' := [(6, .int 0), (3, .long k_b), (5, .int k_d), (0, .ref a_k), (1, .int p_c), (2, .int p_h)]) hx hb dX5_cellsFrom_21 hl (by decide) rfl (fun ls hl => ?_)
    refine g5_loop (α := (Int32) × (Int64)) (fun (q : (Int32) × (Int64)) (ls : Array Slot) (H : Heap) (locs : List Loc) => match q with | (k_i, k_x) => lv_has ls 7 [(3, .long k_x), (6, .int k_i), (5, .int k_d), (0, .ref a_k), (1, .int p_c), (2, .int p_h)] ∧ va_P G.1 vwCl [(a_k, (oc5 a_h a_j a_pt z8 z9 z10 z11 z12 z13 z14 z15 z16 z17)), (a_h, (oc1 e_wa e_le e_st e_fo e_lc a_l a_g a_b a_s a_p a_w e_gb a_bb)), (a_g, (oc6 6 5 a_gn e_g)), (a_gn, (arI G 30 f_g)), (a_b, (oc6 5 24 a_bn e_b)), (a_bn, (arI G 120 f_b)), (a_p, (oc6 8 5 a_pn e_p)), (a_pn, (arI G 40 f_p)), (a_bb, (arJ G 24 f_bb)), (a_j, (oc2 a_as a_sk)), (a_as, (arI G 8 z19)), (a_sk, (arJ G 50 z20)), (a_l, (arW G 6 f_l)), (a_lo, (oc3 e_cl a_hd a_sr a_cd)), (a_sr, (arI G n_sr f_sr)), (a_cd, (arI G n_cd f_cd)), (a_hd, (arI G n_hd f_hd)), (a_pt, (arI G 200 z18))] H ∧ va_D A [(a_k, (oc5 a_h a_j a_pt z8 z9 z10 z11 z12 z13 z14 z15 z16 z17)), (a_h, (oc1 e_wa e_le e_st e_fo e_lc a_l a_g a_b a_s a_p a_w e_gb a_bb)), (a_g, (oc6 6 5 a_gn e_g)), (a_gn, (arI G 30 f_g)), (a_b, (oc6 5 24 a_bn e_b)), (a_bn, (arI G 120 f_b)), (a_p, (oc6 8 5 a_pn e_p)), (a_pn, (arI G 40 f_p)), (a_bb, (arJ G 24 f_bb)), (a_j, (oc2 a_as a_sk)), (a_as, (arI G 8 z19)), (a_sk, (arJ G 50 z20)), (a_l, (arW G 6 f_l)), (a_lo, (oc3 e_cl a_hd a_sr a_cd)), (a_sr, (arI G n_sr f_sr)), (a_cd, (arI G n_cd f_cd)), (a_hd, (arI G n_hd f_hd)), (a_pt, (arI G 200 z18))] ∧ va_S A s.heap H locs ∧ (0 ≤ k_i.toInt ∧ k_i.toInt ≤ 200)) (fun (q : (Int32) × (Int64)) => match q with | (k_i, k_x) => Int.toNat (200 - k_i.toInt)) (0, k_b) ⟨lv_sub hl [1, 0, 2, 3, 4, 5] rfl, hP, hD, hS, ⟨by decide, by decide⟩⟩ ?_
    rintro ⟨k_i, k_x⟩ ls H locs ⟨hl, hP, hD, hS, i_21⟩ ih_23_22
    have hl : lv_has ls 7 [(3, .long k_x), (6, .int k_i), (5, .int k_d), (0, .ref a_k), (1, .int p_c), (2, .int p_h)] := hl
    have i_21 : 0 ≤ k_i.toInt ∧ k_i.toInt ≤ 200 := i_21
    refine g5_rs [(a_k, (oc5 a_h a_j a_pt z8 z9 z10 z11 z12 z13 z14 z15 z16 z17)), (a_h, (oc1 e_wa e_le e_st e_fo e_lc a_l a_g a_b a_s a_p a_w e_gb a_bb)), (a_g, (oc6 6 5 a_gn e_g)), (a_gn, (arI G 30 f_g)), (a_b, (oc6 5 24 a_bn e_b)), (a_bn, (arI G 120 f_b)), (a_p, (oc6 8 5 a_pn e_p)), (a_pn, (arI G 40 f_p)), (a_bb, (arJ G 24 f_bb)), (a_j, (oc2 a_as a_sk)), (a_as, (arI G 8 z19)), (a_sk, (arJ G 50 z20)), (a_l, (arW G 6 f_l)), (a_lo, (oc3 e_cl a_hd a_sr a_cd)), (a_sr, (arI G n_sr f_sr)), (a_cd, (arI G n_cd f_cd)), (a_hd, (arI G n_hd f_hd)), (a_pt, (arI G 200 z18))] hP hD (fun hP hD => ?_)
    refine lv_iload hx hb dX5_cellsFrom_23 (lv_at hl 1 rfl) ?_
    refine lv_aload_n hx hb dX5_cellsFrom_25 rfl (lv_at hl 3 rfl) ?_
    refine va_get (D := G.1) (ci := 5) (v := .int z8) (C := RX5) (T := TX5) (N := 13) hx hb hts inG_X5 hown hK hP 0 rfl rfl 3 (by decide) (hts _ fl_X5_36) (fun _ h9 => h9) rfl dX5_cellsFrom_26 ?_
    refine lv_icmp_ge (tgt := 53) hx hb dX5_cellsFrom_29 (by decide) (fun c_23 => ?_) (fun c_23 => ?_)
    ·
      have i_23 : k_i.toInt ≥ z8.toInt := by have z := g5_ge (a := k_i.toInt) (b := z8.toInt) (by rfl) (by rfl) c_23; omega
      refine lv_iinc (v := (k_d + 1)) (lv' := [(5, .int (k_d + 1)), (3, .long k_x), (6, .int k_i), (0, .ref a_k), (1, .int p_c), (2, .int p_h)]) hx hb dX5_cellsFrom_53 hl (k := 2) rfl rfl (by decide) rfl (fun ls hl => ?_)
      have t_24 : (k_d + 1).toInt = k_d.toInt + 1 := g5_iadd (a := k_d.toInt) (b := 1) rfl (by decide) (by omega) (by omega)
      refine lv_goto (tgt := 5) hx hb dX5_cellsFrom_56 (by decide) ?_
      exact ih_5_3 ((k_d + 1), k_x, z9, z10, z11, z12, z13, z14, z15, z16, z17, z18, z19, z20, z8) ls H locs (show Int.toNat (4 - (k_d + 1).toInt) < Int.toNat (4 - k_d.toInt) from g_up (show k_d.toInt < (k_d + 1).toInt by omega) (show k_d.toInt < 4 by omega)) ⟨lv_sub hl [1, 0, 3, 4, 5] rfl, hP, hD, hS, ⟨by omega, by omega⟩, i_6⟩
    ·
      have i_23 : k_i.toInt < z8.toInt := by have z := g5_geN (a := k_i.toInt) (b := z8.toInt) (by rfl) (by rfl) c_23; omega
      refine lv_lload_n hx hb dX5_cellsFrom_32 rfl (lv_at hl 0 rfl) ?_
      refine lv_lconst (v := 1) hx hb dX5_cellsFrom_33 (by decide) ?_
      refine lv_aload_n hx hb dX5_cellsFrom_34 rfl (lv_at hl 3 rfl) ?_
      refine va_get (D := G.1) (ci := 5) (v := .ref a_pt) (C := RX5) (T := TX5) (N := 13) hx hb hts inG_X5 hown hK hP 0 rfl rfl 2 (by decide) (hts _ fl_X5_18) (fun _ h9 => h9) rfl dX5_cellsFrom_35 ?_
      refine lv_iload hx hb dX5_cellsFrom_38 (lv_at hl 1 rfl) ?_
      refine va_iald hx hb hK hP 17 0 rfl rfl (i := k_i) (vp_in_iff.mpr ⟨by omega, by omega⟩) dX5_cellsFrom_40 ?_
      have hp_25 : 0 ≤ (z18 k_i.toNatClampNeg).toInt ∧ (z18 k_i.toNatClampNeg).toInt ≤ 1535 := i_7 _ (by have zz := g5_clamp k_i; omega)
      refine lv_bipush (v := 64) hx hb dX5_cellsFrom_41 (by decide) ?_
      refine lv_irem hx hb dX5_cellsFrom_43 (by decide) ?_
      have t_26 : ((z18 k_i.toNatClampNeg) - (z18 k_i.toNatClampNeg) / 64 * 64).toInt = (z18 k_i.toNatClampNeg).toInt % 64 := g5_irem (a := (z18 k_i.toNatClampNeg).toInt) (b := 64) rfl (by decide) (by omega) (by decide)
      refine lv_lshl (v := ((1 : Int64) <<< (((z18 k_i.toNatClampNeg) - (z18 k_i.toNatClampNeg) / 64 * 64).toInt64 &&& 63))) hx hb dX5_cellsFrom_44 rfl ?_
      refine lv_lor hx hb dX5_cellsFrom_45 ?_
      refine lv_lstore_n (lv' := [(3, .long (k_x ||| ((1 : Int64) <<< (((z18 k_i.toNatClampNeg) - (z18 k_i.toNatClampNeg) / 64 * 64).toInt64 &&& 63)))), (6, .int k_i), (5, .int k_d), (0, .ref a_k), (1, .int p_c), (2, .int p_h)]) hx hb dX5_cellsFrom_46 rfl hl (by decide) rfl (fun ls hl => ?_)
      refine lv_iinc (v := (k_i + 1)) (lv' := [(6, .int (k_i + 1)), (3, .long (k_x ||| ((1 : Int64) <<< (((z18 k_i.toNatClampNeg) - (z18 k_i.toNatClampNeg) / 64 * 64).toInt64 &&& 63)))), (5, .int k_d), (0, .ref a_k), (1, .int p_c), (2, .int p_h)]) hx hb dX5_cellsFrom_47 hl (k := 1) rfl rfl (by decide) rfl (fun ls hl => ?_)
      have t_27 : (k_i + 1).toInt = k_i.toInt + 1 := g5_iadd (a := k_i.toInt) (b := 1) rfl (by decide) (by omega) (by omega)
      refine lv_goto (tgt := 23) hx hb dX5_cellsFrom_50 (by decide) ?_
      exact ih_23_22 ((k_i + 1), (k_x ||| ((1 : Int64) <<< (((z18 k_i.toNatClampNeg) - (z18 k_i.toNatClampNeg) / 64 * 64).toInt64 &&& 63)))) ls H locs (show Int.toNat (200 - (k_i + 1).toInt) < Int.toNat (200 - k_i.toInt) from g_up (show k_i.toInt < (k_i + 1).toInt by omega) (show k_i.toInt < 200 by omega)) ⟨lv_sub hl [1, 0, 2, 3, 4, 5] rfl, hP, hD, hS, ⟨by omega, by omega⟩⟩
set_option maxHeartbeats 4000000 in
set_option maxRecDepth 100000 in
theorem s_latenessL (l : Launch) (G : g5_G) (a_k a_h a_g a_gn a_b a_bn a_p a_pn a_bb a_j a_as a_sk a_l a_lo a_sr a_cd a_hd a_pt a_s a_w : Nat) (sz : Nat) (e_le : Int32) (e_st : Int32) (e_fo : Int32) (e_lc : Int32) (e_g : Int32) (e_b : Int32) (e_p : Int32) (e_cl : Int32) (e_ln : Int32) (e_se : Int32) (e_lh : Int32) (e_br : Int32) (e_we : Int32) (e_me : Int32) (e_ce : Int32) (e_wy : Int32) (e_ho : Int32) (e_ov : Int32) (p_c : Int32) (p_h : Int32) (p_b : Int32) (e_wa : Int64) (e_gb : Int64) (f_g : Nat → Int32) (f_b : Nat → Int32) (f_p : Nat → Int32) (f_bb : Nat → Int64) (f_as : Nat → Int32) (f_sk : Nat → Int64) (f_l : Nat → Option Nat) (f_sr : Nat → Int32) (f_cd : Nat → Int32) (f_hd : Nat → Int32) (f_pt : Nat → Int32) (n_sr : Nat) (n_cd : Nat) (n_hd : Nat) (h_e_g : 0 ≤ e_g.toInt ∧ e_g.toInt ≤ 6) (h_e_b : 0 ≤ e_b.toInt ∧ e_b.toInt ≤ 5) (h_e_p : 0 ≤ e_p.toInt ∧ e_p.toInt ≤ 8) (h_e_cl : 0 ≤ e_cl.toInt ∧ e_cl.toInt ≤ 12) (h_e_ov : 0 ≤ e_ov.toInt ∧ e_ov.toInt ≤ 1) (e_gk : gOK f_g e_g.toInt) (e_pk : gOK f_p e_p.toInt) (e_gi : inT e_gb f_g e_g.toInt) (e_f : 0 ≤ e_fo.toInt ∧ e_fo.toInt < e_lc.toInt ∧ e_lc.toInt ≤ 6) (e_a : f_l e_fo.toNatClampNeg = some a_lo) (e_hn : n_cd ≤ 400) (e_hs : ∀ j : Nat, j < n_sr → 0 ≤ (f_sr j).toInt ∧ (f_sr j).toInt ≤ (n_cd : Int)) (e_hk : ∀ j : Nat, j < n_cd → (f_cd j >>> (12 &&& 31)).toInt = 1 → (f_cd j &&& 4095).toInt < 8) (e_c : (e_cl.toInt : Int) ≤ (n_hd : Int) ∧ (e_cl.toInt + 1 : Int) ≤ (n_sr : Int)) : Met l yX5_lateness (wsG yX5_lateness cX5_lateness 7 (some .int)) ({ frames := 14, cells := 0, slots := 0, locals := 556 }) (va_Pc [.ref a_k, .int p_c, .int p_h, .int p_b] (g5_P G [(a_k, (oc5 a_h a_j a_pt e_ln e_se e_lh e_br e_we e_me e_ce e_wy e_ho e_ov)), (a_h, (oc1 e_wa e_le e_st e_fo e_lc a_l a_g a_b a_s a_p a_w e_gb a_bb)), (a_g, (oc6 6 5 a_gn e_g)), (a_gn, (arI G 30 f_g)), (a_b, (oc6 5 24 a_bn e_b)), (a_bn, (arI G 120 f_b)), (a_p, (oc6 8 5 a_pn e_p)), (a_pn, (arI G 40 f_p)), (a_bb, (arJ G 24 f_bb)), (a_j, (oc2 a_as a_sk)), (a_as, (arI G 8 f_as)), (a_sk, (arJ G 50 f_sk)), (a_l, (arW G 6 f_l)), (a_lo, (oc3 e_cl a_hd a_sr a_cd)), (a_sr, (arI G n_sr f_sr)), (a_cd, (arI G n_cd f_cd)), (a_hd, (arI G n_hd f_hd)), (a_pt, (arI G 200 f_pt))] sz)) (va_Qi (fun (r : Int32) (u : va_W) => (∃ (o_r : Int32) (o_ln : Int32) (o_se : Int32) (o_lh : Int32) (o_br : Int32) (o_we : Int32) (o_me : Int32) (o_ce : Int32) (o_wy : Int32) (o_ho : Int32) (o_ov : Int32) (o_pt : Nat → Int32) (o_as : Nat → Int32) (o_sk : Nat → Int64), (0 ≤ o_ov.toInt ∧ o_ov.toInt ≤ 1) ∧ (r = o_r) ∧ (u = [(a_k, (oc5 a_h a_j a_pt o_ln o_se o_lh o_br o_we o_me o_ce o_wy o_ho o_ov)), (a_h, (oc1 e_wa e_le e_st e_fo e_lc a_l a_g a_b a_s a_p a_w e_gb a_bb)), (a_g, (oc6 6 5 a_gn e_g)), (a_gn, (arI G 30 f_g)), (a_b, (oc6 5 24 a_bn e_b)), (a_bn, (arI G 120 f_b)), (a_p, (oc6 8 5 a_pn e_p)), (a_pn, (arI G 40 f_p)), (a_bb, (arJ G 24 f_bb)), (a_j, (oc2 a_as a_sk)), (a_as, (arI G 8 o_as)), (a_sk, (arJ G 50 o_sk)), (a_l, (arW G 6 f_l)), (a_lo, (oc3 e_cl a_hd a_sr a_cd)), (a_sr, (arI G n_sr f_sr)), (a_cd, (arI G n_cd f_cd)), (a_hd, (arI G n_hd f_hd)), (a_pt, (arI G 200 o_pt))]))) (g5_B G (va_A [(a_k, (oc5 a_h a_j a_pt e_ln e_se e_lh e_br e_we e_me e_ce e_wy e_ho e_ov)), (a_h, (oc1 e_wa e_le e_st e_fo e_lc a_l a_g a_b a_s a_p a_w e_gb a_bb)), (a_g, (oc6 6 5 a_gn e_g)), (a_gn, (arI G 30 f_g)), (a_b, (oc6 5 24 a_bn e_b)), (a_bn, (arI G 120 f_b)), (a_p, (oc6 8 5 a_pn e_p)), (a_pn, (arI G 40 f_p)), (a_bb, (arJ G 24 f_bb)), (a_j, (oc2 a_as a_sk)), (a_as, (arI G 8 f_as)), (a_sk, (arJ G 50 f_sk)), (a_l, (arW G 6 f_l)), (a_lo, (oc3 e_cl a_hd a_sr a_cd)), (a_sr, (arI G n_sr f_sr)), (a_cd, (arI G n_cd f_cd)), (a_hd, (arI G n_hd f_hd)), (a_pt, (arI G 200 f_pt))] sz)) (va_A [(a_k, (oc5 a_h a_j a_pt e_ln e_se e_lh e_br e_we e_me e_ce e_wy e_ho e_ov)), (a_h, (oc1 e_wa e_le e_st e_fo e_lc a_l a_g a_b a_s a_p a_w e_gb a_bb)), (a_g, (oc6 6 5 a_gn e_g)), (a_gn, (arI G 30 f_g)), (a_b, (oc6 5 24 a_bn e_b)), (a_bn, (arI G 120 f_b)), (a_p, (oc6 8 5 a_pn e_p)), (a_pn, (arI G 40 f_p)), (a_bb, (arJ G 24 f_bb)), (a_j, (oc2 a_as a_sk)), (a_as, (arI G 8 f_as)), (a_sk, (arJ G 50 f_sk)), (a_l, (arW G 6 f_l)), (a_lo, (oc3 e_cl a_hd a_sr a_cd)), (a_sr, (arI G n_sr f_sr)), (a_cd, (arI G n_cd f_cd)), (a_hd, (arI G n_hd f_hd)), (a_pt, (arI G 200 f_pt))] sz)) 0 0 (va_A [(a_k, (oc5 a_h a_j a_pt e_ln e_se e_lh e_br e_we e_me e_ce e_wy e_ho e_ov)), (a_h, (oc1 e_wa e_le e_st e_fo e_lc a_l a_g a_b a_s a_p a_w e_gb a_bb)), (a_g, (oc6 6 5 a_gn e_g)), (a_gn, (arI G 30 f_g)), (a_b, (oc6 5 24 a_bn e_b)), (a_bn, (arI G 120 f_b)), (a_p, (oc6 8 5 a_pn e_p)), (a_pn, (arI G 40 f_p)), (a_bb, (arJ G 24 f_bb)), (a_j, (oc2 a_as a_sk)), (a_as, (arI G 8 f_as)), (a_sk, (arJ G 50 f_sk)), (a_l, (arW G 6 f_l)), (a_lo, (oc3 e_cl a_hd a_sr a_cd)), (a_sr, (arI G n_sr f_sr)), (a_cd, (arI G n_cd f_cd)), (a_hd, (arI G n_hd f_hd)), (a_pt, (arI G 200 f_pt))] sz) := by
  refine Met.ofW (cc := cX5_lateness) (maxL := 7) (ret := (some .int)) (by decide) rfl ?_
  intro p e s m args below meth c s₁ B hml hv
  obtain ⟨rfl, hsz, hP, hK, hD0, hN, hT⟩ := hv
  have hx := B.exec
  have hb := B.bytes
  have hr := B.returns
  have hts : ∀ w ∈ tblG, w.before _ s = true := fun w h => atoms_spec (ws := (wsG yX5_lateness cX5_lateness 7 (some .int))) B.pre w (List.mem_cons_of_mem _ h)
  have hown : s.vm.findClass RX5 = some m.cls := findClass_of_methodNamed B.named
  have hlocks := B.notSynchronized
  subst hsz
  have hD := hD0.self (sz := s.heap.size)
  generalize hAe : va_A [(a_k, (oc5 a_h a_j a_pt e_ln e_se e_lh e_br e_we e_me e_ce e_wy e_ho e_ov)), (a_h, (oc1 e_wa e_le e_st e_fo e_lc a_l a_g a_b a_s a_p a_w e_gb a_bb)), (a_g, (oc6 6 5 a_gn e_g)), (a_gn, (arI G 30 f_g)), (a_b, (oc6 5 24 a_bn e_b)), (a_bn, (arI G 120 f_b)), (a_p, (oc6 8 5 a_pn e_p)), (a_pn, (arI G 40 f_p)), (a_bb, (arJ G 24 f_bb)), (a_j, (oc2 a_as a_sk)), (a_as, (arI G 8 f_as)), (a_sk, (arJ G 50 f_sk)), (a_l, (arW G 6 f_l)), (a_lo, (oc3 e_cl a_hd a_sr a_cd)), (a_sr, (arI G n_sr f_sr)), (a_cd, (arI G n_cd f_cd)), (a_hd, (arI G n_hd f_hd)), (a_pt, (arI G 200 f_pt))] s.heap.size = A at hD hT ⊢
  have hA : ∀ q : Nat, s.heap.size ≤ q → A q := fun q h => by rw [← hAe]; exact Or.inr h
  have hS : va_S A s.heap s.heap [] := va_S.rf
  have hP : va_P G.1 vwCl [(a_k, (oc5 a_h a_j a_pt e_ln e_se e_lh e_br e_we e_me e_ce e_wy e_ho e_ov)), (a_h, (oc1 e_wa e_le e_st e_fo e_lc a_l a_g a_b a_s a_p a_w e_gb a_bb)), (a_g, (oc6 6 5 a_gn e_g)), (a_gn, (arI G 30 f_g)), (a_b, (oc6 5 24 a_bn e_b)), (a_bn, (arI G 120 f_b)), (a_p, (oc6 8 5 a_pn e_p)), (a_pn, (arI G 40 f_p)), (a_bb, (arJ G 24 f_bb)), (a_j, (oc2 a_as a_sk)), (a_as, (arI G 8 f_as)), (a_sk, (arJ G 50 f_sk)), (a_l, (arW G 6 f_l)), (a_lo, (oc3 e_cl a_hd a_sr a_cd)), (a_sr, (arI G n_sr f_sr)), (a_cd, (arI G n_cd f_cd)), (a_hd, (arI G n_hd f_hd)), (a_pt, (arI G 200 f_pt))] s.heap := hP
  have hl := lv_entry ([.ref a_k, .int p_c, .int p_h, .int p_b]) (n := 7) (Nat.le_of_ble_eq_true rfl)
  rw [lg_entry_eq]
  generalize (lg_sl ([.ref a_k, .int p_c, .int p_h, .int p_b]) ++ List.replicate (7 - (lg_sl ([.ref a_k, .int p_c, .int p_h, .int p_b])).length) Slot.unset).toArray = ls at hl ⊢
  have hl : lv_has ls 7 [(0, .ref a_k), (1, .int p_c), (2, .int p_h), (3, .int p_b)] := hl
  refine lv_iconst (v := (-1)) hx hb dX5_lateness_0 (by decide) ?_
  refine lv_istore (lv' := [(4, .int (-1)), (0, .ref a_k), (1, .int p_c), (2, .int p_h), (3, .int p_b)]) hx hb dX5_lateness_1 hl (by decide) rfl (fun ls hl => ?_)
  refine lv_iconst (v := 0) hx hb dX5_lateness_3 (by decide) ?_
  refine lv_istore (lv' := [(5, .int 0), (4, .int (-1)), (0, .ref a_k), (1, .int p_c), (2, .int p_h), (3, .int p_b)]) hx hb dX5_lateness_4 hl (by decide) rfl (fun ls hl => ?_)
  refine g5_loop (α := (Int32) × (Int32) × (Int32) × (Int32) × (Int32) × (Int32) × (Int32) × (Int32) × (Int32) × (Int32) × (Int32) × (Nat → Int32) × (Nat → Int32) × (Nat → Int64) × (Int32)) (fun (q : (Int32) × (Int32) × (Int32) × (Int32) × (Int32) × (Int32) × (Int32) × (Int32) × (Int32) × (Int32) × (Int32) × (Nat → Int32) × (Nat → Int32) × (Nat → Int64) × (Int32)) (ls : Array Slot) (H : Heap) (locs : List Loc) => match q with | (k_d, k_l, k_se, k_lh, k_br, k_we, k_me, k_ce, k_wy, k_ho, k_ov, k_pt, k_as, k_sk, k_ln) => lv_has ls 7 [(4, .int k_l), (5, .int k_d), (0, .ref a_k), (1, .int p_c), (2, .int p_h), (3, .int p_b)] ∧ va_P G.1 vwCl [(a_k, (oc5 a_h a_j a_pt k_ln k_se k_lh k_br k_we k_me k_ce k_wy k_ho k_ov)), (a_h, (oc1 e_wa e_le e_st e_fo e_lc a_l a_g a_b a_s a_p a_w e_gb a_bb)), (a_g, (oc6 6 5 a_gn e_g)), (a_gn, (arI G 30 f_g)), (a_b, (oc6 5 24 a_bn e_b)), (a_bn, (arI G 120 f_b)), (a_p, (oc6 8 5 a_pn e_p)), (a_pn, (arI G 40 f_p)), (a_bb, (arJ G 24 f_bb)), (a_j, (oc2 a_as a_sk)), (a_as, (arI G 8 k_as)), (a_sk, (arJ G 50 k_sk)), (a_l, (arW G 6 f_l)), (a_lo, (oc3 e_cl a_hd a_sr a_cd)), (a_sr, (arI G n_sr f_sr)), (a_cd, (arI G n_cd f_cd)), (a_hd, (arI G n_hd f_hd)), (a_pt, (arI G 200 k_pt))] H ∧ va_D A [(a_k, (oc5 a_h a_j a_pt k_ln k_se k_lh k_br k_we k_me k_ce k_wy k_ho k_ov)), (a_h, (oc1 e_wa e_le e_st e_fo e_lc a_l a_g a_b a_s a_p a_w e_gb a_bb)), (a_g, (oc6 6 5 a_gn e_g)), (a_gn, (arI G 30 f_g)), (a_b, (oc6 5 24 a_bn e_b)), (a_bn, (arI G 120 f_b)), (a_p, (oc6 8 5 a_pn e_p)), (a_pn, (arI G 40 f_p)), (a_bb, (arJ G 24 f_bb)), (a_j, (oc2 a_as a_sk)), (a_as, (arI G 8 k_as)), (a_sk, (arJ G 50 k_sk)), (a_l, (arW G 6 f_l)), (a_lo, (oc3 e_cl a_hd a_sr a_cd)), (a_sr, (arI G n_sr f_sr)), (a_cd, (arI G n_cd f_cd)), (a_hd, (arI G n_hd f_hd)), (a_pt, (arI G 200 k_pt))] ∧ va_S A s.heap H locs ∧ (0 ≤ k_d.toInt ∧ k_d.toInt ≤ 4) ∧ (0 ≤ k_ov.toInt ∧ k_ov.toInt ≤ 1)) (fun (q : (Int32) × (Int32) × (Int32) × (Int32) × (Int32) × (Int32) × (Int32) × (Int32) × (Int32) × (Int32) × (Int32) × (Nat → Int32) × (Nat → Int32) × (Nat → Int64) × (Int32)) => match q with | (k_d, k_l, k_se, k_lh, k_br, k_we, k_me, k_ce, k_wy, k_ho, k_ov, k_pt, k_as, k_sk, k_ln) => Int.toNat (4 - k_d.toInt)) (0, (-1), e_se, e_lh, e_br, e_we, e_me, e_ce, e_wy, e_ho, e_ov, f_pt, f_as, f_sk, e_ln) ⟨lv_sub hl [1, 0, 2, 3, 4, 5] rfl, hP, hD, hS, ⟨by decide, by decide⟩, h_e_ov⟩ ?_
  rintro ⟨k_d, k_l, k_se, k_lh, k_br, k_we, k_me, k_ce, k_wy, k_ho, k_ov, k_pt, k_as, k_sk, k_ln⟩ ls H locs ⟨hl, hP, hD, hS, i_1, i_2⟩ ih_6_3
  have hl : lv_has ls 7 [(4, .int k_l), (5, .int k_d), (0, .ref a_k), (1, .int p_c), (2, .int p_h), (3, .int p_b)] := hl
  have i_1 : 0 ≤ k_d.toInt ∧ k_d.toInt ≤ 4 := i_1
  have i_2 : 0 ≤ k_ov.toInt ∧ k_ov.toInt ≤ 1 := i_2
  refine g5_rs [(a_k, (oc5 a_h a_j a_pt k_ln k_se k_lh k_br k_we k_me k_ce k_wy k_ho k_ov)), (a_h, (oc1 e_wa e_le e_st e_fo e_lc a_l a_g a_b a_s a_p a_w e_gb a_bb)), (a_g, (oc6 6 5 a_gn e_g)), (a_gn, (arI G 30 f_g)), (a_b, (oc6 5 24 a_bn e_b)), (a_bn, (arI G 120 f_b)), (a_p, (oc6 8 5 a_pn e_p)), (a_pn, (arI G 40 f_p)), (a_bb, (arJ G 24 f_bb)), (a_j, (oc2 a_as a_sk)), (a_as, (arI G 8 k_as)), (a_sk, (arJ G 50 k_sk)), (a_l, (arW G 6 f_l)), (a_lo, (oc3 e_cl a_hd a_sr a_cd)), (a_sr, (arI G n_sr f_sr)), (a_cd, (arI G n_cd f_cd)), (a_hd, (arI G n_hd f_hd)), (a_pt, (arI G 200 k_pt))] hP hD (fun hP hD => ?_)
  refine lv_iload hx hb dX5_lateness_6 (lv_at hl 1 rfl) ?_
  refine lv_iconst (v := 4) hx hb dX5_lateness_8 (by decide) ?_
  refine lv_icmp_ge (tgt := 60) hx hb dX5_lateness_9 (by decide) (fun c_4 => ?_) (fun c_4 => ?_)
  ·
    have i_4 : k_d.toInt ≥ 4 := by have z := g5_ge (a := k_d.toInt) (b := 4) (by rfl) (by decide) c_4; omega
    refine lv_iload hx hb dX5_lateness_60 (lv_at hl 0 rfl) ?_
    exact W.iret (v := k_l) hx hb hr (fun t ht hW => ⟨⟨k_l, [(a_k, (oc5 a_h a_j a_pt k_ln k_se k_lh k_br k_we k_me k_ce k_wy k_ho k_ov)), (a_h, (oc1 e_wa e_le e_st e_fo e_lc a_l a_g a_b a_s a_p a_w e_gb a_bb)), (a_g, (oc6 6 5 a_gn e_g)), (a_gn, (arI G 30 f_g)), (a_b, (oc6 5 24 a_bn e_b)), (a_bn, (arI G 120 f_b)), (a_p, (oc6 8 5 a_pn e_p)), (a_pn, (arI G 40 f_p)), (a_bb, (arJ G 24 f_bb)), (a_j, (oc2 a_as a_sk)), (a_as, (arI G 8 k_as)), (a_sk, (arJ G 50 k_sk)), (a_l, (arW G 6 f_l)), (a_lo, (oc3 e_cl a_hd a_sr a_cd)), (a_sr, (arI G n_sr f_sr)), (a_cd, (arI G n_cd f_cd)), (a_hd, (arI G n_hd f_hd)), (a_pt, (arI G 200 k_pt))], rfl, ⟨k_l, k_ln, k_se, k_lh, k_br, k_we, k_me, k_ce, k_wy, k_ho, k_ov, k_pt, k_as, k_sk, i_2, rfl, rfl⟩, by rw [ht]; exact hP.sub [0, 1, 2, 3, 4, 5, 6, 7, 8, 9, 10, 11, 12, 13, 14, 15, 16, 17] rfl, hD.sub [0, 1, 2, 3, 4, 5, 6, 7, 8, 9, 10, 11, 12, 13, 14, 15, 16, 17] (by decide) rfl⟩, hS.F ht⟩) hS.2.2 dX5_lateness_62
  ·
    have i_4 : k_d.toInt < 4 := by have z := g5_geN (a := k_d.toInt) (b := 4) (by rfl) (by decide) c_4; omega
    refine lv_aload_n hx hb dX5_lateness_12 rfl (lv_at hl 2 rfl) ?_
    refine lv_iload_n hx hb dX5_lateness_13 rfl (lv_at hl 3 rfl) ?_
    refine lv_iload hx hb dX5_lateness_14 (lv_at hl 1 rfl) ?_
    refine lv_iload_n hx hb dX5_lateness_16 rfl (lv_at hl 4 rfl) ?_
    refine lv_iconst (v := 0) hx hb dX5_lateness_17 (by decide) ?_
    obtain ⟨hPc, hDc, hFc⟩ := g5_sub3 (wc := [(a_k, (oc5 a_h a_j a_pt k_ln k_se k_lh k_br k_we k_me k_ce k_wy k_ho k_ov)), (a_h, (oc1 e_wa e_le e_st e_fo e_lc a_l a_g a_b a_s a_p a_w e_gb a_bb)), (a_g, (oc6 6 5 a_gn e_g)), (a_gn, (arI G 30 f_g)), (a_b, (oc6 5 24 a_bn e_b)), (a_bn, (arI G 120 f_b)), (a_p, (oc6 8 5 a_pn e_p)), (a_pn, (arI G 40 f_p)), (a_bb, (arJ G 24 f_bb)), (a_j, (oc2 a_as a_sk)), (a_as, (arI G 8 k_as)), (a_sk, (arJ G 50 k_sk)), (a_l, (arW G 6 f_l)), (a_lo, (oc3 e_cl a_hd a_sr a_cd)), (a_sr, (arI G n_sr f_sr)), (a_cd, (arI G n_cd f_cd)), (a_hd, (arI G n_hd f_hd)), (a_pt, (arI G 200 k_pt))]) hP hD hS hA [0, 1, 2, 3, 4, 5, 6, 7, 8, 9, 10, 11, 12, 13, 14, 15, 16, 17] (by decide) rfl
    refine va_callv (va_runV (As := [.int p_c, .int k_d, .int p_h, .int 0]) (rest := []) ⟨hx, hb, hml, hown, hts⟩ (k_runL l G a_k a_h a_g a_gn a_b a_bn a_p a_pn a_bb a_j a_as a_sk a_l a_lo a_sr a_cd a_hd a_pt a_s a_w H.size e_le e_st e_fo e_lc e_g e_b e_p e_cl k_ln k_se k_lh k_br k_we k_me k_ce k_wy k_ho k_ov p_c k_d p_h 0 e_wa e_gb f_g f_b f_p f_bb k_as k_sk f_l f_sr f_cd f_hd k_pt n_sr n_cd n_hd h_e_g h_e_b h_e_p h_e_cl i_2 (e_gk) (e_pk) (e_gi) (e_f) (e_a) (e_hn) (e_hs) (e_hk) (e_c)) (cwV 4 hts gV_X5_91 rfl rfl rfl hv_X5_run ⟨Nat.le_of_ble_eq_true rfl, Nat.le_of_ble_eq_true rfl⟩) (g5_preV hPc hK hDc hN hT hS hFc (ci := 5) (q0 := 0) rfl rfl) rfl rfl hl.1 rfl (lv_room (Nat.le_of_ble_eq_true rfl)) dX5_lateness_18 ⟨Nat.le_of_ble_eq_true rfl, Nat.le_of_ble_eq_true rfl⟩) hS (fun q _ h => hFc q h) hFc (fun u t H1 locs ht hvm hw hB hz1 hk1 hS => ?_)
    obtain ⟨hP1, hD1⟩ := hB
    rw [ht] at hP1
    obtain ⟨z8, z9, z10, z11, z12, z13, z14, z15, z16, z17, z18, z19, z20, i_5, i_6, i_7, rfl⟩ := hw
    have i_5 : 0 ≤ z8.toInt ∧ z8.toInt ≤ 200 := i_5
    have i_6 : 0 ≤ z17.toInt ∧ z17.toInt ≤ 1 := i_6
    have i_7 : ∀ j : Nat, (j : Int) < z8.toInt → 0 ≤ (z18 j).toInt ∧ (z18 j).toInt ≤ 1535 := i_7
    obtain ⟨hP, hD⟩ := va_join (wr := []) hP hD [0, 1, 2, 3, 4, 5, 6, 7, 8, 9, 10, 11, 12, 13, 14, 15, 16, 17] [] rfl rfl (by decide) (by decide) hk1 hFc hP1 hD1
    generalize H1 = H at hP hS ⊢
    refine g5_rs [(a_k, (oc5 a_h a_j a_pt z8 z9 z10 z11 z12 z13 z14 z15 z16 z17)), (a_h, (oc1 e_wa e_le e_st e_fo e_lc a_l a_g a_b a_s a_p a_w e_gb a_bb)), (a_g, (oc6 6 5 a_gn e_g)), (a_gn, (arI G 30 f_g)), (a_b, (oc6 5 24 a_bn e_b)), (a_bn, (arI G 120 f_b)), (a_p, (oc6 8 5 a_pn e_p)), (a_pn, (arI G 40 f_p)), (a_bb, (arJ G 24 f_bb)), (a_j, (oc2 a_as a_sk)), (a_as, (arI G 8 z19)), (a_sk, (arJ G 50 z20)), (a_l, (arW G 6 f_l)), (a_lo, (oc3 e_cl a_hd a_sr a_cd)), (a_sr, (arI G n_sr f_sr)), (a_cd, (arI G n_cd f_cd)), (a_hd, (arI G n_hd f_hd)), (a_pt, (arI G 200 z18))] hP hD (fun hP hD => ?_)
    refine lv_iload_n hx hb dX5_lateness_21 rfl (lv_at hl 4 rfl) ?_
    refine lv_aload_n hx hb dX5_lateness_22 rfl (lv_at hl 2 rfl) ?_
    refine va_get (D := G.1) (ci := 5) (v := .int z10) (C := RX5) (T := TX5) (N := 13) hx hb hts inG_X5 hown hK hP 0 rfl rfl 5 (by decide) (hts _ fl_X5_42) (fun _ h9 => h9) rfl dX5_lateness_23 ?_
    refine lv_isub hx hb dX5_lateness_26 ?_
    refine lv_istore (lv' := [(6, .int (p_h - z10)), (4, .int k_l), (5, .int k_d), (0, .ref a_k), (1, .int p_c), (2, .int p_h), (3, .int p_b)]) hx hb dX5_lateness_27 hl (by decide) rfl (fun ls hl => ?_)
    refine lv_aload_n hx hb dX5_lateness_29 rfl (lv_at hl 3 rfl) ?_
    refine va_get (D := G.1) (ci := 5) (v := .int z9) (C := RX5) (T := TX5) (N := 13) hx hb hts inG_X5 hown hK hP 0 rfl rfl 4 (by decide) (hts _ fl_X5_39) (fun _ h9 => h9) rfl dX5_lateness_30 ?_
    refine lv_iload_n hx hb dX5_lateness_33 rfl (lv_at hl 6 rfl) ?_
    refine lv_icmp_ne (tgt := 54) hx hb dX5_lateness_34 (by decide) (fun c_21 => ?_) (fun c_21 => ?_)
    ·
      have n_21 : gNe (z9.toInt) (p_b.toInt) := by have z := g5_ne (a := z9.toInt) (b := p_b.toInt) (by rfl) (by rfl) c_21; unfold gNe; omega
      refine lv_iinc (v := (k_d + 1)) (lv' := [(5, .int (k_d + 1)), (6, .int (p_h - z10)), (4, .int k_l), (0, .ref a_k), (1, .int p_c), (2, .int p_h), (3, .int p_b)]) hx hb dX5_lateness_54 hl (k := 2) rfl rfl (by decide) rfl (fun ls hl => ?_)
      have t_22 : (k_d + 1).toInt = k_d.toInt + 1 := g5_iadd (a := k_d.toInt) (b := 1) rfl (by decide) (by omega) (by omega)
      refine lv_goto (tgt := 6) hx hb dX5_lateness_57 (by decide) ?_
      exact ih_6_3 ((k_d + 1), k_l, z9, z10, z11, z12, z13, z14, z15, z16, z17, z18, z19, z20, z8) ls H locs (show Int.toNat (4 - (k_d + 1).toInt) < Int.toNat (4 - k_d.toInt) from g_up (show k_d.toInt < (k_d + 1).toInt by omega) (show k_d.toInt < 4 by omega)) ⟨lv_sub hl [2, 0, 3, 4, 5, 6] rfl, hP, hD, hS, ⟨by omega, by omega⟩, i_6⟩
    ·
      have i_21 : z9.toInt = p_b.toInt := by have z := g5_neN (a := z9.toInt) (b := p_b.toInt) (by rfl) (by rfl) c_21; omega
      refine lv_iload hx hb dX5_lateness_37 (lv_at hl 1 rfl) ?_
      refine lv_iconst (v := (-1)) hx hb dX5_lateness_39 (by decide) ?_
      refine lv_icmp_eq (tgt := 50) hx hb dX5_lateness_40 (by decide) (fun c_23 => ?_) (fun c_23 => ?_)
      ·
        have i_23 : k_l.toInt = (-1) := by have z := g5_eq (a := k_l.toInt) (b := (-1)) (by rfl) (by decide) c_23; omega
        refine lv_iload hx hb dX5_lateness_50 (lv_at hl 0 rfl) ?_
        refine lv_istore (lv' := [(4, .int (p_h - z10)), (6, .int (p_h - z10)), (5, .int k_d), (0, .ref a_k), (1, .int p_c), (2, .int p_h), (3, .int p_b)]) hx hb dX5_lateness_52 hl (by decide) rfl (fun ls hl => ?_)
        refine lv_iinc (v := (k_d + 1)) (lv' := [(5, .int (k_d + 1)), (4, .int (p_h - z10)), (6, .int (p_h - z10)), (0, .ref a_k), (1, .int p_c), (2, .int p_h), (3, .int p_b)]) hx hb dX5_lateness_54 hl (k := 2) rfl rfl (by decide) rfl (fun ls hl => ?_)
        have t_24 : (k_d + 1).toInt = k_d.toInt + 1 := g5_iadd (a := k_d.toInt) (b := 1) rfl (by decide) (by omega) (by omega)
        refine lv_goto (tgt := 6) hx hb dX5_lateness_57 (by decide) ?_
        exact ih_6_3 ((k_d + 1), (p_h - z10), z9, z10, z11, z12, z13, z14, z15, z16, z17, z18, z19, z20, z8) ls H locs (show Int.toNat (4 - (k_d + 1).toInt) < Int.toNat (4 - k_d.toInt) from g_up (show k_d.toInt < (k_d + 1).toInt by omega) (show k_d.toInt < 4 by omega)) ⟨lv_sub hl [1, 0, 3, 4, 5, 6] rfl, hP, hD, hS, ⟨by omega, by omega⟩, i_6⟩
      ·
        have n_23 : gNe (k_l.toInt) ((-1)) := by have z := g5_eqN (a := k_l.toInt) (b := (-1)) (by rfl) (by decide) c_23; unfold gNe; omega
        refine lv_iload hx hb dX5_lateness_43 (lv_at hl 0 rfl) ?_
        refine lv_iload hx hb dX5_lateness_45 (lv_at hl 1 rfl) ?_
        refine lv_icmp_ge (tgt := 54) hx hb dX5_lateness_47 (by decide) (fun c_25 => ?_) (fun c_25 => ?_)
        ·
          have i_25 : (p_h - z10).toInt ≥ k_l.toInt := by have z := g5_ge (a := (p_h - z10).toInt) (b := k_l.toInt) (by rfl) (by rfl) c_25; omega
          refine lv_iinc (v := (k_d + 1)) (lv' := [(5, .int (k_d + 1)), (6, .int (p_h - z10)), (4, .int k_l), (0, .ref a_k), (1, .int p_c), (2, .int p_h), (3, .int p_b)]) hx hb dX5_lateness_54 hl (k := 2) rfl rfl (by decide) rfl (fun ls hl => ?_)
          have t_26 : (k_d + 1).toInt = k_d.toInt + 1 := g5_iadd (a := k_d.toInt) (b := 1) rfl (by decide) (by omega) (by omega)
          refine lv_goto (tgt := 6) hx hb dX5_lateness_57 (by decide) ?_
          exact ih_6_3 ((k_d + 1), k_l, z9, z10, z11, z12, z13, z14, z15, z16, z17, z18, z19, z20, z8) ls H locs (show Int.toNat (4 - (k_d + 1).toInt) < Int.toNat (4 - k_d.toInt) from g_up (show k_d.toInt < (k_d + 1).toInt by omega) (show k_d.toInt < 4 by omega)) ⟨lv_sub hl [2, 0, 3, 4, 5, 6] rfl, hP, hD, hS, ⟨by omega, by omega⟩, i_6⟩
        ·
          have i_25 : (p_h - z10).toInt < k_l.toInt := by have z := g5_geN (a := (p_h - z10).toInt) (b := k_l.toInt) (by rfl) (by rfl) c_25; omega
          refine lv_iload hx hb dX5_lateness_50 (lv_at hl 0 rfl) ?_
          refine lv_istore (lv' := [(4, .int (p_h - z10)), (6, .int (p_h - z10)), (5, .int k_d), (0, .ref a_k), (1, .int p_c), (2, .int p_h), (3, .int p_b)]) hx hb dX5_lateness_52 hl (by decide) rfl (fun ls hl => ?_)
          refine lv_iinc (v := (k_d + 1)) (lv' := [(5, .int (k_d + 1)), (4, .int (p_h - z10)), (6, .int (p_h - z10)), (0, .ref a_k), (1, .int p_c), (2, .int p_h), (3, .int p_b)]) hx hb dX5_lateness_54 hl (k := 2) rfl rfl (by decide) rfl (fun ls hl => ?_)
          have t_27 : (k_d + 1).toInt = k_d.toInt + 1 := g5_iadd (a := k_d.toInt) (b := 1) rfl (by decide) (by omega) (by omega)
          refine lv_goto (tgt := 6) hx hb dX5_lateness_57 (by decide) ?_
          exact ih_6_3 ((k_d + 1), (p_h - z10), z9, z10, z11, z12, z13, z14, z15, z16, z17, z18, z19, z20, z8) ls H locs (show Int.toNat (4 - (k_d + 1).toInt) < Int.toNat (4 - k_d.toInt) from g_up (show k_d.toInt < (k_d + 1).toInt by omega) (show k_d.toInt < 4 by omega)) ⟨lv_sub hl [1, 0, 3, 4, 5, 6] rfl, hP, hD, hS, ⟨by omega, by omega⟩, i_6⟩
theorem dgX5_hasPoint_0 : ∀ r ∈ ([(0, (.iconst 0, 1)), (1, (.istore_n 2, 1)), (2, (.iload_n 2, 1)), (3, (.aload_n 0, 1)), (4, (.getfield 36, 3)), (7, (.if_icmp .ge 21, 3)), (10, (.aload_n 0, 1)), (11, (.getfield 18, 3)), (14, (.iload_n 2, 1)), (15, (.iaload, 1)), (16, (.iload_n 1, 1)), (17, (.if_icmp .ne 5, 3)), (20, (.iconst 1, 1)), (21, (.ireturn, 1)), (22, (.iinc 2 1, 3)), (25, (.goto (-23), 3)), (28, (.iconst 0, 1)), (29, (.ireturn, 1))] : List (Nat × (Instr × Nat))), decode cX5_hasPoint r.1 = .ok r.2 := by decide +kernel
theorem dX5_hasPoint_0 : decode cX5_hasPoint 0 = .ok (.iconst 0, 1) := dgX5_hasPoint_0 (0, (.iconst 0, 1)) (List.mem_of_getElem? (i := 0) rfl)
theorem dX5_hasPoint_1 : decode cX5_hasPoint 1 = .ok (.istore_n 2, 1) := dgX5_hasPoint_0 (1, (.istore_n 2, 1)) (List.mem_of_getElem? (i := 1) rfl)
theorem dX5_hasPoint_2 : decode cX5_hasPoint 2 = .ok (.iload_n 2, 1) := dgX5_hasPoint_0 (2, (.iload_n 2, 1)) (List.mem_of_getElem? (i := 2) rfl)
theorem dX5_hasPoint_3 : decode cX5_hasPoint 3 = .ok (.aload_n 0, 1) := dgX5_hasPoint_0 (3, (.aload_n 0, 1)) (List.mem_of_getElem? (i := 3) rfl)
theorem dX5_hasPoint_4 : decode cX5_hasPoint 4 = .ok (.getfield 36, 3) := dgX5_hasPoint_0 (4, (.getfield 36, 3)) (List.mem_of_getElem? (i := 4) rfl)
theorem dX5_hasPoint_7 : decode cX5_hasPoint 7 = .ok (.if_icmp .ge 21, 3) := dgX5_hasPoint_0 (7, (.if_icmp .ge 21, 3)) (List.mem_of_getElem? (i := 5) rfl)
theorem dX5_hasPoint_10 : decode cX5_hasPoint 10 = .ok (.aload_n 0, 1) := dgX5_hasPoint_0 (10, (.aload_n 0, 1)) (List.mem_of_getElem? (i := 6) rfl)
theorem dX5_hasPoint_11 : decode cX5_hasPoint 11 = .ok (.getfield 18, 3) := dgX5_hasPoint_0 (11, (.getfield 18, 3)) (List.mem_of_getElem? (i := 7) rfl)
theorem dX5_hasPoint_14 : decode cX5_hasPoint 14 = .ok (.iload_n 2, 1) := dgX5_hasPoint_0 (14, (.iload_n 2, 1)) (List.mem_of_getElem? (i := 8) rfl)
theorem dX5_hasPoint_15 : decode cX5_hasPoint 15 = .ok (.iaload, 1) := dgX5_hasPoint_0 (15, (.iaload, 1)) (List.mem_of_getElem? (i := 9) rfl)
theorem dX5_hasPoint_16 : decode cX5_hasPoint 16 = .ok (.iload_n 1, 1) := dgX5_hasPoint_0 (16, (.iload_n 1, 1)) (List.mem_of_getElem? (i := 10) rfl)
theorem dX5_hasPoint_17 : decode cX5_hasPoint 17 = .ok (.if_icmp .ne 5, 3) := dgX5_hasPoint_0 (17, (.if_icmp .ne 5, 3)) (List.mem_of_getElem? (i := 11) rfl)
theorem dX5_hasPoint_20 : decode cX5_hasPoint 20 = .ok (.iconst 1, 1) := dgX5_hasPoint_0 (20, (.iconst 1, 1)) (List.mem_of_getElem? (i := 12) rfl)
theorem dX5_hasPoint_21 : decode cX5_hasPoint 21 = .ok (.ireturn, 1) := dgX5_hasPoint_0 (21, (.ireturn, 1)) (List.mem_of_getElem? (i := 13) rfl)
theorem dX5_hasPoint_22 : decode cX5_hasPoint 22 = .ok (.iinc 2 1, 3) := dgX5_hasPoint_0 (22, (.iinc 2 1, 3)) (List.mem_of_getElem? (i := 14) rfl)
theorem dX5_hasPoint_25 : decode cX5_hasPoint 25 = .ok (.goto (-23), 3) := dgX5_hasPoint_0 (25, (.goto (-23), 3)) (List.mem_of_getElem? (i := 15) rfl)
theorem dX5_hasPoint_28 : decode cX5_hasPoint 28 = .ok (.iconst 0, 1) := dgX5_hasPoint_0 (28, (.iconst 0, 1)) (List.mem_of_getElem? (i := 16) rfl)
theorem dX5_hasPoint_29 : decode cX5_hasPoint 29 = .ok (.ireturn, 1) := dgX5_hasPoint_0 (29, (.ireturn, 1)) (List.mem_of_getElem? (i := 17) rfl)
set_option maxHeartbeats 4000000 in
set_option maxRecDepth 100000 in
theorem s_hasPoint (l : Launch) (G : g5_G) (a_k a_pt a_h a_j : Nat) (sz : Nat) (e_ln : Int32) (e_se : Int32) (e_lh : Int32) (e_br : Int32) (e_we : Int32) (e_me : Int32) (e_ce : Int32) (e_wy : Int32) (e_ho : Int32) (e_ov : Int32) (p_p : Int32) (f_pt : Nat → Int32) (h_e_ln : 0 ≤ e_ln.toInt ∧ e_ln.toInt ≤ 200) (h_e_ov : 0 ≤ e_ov.toInt ∧ e_ov.toInt ≤ 1) : Met l yX5_hasPoint (wsG yX5_hasPoint cX5_hasPoint 3 (some .boolean)) ({ frames := 0, cells := 0, slots := 0, locals := 0 }) (va_Pc [.ref a_k, .int p_p] (g5_P G [(a_k, (oc5 a_h a_j a_pt e_ln e_se e_lh e_br e_we e_me e_ce e_wy e_ho e_ov)), (a_pt, (arI G 200 f_pt))] sz)) (va_Qi (fun (r : Int32) (u : va_W) => (∃ (o_r : Int32), (0 ≤ o_r.toInt ∧ o_r.toInt ≤ 1) ∧ (r = o_r) ∧ (u = [(a_k, (oc5 a_h a_j a_pt e_ln e_se e_lh e_br e_we e_me e_ce e_wy e_ho e_ov)), (a_pt, (arI G 200 f_pt))]))) (g5_B G (va_A [(a_k, (oc5 a_h a_j a_pt e_ln e_se e_lh e_br e_we e_me e_ce e_wy e_ho e_ov)), (a_pt, (arI G 200 f_pt))] sz)) (va_A [(a_k, (oc5 a_h a_j a_pt e_ln e_se e_lh e_br e_we e_me e_ce e_wy e_ho e_ov)), (a_pt, (arI G 200 f_pt))] sz)) 0 0 (va_A [(a_k, (oc5 a_h a_j a_pt e_ln e_se e_lh e_br e_we e_me e_ce e_wy e_ho e_ov)), (a_pt, (arI G 200 f_pt))] sz) := by
  refine Met.ofW (cc := cX5_hasPoint) (maxL := 3) (ret := (some .boolean)) (by decide) rfl ?_
  intro p e s m args below meth c s₁ B hml hv
  obtain ⟨rfl, hsz, hP, hK, hD0, hN, hT⟩ := hv
  have hx := B.exec
  have hb := B.bytes
  have hr := B.returns
  have hts : ∀ w ∈ tblG, w.before _ s = true := fun w h => atoms_spec (ws := (wsG yX5_hasPoint cX5_hasPoint 3 (some .boolean))) B.pre w (List.mem_cons_of_mem _ h)
  have hown : s.vm.findClass RX5 = some m.cls := findClass_of_methodNamed B.named
  have hlocks := B.notSynchronized
  subst hsz
  have hD := hD0.self (sz := s.heap.size)
  generalize hAe : va_A [(a_k, (oc5 a_h a_j a_pt e_ln e_se e_lh e_br e_we e_me e_ce e_wy e_ho e_ov)), (a_pt, (arI G 200 f_pt))] s.heap.size = A at hD hT ⊢
  have hA : ∀ q : Nat, s.heap.size ≤ q → A q := fun q h => by rw [← hAe]; exact Or.inr h
  have hS : va_S A s.heap s.heap [] := va_S.rf
  have hP : va_P G.1 vwCl [(a_k, (oc5 a_h a_j a_pt e_ln e_se e_lh e_br e_we e_me e_ce e_wy e_ho e_ov)), (a_pt, (arI G 200 f_pt))] s.heap := hP
  have hl := lv_entry ([.ref a_k, .int p_p]) (n := 3) (Nat.le_of_ble_eq_true rfl)
  rw [lg_entry_eq]
  generalize (lg_sl ([.ref a_k, .int p_p]) ++ List.replicate (3 - (lg_sl ([.ref a_k, .int p_p])).length) Slot.unset).toArray = ls at hl ⊢
  have hl : lv_has ls 3 [(0, .ref a_k), (1, .int p_p)] := hl
  refine lv_iconst (v := 0) hx hb dX5_hasPoint_0 (by decide) ?_
  refine lv_istore_n (lv' := [(2, .int 0), (0, .ref a_k), (1, .int p_p)]) hx hb dX5_hasPoint_1 rfl hl (by decide) rfl (fun ls hl => ?_)
  refine g5_loop (α := (Int32)) (fun (k_i : (Int32)) (ls : Array Slot) (H : Heap) (locs : List Loc) => lv_has ls 3 [(2, .int k_i), (0, .ref a_k), (1, .int p_p)] ∧ va_P G.1 vwCl [(a_k, (oc5 a_h a_j a_pt e_ln e_se e_lh e_br e_we e_me e_ce e_wy e_ho e_ov)), (a_pt, (arI G 200 f_pt))] H ∧ va_D A [(a_k, (oc5 a_h a_j a_pt e_ln e_se e_lh e_br e_we e_me e_ce e_wy e_ho e_ov)), (a_pt, (arI G 200 f_pt))] ∧ va_S A s.heap H locs ∧ (0 ≤ k_i.toInt ∧ k_i.toInt ≤ 200)) (fun (k_i : (Int32)) => Int.toNat (200 - k_i.toInt)) 0 ⟨lv_sub hl [0, 1, 2] rfl, hP, hD, hS, ⟨by decide, by decide⟩⟩ ?_
  rintro k_i ls H locs ⟨hl, hP, hD, hS, i_1⟩ ih_2_2
  have hl : lv_has ls 3 [(2, .int k_i), (0, .ref a_k), (1, .int p_p)] := hl
  have i_1 : 0 ≤ k_i.toInt ∧ k_i.toInt ≤ 200 := i_1
  refine g5_rs [(a_k, (oc5 a_h a_j a_pt e_ln e_se e_lh e_br e_we e_me e_ce e_wy e_ho e_ov)), (a_pt, (arI G 200 f_pt))] hP hD (fun hP hD => ?_)
  refine lv_iload_n hx hb dX5_hasPoint_2 rfl (lv_at hl 0 rfl) ?_
  refine lv_aload_n hx hb dX5_hasPoint_3 rfl (lv_at hl 1 rfl) ?_
  refine va_get (D := G.1) (ci := 5) (v := .int e_ln) (C := RX5) (T := TX5) (N := 13) hx hb hts inG_X5 hown hK hP 0 rfl rfl 3 (by decide) (hts _ fl_X5_36) (fun _ h9 => h9) rfl dX5_hasPoint_4 ?_
  refine lv_icmp_ge (tgt := 28) hx hb dX5_hasPoint_7 (by decide) (fun c_3 => ?_) (fun c_3 => ?_)
  ·
    have i_3 : k_i.toInt ≥ e_ln.toInt := by have z := g5_ge (a := k_i.toInt) (b := e_ln.toInt) (by rfl) (by rfl) c_3; omega
    refine lv_iconst (v := 0) hx hb dX5_hasPoint_28 (by decide) ?_
    exact W.zret (v := 0) hx hb hr rfl (fun t ht hW => ⟨⟨0, [(a_k, (oc5 a_h a_j a_pt e_ln e_se e_lh e_br e_we e_me e_ce e_wy e_ho e_ov)), (a_pt, (arI G 200 f_pt))], rfl, ⟨0, ⟨by have zc_o_r : (0 : Int32).toInt = 0 := (by decide); omega, by have zc_o_r : (0 : Int32).toInt = 0 := (by decide); omega⟩, rfl, rfl⟩, by rw [ht]; exact hP.sub [0, 1] rfl, hD.sub [0, 1] (by decide) rfl⟩, hS.F ht⟩) hS.2.2 dX5_hasPoint_29
  ·
    have i_3 : k_i.toInt < e_ln.toInt := by have z := g5_geN (a := k_i.toInt) (b := e_ln.toInt) (by rfl) (by rfl) c_3; omega
    refine lv_aload_n hx hb dX5_hasPoint_10 rfl (lv_at hl 1 rfl) ?_
    refine va_get (D := G.1) (ci := 5) (v := .ref a_pt) (C := RX5) (T := TX5) (N := 13) hx hb hts inG_X5 hown hK hP 0 rfl rfl 2 (by decide) (hts _ fl_X5_18) (fun _ h9 => h9) rfl dX5_hasPoint_11 ?_
    refine lv_iload_n hx hb dX5_hasPoint_14 rfl (lv_at hl 0 rfl) ?_
    refine va_iald hx hb hK hP 1 0 rfl rfl (i := k_i) (vp_in_iff.mpr ⟨by omega, by omega⟩) dX5_hasPoint_15 ?_
    refine lv_iload_n hx hb dX5_hasPoint_16 rfl (lv_at hl 2 rfl) ?_
    refine lv_icmp_ne (tgt := 22) hx hb dX5_hasPoint_17 (by decide) (fun c_4 => ?_) (fun c_4 => ?_)
    ·
      have n_4 : gNe ((f_pt k_i.toNatClampNeg).toInt) (p_p.toInt) := by have z := g5_ne (a := (f_pt k_i.toNatClampNeg).toInt) (b := p_p.toInt) (by rfl) (by rfl) c_4; unfold gNe; omega
      refine lv_iinc (v := (k_i + 1)) (lv' := [(2, .int (k_i + 1)), (0, .ref a_k), (1, .int p_p)]) hx hb dX5_hasPoint_22 hl (k := 0) rfl rfl (by decide) rfl (fun ls hl => ?_)
      have t_5 : (k_i + 1).toInt = k_i.toInt + 1 := g5_iadd (a := k_i.toInt) (b := 1) rfl (by decide) (by omega) (by omega)
      refine lv_goto (tgt := 2) hx hb dX5_hasPoint_25 (by decide) ?_
      exact ih_2_2 (k_i + 1) ls H locs (show Int.toNat (200 - (k_i + 1).toInt) < Int.toNat (200 - k_i.toInt) from g_up (show k_i.toInt < (k_i + 1).toInt by omega) (show k_i.toInt < 200 by omega)) ⟨lv_sub hl [0, 1, 2] rfl, hP, hD, hS, ⟨by omega, by omega⟩⟩
    ·
      have i_4 : (f_pt k_i.toNatClampNeg).toInt = p_p.toInt := by have z := g5_neN (a := (f_pt k_i.toNatClampNeg).toInt) (b := p_p.toInt) (by rfl) (by rfl) c_4; omega
      refine lv_iconst (v := 1) hx hb dX5_hasPoint_20 (by decide) ?_
      exact W.zret (v := 1) hx hb hr rfl (fun t ht hW => ⟨⟨1, [(a_k, (oc5 a_h a_j a_pt e_ln e_se e_lh e_br e_we e_me e_ce e_wy e_ho e_ov)), (a_pt, (arI G 200 f_pt))], rfl, ⟨1, ⟨by have zc_o_r : (1 : Int32).toInt = 1 := (by decide); omega, by have zc_o_r : (1 : Int32).toInt = 1 := (by decide); omega⟩, rfl, rfl⟩, by rw [ht]; exact hP.sub [0, 1] rfl, hD.sub [0, 1] (by decide) rfl⟩, hS.F ht⟩) hS.2.2 dX5_hasPoint_21
theorem dgJ7_fill_d0a16_0 : ∀ r ∈ ([(0, (.iconst 0, 1)), (1, (.istore_n 3, 1)), (2, (.aload_n 0, 1)), (3, (.arraylength, 1)), (4, (.istore 4, 2)), (6, (.iload_n 3, 1)), (7, (.iload 4, 2)), (9, (.if_icmp .ge 13, 3)), (12, (.aload_n 0, 1)), (13, (.iload_n 3, 1)), (14, (.lload_n 1, 1)), (15, (.lastore, 1)), (16, (.iinc 3 1, 3)), (19, (.goto (-13), 3)), (22, (.return_, 1))] : List (Nat × (Instr × Nat))), decode cJ7_fill_d0a16 r.1 = .ok r.2 := by decide +kernel
theorem dJ7_fill_d0a16_0 : decode cJ7_fill_d0a16 0 = .ok (.iconst 0, 1) := dgJ7_fill_d0a16_0 (0, (.iconst 0, 1)) (List.mem_of_getElem? (i := 0) rfl)
theorem dJ7_fill_d0a16_1 : decode cJ7_fill_d0a16 1 = .ok (.istore_n 3, 1) := dgJ7_fill_d0a16_0 (1, (.istore_n 3, 1)) (List.mem_of_getElem? (i := 1) rfl)
theorem dJ7_fill_d0a16_2 : decode cJ7_fill_d0a16 2 = .ok (.aload_n 0, 1) := dgJ7_fill_d0a16_0 (2, (.aload_n 0, 1)) (List.mem_of_getElem? (i := 2) rfl)
theorem dJ7_fill_d0a16_3 : decode cJ7_fill_d0a16 3 = .ok (.arraylength, 1) := dgJ7_fill_d0a16_0 (3, (.arraylength, 1)) (List.mem_of_getElem? (i := 3) rfl)
theorem dJ7_fill_d0a16_4 : decode cJ7_fill_d0a16 4 = .ok (.istore 4, 2) := dgJ7_fill_d0a16_0 (4, (.istore 4, 2)) (List.mem_of_getElem? (i := 4) rfl)
theorem dJ7_fill_d0a16_6 : decode cJ7_fill_d0a16 6 = .ok (.iload_n 3, 1) := dgJ7_fill_d0a16_0 (6, (.iload_n 3, 1)) (List.mem_of_getElem? (i := 5) rfl)
theorem dJ7_fill_d0a16_7 : decode cJ7_fill_d0a16 7 = .ok (.iload 4, 2) := dgJ7_fill_d0a16_0 (7, (.iload 4, 2)) (List.mem_of_getElem? (i := 6) rfl)
theorem dJ7_fill_d0a16_9 : decode cJ7_fill_d0a16 9 = .ok (.if_icmp .ge 13, 3) := dgJ7_fill_d0a16_0 (9, (.if_icmp .ge 13, 3)) (List.mem_of_getElem? (i := 7) rfl)
theorem dJ7_fill_d0a16_12 : decode cJ7_fill_d0a16 12 = .ok (.aload_n 0, 1) := dgJ7_fill_d0a16_0 (12, (.aload_n 0, 1)) (List.mem_of_getElem? (i := 8) rfl)
theorem dJ7_fill_d0a16_13 : decode cJ7_fill_d0a16 13 = .ok (.iload_n 3, 1) := dgJ7_fill_d0a16_0 (13, (.iload_n 3, 1)) (List.mem_of_getElem? (i := 9) rfl)
theorem dJ7_fill_d0a16_14 : decode cJ7_fill_d0a16 14 = .ok (.lload_n 1, 1) := dgJ7_fill_d0a16_0 (14, (.lload_n 1, 1)) (List.mem_of_getElem? (i := 10) rfl)
theorem dJ7_fill_d0a16_15 : decode cJ7_fill_d0a16 15 = .ok (.lastore, 1) := dgJ7_fill_d0a16_0 (15, (.lastore, 1)) (List.mem_of_getElem? (i := 11) rfl)
theorem dJ7_fill_d0a16_16 : decode cJ7_fill_d0a16 16 = .ok (.iinc 3 1, 3) := dgJ7_fill_d0a16_0 (16, (.iinc 3 1, 3)) (List.mem_of_getElem? (i := 12) rfl)
theorem dJ7_fill_d0a16_19 : decode cJ7_fill_d0a16 19 = .ok (.goto (-13), 3) := dgJ7_fill_d0a16_0 (19, (.goto (-13), 3)) (List.mem_of_getElem? (i := 13) rfl)
theorem dJ7_fill_d0a16_22 : decode cJ7_fill_d0a16 22 = .ok (.return_, 1) := dgJ7_fill_d0a16_0 (22, (.return_, 1)) (List.mem_of_getElem? (i := 14) rfl)
set_option maxHeartbeats 4000000 in
set_option maxRecDepth 100000 in
theorem k_fillJ24 (l : Launch) (G : g5_G) (a_0 : Nat) (sz : Nat) (p_v : Int64) (f_a : Nat → Int64) : Met l yJ7_fill_d0a16 (wsG yJ7_fill_d0a16 cJ7_fill_d0a16 5 none) ({ frames := 0, cells := 0, slots := 0, locals := 0 }) (va_Pc [.ref a_0, .long p_v] (g5_P G [(a_0, (arJ G 24 f_a))] sz)) (va_Qv (fun (u : va_W) => ((u = [(a_0, (arJ G 24 (fun _ => p_v)))]))) (g5_B G (va_A [(a_0, (arJ G 24 f_a))] sz)) (va_A [(a_0, (arJ G 24 f_a))] sz)) 0 0 (va_A [(a_0, (arJ G 24 f_a))] sz) := by
  refine Met.ofW (cc := cJ7_fill_d0a16) (maxL := 5) (ret := none) (by decide) rfl ?_
  intro p e s m args below meth c s₁ B hml hv
  obtain ⟨rfl, hsz, hP, hK, hD0, hN, hT⟩ := hv
  have hx := B.exec
  have hb := B.bytes
  have hr := B.returns
  have hts : ∀ w ∈ tblG, w.before _ s = true := fun w h => atoms_spec (ws := (wsG yJ7_fill_d0a16 cJ7_fill_d0a16 5 none)) B.pre w (List.mem_cons_of_mem _ h)
  have hown : s.vm.findClass RJ7 = some m.cls := findClass_of_methodNamed B.named
  have hlocks := B.notSynchronized
  subst hsz
  have hD := hD0.self (sz := s.heap.size)
  generalize hAe : va_A [(a_0, (arJ G 24 f_a))] s.heap.size = A at hD hT ⊢
  have hA : ∀ q : Nat, s.heap.size ≤ q → A q := fun q h => by rw [← hAe]; exact Or.inr h
  have hS : va_S A s.heap s.heap [] := va_S.rf
  have hP : va_P G.1 vwCl [(a_0, (arJ G 24 f_a))] s.heap := hP
  have hl := lv_entry ([.ref a_0, .long p_v]) (n := 5) (Nat.le_of_ble_eq_true rfl)
  rw [lg_entry_eq]
  generalize (lg_sl ([.ref a_0, .long p_v]) ++ List.replicate (5 - (lg_sl ([.ref a_0, .long p_v])).length) Slot.unset).toArray = ls at hl ⊢
  have hl : lv_has ls 5 [(0, .ref a_0), (1, .long p_v)] := hl
  refine lv_iconst (v := 0) hx hb dJ7_fill_d0a16_0 (by decide) ?_
  refine lv_istore_n (lv' := [(3, .int 0), (0, .ref a_0), (1, .long p_v)]) hx hb dJ7_fill_d0a16_1 rfl hl (by decide) rfl (fun ls hl => ?_)
  refine lv_aload_n hx hb dJ7_fill_d0a16_2 rfl (lv_at hl 1 rfl) ?_
  refine va_alen hx hb hK hP 0 1 rfl rfl (v := 24) (by show Int32.ofNat 24 = 24; decide) dJ7_fill_d0a16_3 ?_
  refine lv_istore (lv' := [(4, .int 24), (3, .int 0), (0, .ref a_0), (1, .long p_v)]) hx hb dJ7_fill_d0a16_4 hl (by decide) rfl (fun ls hl => ?_)
  refine g5_loop (α := (Int32) × (Nat → Int64)) (fun (q : (Int32) × (Nat → Int64)) (ls : Array Slot) (H : Heap) (locs : List Loc) => match q with | (k_i, k_f) => lv_has ls 5 [(3, .int k_i), (4, .int 24), (0, .ref a_0), (1, .long p_v)] ∧ va_P G.1 vwCl [(a_0, (arJ G 24 k_f))] H ∧ va_D A [(a_0, (arJ G 24 k_f))] ∧ va_S A s.heap H locs ∧ (0 ≤ k_i.toInt ∧ k_i.toInt ≤ 24) ∧ (∀ j : Nat, (j : Int) < k_i.toInt → k_f j = (fun _ => p_v) j)) (fun (q : (Int32) × (Nat → Int64)) => match q with | (k_i, k_f) => Int.toNat (24 - k_i.toInt)) (0, f_a) ⟨lv_sub hl [1, 0, 2, 3] rfl, hP, hD, hS, ⟨by decide, by decide⟩, fun j h => absurd h (by have z : (0 : Int32).toInt = 0 := (by decide); omega)⟩ ?_
  rintro ⟨k_i, k_f⟩ ls H locs ⟨hl, hP, hD, hS, i_1, i_2⟩ ih_6_3
  have hl : lv_has ls 5 [(3, .int k_i), (4, .int 24), (0, .ref a_0), (1, .long p_v)] := hl
  have i_1 : 0 ≤ k_i.toInt ∧ k_i.toInt ≤ 24 := i_1
  have i_2 : ∀ j : Nat, (j : Int) < k_i.toInt → k_f j = (fun _ => p_v) j := i_2
  refine g5_rs [(a_0, (arJ G 24 k_f))] hP hD (fun hP hD => ?_)
  refine lv_iload_n hx hb dJ7_fill_d0a16_6 rfl (lv_at hl 0 rfl) ?_
  refine lv_iload hx hb dJ7_fill_d0a16_7 (lv_at hl 1 rfl) ?_
  refine lv_icmp_ge (tgt := 22) hx hb dJ7_fill_d0a16_9 (by decide) (fun c_4 => ?_) (fun c_4 => ?_)
  ·
    have i_4 : k_i.toInt ≥ 24 := by have z := g5_ge (a := k_i.toInt) (b := 24) (by rfl) (by decide) c_4; omega
    obtain ⟨hP, hD⟩ := g5_cvJ hP hD 0 (f := k_f) (g := (fun _ => p_v)) rfl (fun j h => i_2 j (by omega))
    refine g5_rs [(a_0, (arJ G 24 (fun _ => p_v)))] hP hD (fun hP hD => ?_)
    exact W.vret hx hb hr (fun t ht hW => ⟨⟨[(a_0, (arJ G 24 (fun _ => p_v)))], rfl, rfl, by rw [ht]; exact hP.sub [0] rfl, hD.sub [0] (by decide) rfl⟩, hS.F ht⟩) hS.2.2 dJ7_fill_d0a16_22
  ·
    have i_4 : k_i.toInt < 24 := by have z := g5_geN (a := k_i.toInt) (b := 24) (by rfl) (by decide) c_4; omega
    refine lv_aload_n hx hb dJ7_fill_d0a16_12 rfl (lv_at hl 2 rfl) ?_
    refine lv_iload_n hx hb dJ7_fill_d0a16_13 rfl (lv_at hl 0 rfl) ?_
    refine lv_lload_n hx hb dJ7_fill_d0a16_14 rfl (lv_at hl 3 rfl) ?_
    refine va_last hx hb hK hP hD hS 0 1 rfl rfl (i := k_i) (x := p_v) (vp_in_iff.mpr ⟨by omega, by omega⟩) dJ7_fill_d0a16_15 (fun H locs hP hD hS => ?_)
    refine g5_rs [(a_0, (arJ G 24 (vp_updL k_f k_i.toNatClampNeg p_v)))] hP hD (fun hP hD => ?_)
    refine lv_iinc (v := (k_i + 1)) (lv' := [(3, .int (k_i + 1)), (4, .int 24), (0, .ref a_0), (1, .long p_v)]) hx hb dJ7_fill_d0a16_16 hl (k := 0) rfl rfl (by decide) rfl (fun ls hl => ?_)
    have t_5 : (k_i + 1).toInt = k_i.toInt + 1 := g5_iadd (a := k_i.toInt) (b := 1) rfl (by decide) (by omega) (by omega)
    refine lv_goto (tgt := 6) hx hb dJ7_fill_d0a16_19 (by decide) ?_
    exact ih_6_3 ((k_i + 1), (vp_updL k_f k_i.toNatClampNeg p_v)) ls H locs (show Int.toNat (24 - (k_i + 1).toInt) < Int.toNat (24 - k_i.toInt) from g_up (show k_i.toInt < (k_i + 1).toInt by omega) (show k_i.toInt < 24 by omega)) ⟨lv_sub hl [0, 1, 2, 3] rfl, hP, hD, hS, ⟨by omega, by omega⟩, g5_fillJ i_2 (by omega) (by omega) rfl⟩
theorem dgX10_addPoints_0 : ∀ r ∈ ([(0, (.iconst 0, 1)), (1, (.istore_n 1, 1)), (2, (.iload_n 1, 1)), (3, (.aload_n 0, 1)), (4, (.getfield 19, 3)), (7, (.getfield 54, 3)), (10, (.if_icmp .ge 43, 3)), (13, (.aload_n 0, 1)), (14, (.getfield 9, 3)), (17, (.aload_n 0, 1)), (18, (.getfield 19, 3)), (21, (.getfield 57, 3)), (24, (.iload_n 1, 1)), (25, (.iaload, 1)), (26, (.bipush 64, 2)), (28, (.idiv, 1)), (29, (.dup2, 1)), (30, (.laload, 1)), (31, (.lconst 1, 1)), (32, (.aload_n 0, 1)), (33, (.getfield 19, 3)), (36, (.getfield 57, 3)), (39, (.iload_n 1, 1)), (40, (.iaload, 1)), (41, (.bipush 64, 2)), (43, (.irem, 1)), (44, (.lshl, 1)), (45, (.lor, 1)), (46, (.lastore, 1)), (47, (.iinc 1 1, 3)), (50, (.goto (-48), 3)), (53, (.return_, 1))] : List (Nat × (Instr × Nat))), decode cX10_addPoints r.1 = .ok r.2 := by decide +kernel
theorem dX10_addPoints_0 : decode cX10_addPoints 0 = .ok (.iconst 0, 1) := dgX10_addPoints_0 (0, (.iconst 0, 1)) (List.mem_of_getElem? (i := 0) rfl)
theorem dX10_addPoints_1 : decode cX10_addPoints 1 = .ok (.istore_n 1, 1) := dgX10_addPoints_0 (1, (.istore_n 1, 1)) (List.mem_of_getElem? (i := 1) rfl)
theorem dX10_addPoints_2 : decode cX10_addPoints 2 = .ok (.iload_n 1, 1) := dgX10_addPoints_0 (2, (.iload_n 1, 1)) (List.mem_of_getElem? (i := 2) rfl)
theorem dX10_addPoints_3 : decode cX10_addPoints 3 = .ok (.aload_n 0, 1) := dgX10_addPoints_0 (3, (.aload_n 0, 1)) (List.mem_of_getElem? (i := 3) rfl)
theorem dX10_addPoints_4 : decode cX10_addPoints 4 = .ok (.getfield 19, 3) := dgX10_addPoints_0 (4, (.getfield 19, 3)) (List.mem_of_getElem? (i := 4) rfl)
theorem dX10_addPoints_7 : decode cX10_addPoints 7 = .ok (.getfield 54, 3) := dgX10_addPoints_0 (7, (.getfield 54, 3)) (List.mem_of_getElem? (i := 5) rfl)
theorem dX10_addPoints_10 : decode cX10_addPoints 10 = .ok (.if_icmp .ge 43, 3) := dgX10_addPoints_0 (10, (.if_icmp .ge 43, 3)) (List.mem_of_getElem? (i := 6) rfl)
theorem dX10_addPoints_13 : decode cX10_addPoints 13 = .ok (.aload_n 0, 1) := dgX10_addPoints_0 (13, (.aload_n 0, 1)) (List.mem_of_getElem? (i := 7) rfl)
theorem dX10_addPoints_14 : decode cX10_addPoints 14 = .ok (.getfield 9, 3) := dgX10_addPoints_0 (14, (.getfield 9, 3)) (List.mem_of_getElem? (i := 8) rfl)
theorem dX10_addPoints_17 : decode cX10_addPoints 17 = .ok (.aload_n 0, 1) := dgX10_addPoints_0 (17, (.aload_n 0, 1)) (List.mem_of_getElem? (i := 9) rfl)
theorem dX10_addPoints_18 : decode cX10_addPoints 18 = .ok (.getfield 19, 3) := dgX10_addPoints_0 (18, (.getfield 19, 3)) (List.mem_of_getElem? (i := 10) rfl)
theorem dX10_addPoints_21 : decode cX10_addPoints 21 = .ok (.getfield 57, 3) := dgX10_addPoints_0 (21, (.getfield 57, 3)) (List.mem_of_getElem? (i := 11) rfl)
theorem dX10_addPoints_24 : decode cX10_addPoints 24 = .ok (.iload_n 1, 1) := dgX10_addPoints_0 (24, (.iload_n 1, 1)) (List.mem_of_getElem? (i := 12) rfl)
theorem dX10_addPoints_25 : decode cX10_addPoints 25 = .ok (.iaload, 1) := dgX10_addPoints_0 (25, (.iaload, 1)) (List.mem_of_getElem? (i := 13) rfl)
theorem dX10_addPoints_26 : decode cX10_addPoints 26 = .ok (.bipush 64, 2) := dgX10_addPoints_0 (26, (.bipush 64, 2)) (List.mem_of_getElem? (i := 14) rfl)
theorem dX10_addPoints_28 : decode cX10_addPoints 28 = .ok (.idiv, 1) := dgX10_addPoints_0 (28, (.idiv, 1)) (List.mem_of_getElem? (i := 15) rfl)
theorem dX10_addPoints_29 : decode cX10_addPoints 29 = .ok (.dup2, 1) := dgX10_addPoints_0 (29, (.dup2, 1)) (List.mem_of_getElem? (i := 16) rfl)
theorem dX10_addPoints_30 : decode cX10_addPoints 30 = .ok (.laload, 1) := dgX10_addPoints_0 (30, (.laload, 1)) (List.mem_of_getElem? (i := 17) rfl)
theorem dX10_addPoints_31 : decode cX10_addPoints 31 = .ok (.lconst 1, 1) := dgX10_addPoints_0 (31, (.lconst 1, 1)) (List.mem_of_getElem? (i := 18) rfl)
theorem dX10_addPoints_32 : decode cX10_addPoints 32 = .ok (.aload_n 0, 1) := dgX10_addPoints_0 (32, (.aload_n 0, 1)) (List.mem_of_getElem? (i := 19) rfl)
theorem dX10_addPoints_33 : decode cX10_addPoints 33 = .ok (.getfield 19, 3) := dgX10_addPoints_0 (33, (.getfield 19, 3)) (List.mem_of_getElem? (i := 20) rfl)
theorem dX10_addPoints_36 : decode cX10_addPoints 36 = .ok (.getfield 57, 3) := dgX10_addPoints_0 (36, (.getfield 57, 3)) (List.mem_of_getElem? (i := 21) rfl)
theorem dX10_addPoints_39 : decode cX10_addPoints 39 = .ok (.iload_n 1, 1) := dgX10_addPoints_0 (39, (.iload_n 1, 1)) (List.mem_of_getElem? (i := 22) rfl)
theorem dX10_addPoints_40 : decode cX10_addPoints 40 = .ok (.iaload, 1) := dgX10_addPoints_0 (40, (.iaload, 1)) (List.mem_of_getElem? (i := 23) rfl)
theorem dX10_addPoints_41 : decode cX10_addPoints 41 = .ok (.bipush 64, 2) := dgX10_addPoints_0 (41, (.bipush 64, 2)) (List.mem_of_getElem? (i := 24) rfl)
theorem dX10_addPoints_43 : decode cX10_addPoints 43 = .ok (.irem, 1) := dgX10_addPoints_0 (43, (.irem, 1)) (List.mem_of_getElem? (i := 25) rfl)
theorem dX10_addPoints_44 : decode cX10_addPoints 44 = .ok (.lshl, 1) := dgX10_addPoints_0 (44, (.lshl, 1)) (List.mem_of_getElem? (i := 26) rfl)
theorem dX10_addPoints_45 : decode cX10_addPoints 45 = .ok (.lor, 1) := dgX10_addPoints_0 (45, (.lor, 1)) (List.mem_of_getElem? (i := 27) rfl)
theorem dX10_addPoints_46 : decode cX10_addPoints 46 = .ok (.lastore, 1) := dgX10_addPoints_0 (46, (.lastore, 1)) (List.mem_of_getElem? (i := 28) rfl)
theorem dX10_addPoints_47 : decode cX10_addPoints 47 = .ok (.iinc 1 1, 3) := dgX10_addPoints_0 (47, (.iinc 1 1, 3)) (List.mem_of_getElem? (i := 29) rfl)
theorem dX10_addPoints_50 : decode cX10_addPoints 50 = .ok (.goto (-48), 3) := dgX10_addPoints_0 (50, (.goto (-48), 3)) (List.mem_of_getElem? (i := 30) rfl)
theorem dX10_addPoints_53 : decode cX10_addPoints 53 = .ok (.return_, 1) := dgX10_addPoints_0 (53, (.return_, 1)) (List.mem_of_getElem? (i := 31) rfl)
theorem inG_X10 : ∀ w ∈ wsX100, w ∈ tblG := tgs [304, 306, 308] (by decide +kernel) (by decide +kernel)
theorem fl_X10_19 : Cond.fieldLink RX10 19 "LateGlass$Watch" "eye" "LLateGlass$Look;" ∈ tblG := tg 301 (by decide +kernel) (by decide +kernel)
theorem fl_X10_54 : Cond.fieldLink RX10 54 "LateGlass$Look" "length" "I" ∈ tblG := tg 250 (by decide +kernel) (by decide +kernel)
theorem fl_X10_9 : Cond.fieldLink RX10 9 "LateGlass$Watch" "boards" "[J" ∈ tblG := tg 302 (by decide +kernel) (by decide +kernel)
theorem fl_X10_57 : Cond.fieldLink RX10 57 "LateGlass$Look" "points" "[I" ∈ tblG := tg 246 (by decide +kernel) (by decide +kernel)
set_option maxHeartbeats 4000000 in
set_option maxRecDepth 100000 in
theorem w_addPoints (l : Launch) (G : g5_G) (a_wa a_k a_pt a_bo a_h a_j : Nat) (sz : Nat) (e_ln : Int32) (e_se : Int32) (e_lh : Int32) (e_br : Int32) (e_we : Int32) (e_me : Int32) (e_ce : Int32) (e_wy : Int32) (e_ho : Int32) (e_ov : Int32) (f_pt : Nat → Int32) (f_bo : Nat → Int64) (h_e_ln : 0 ≤ e_ln.toInt ∧ e_ln.toInt ≤ 200) (h_e_ov : 0 ≤ e_ov.toInt ∧ e_ov.toInt ≤ 1) (e_q : ∀ j : Nat, (j : Int) < e_ln.toInt → 0 ≤ (f_pt j).toInt ∧ (f_pt j).toInt ≤ 1535) : Met l yX10_addPoints (wsG yX10_addPoints cX10_addPoints 2 none) ({ frames := 0, cells := 0, slots := 0, locals := 0 }) (va_Pc [.ref a_wa] (g5_P G [(a_wa, (oc10 a_h a_k a_bo)), (a_k, (oc5 a_h a_j a_pt e_ln e_se e_lh e_br e_we e_me e_ce e_wy e_ho e_ov)), (a_pt, (arI G 200 f_pt)), (a_bo, (arJ G 24 f_bo))] sz)) (va_Qv (fun (u : va_W) => (∃ (o_f : Nat → Int64), (u = [(a_wa, (oc10 a_h a_k a_bo)), (a_k, (oc5 a_h a_j a_pt e_ln e_se e_lh e_br e_we e_me e_ce e_wy e_ho e_ov)), (a_pt, (arI G 200 f_pt)), (a_bo, (arJ G 24 o_f))]))) (g5_B G (va_A [(a_wa, (oc10 a_h a_k a_bo)), (a_k, (oc5 a_h a_j a_pt e_ln e_se e_lh e_br e_we e_me e_ce e_wy e_ho e_ov)), (a_pt, (arI G 200 f_pt)), (a_bo, (arJ G 24 f_bo))] sz)) (va_A [(a_wa, (oc10 a_h a_k a_bo)), (a_k, (oc5 a_h a_j a_pt e_ln e_se e_lh e_br e_we e_me e_ce e_wy e_ho e_ov)), (a_pt, (arI G 200 f_pt)), (a_bo, (arJ G 24 f_bo))] sz)) 0 0 (va_A [(a_wa, (oc10 a_h a_k a_bo)), (a_k, (oc5 a_h a_j a_pt e_ln e_se e_lh e_br e_we e_me e_ce e_wy e_ho e_ov)), (a_pt, (arI G 200 f_pt)), (a_bo, (arJ G 24 f_bo))] sz) := by
  refine Met.ofW (cc := cX10_addPoints) (maxL := 2) (ret := none) (by decide) rfl ?_
  intro p e s m args below meth c s₁ B hml hv
  obtain ⟨rfl, hsz, hP, hK, hD0, hN, hT⟩ := hv
  have hx := B.exec
  have hb := B.bytes
  have hr := B.returns
  have hts : ∀ w ∈ tblG, w.before _ s = true := fun w h => atoms_spec (ws := (wsG yX10_addPoints cX10_addPoints 2 none)) B.pre w (List.mem_cons_of_mem _ h)
  have hown : s.vm.findClass RX10 = some m.cls := findClass_of_methodNamed B.named
  have hlocks := B.notSynchronized
  subst hsz
  have hD := hD0.self (sz := s.heap.size)
  generalize hAe : va_A [(a_wa, (oc10 a_h a_k a_bo)), (a_k, (oc5 a_h a_j a_pt e_ln e_se e_lh e_br e_we e_me e_ce e_wy e_ho e_ov)), (a_pt, (arI G 200 f_pt)), (a_bo, (arJ G 24 f_bo))] s.heap.size = A at hD hT ⊢
  have hA : ∀ q : Nat, s.heap.size ≤ q → A q := fun q h => by rw [← hAe]; exact Or.inr h
  have hS : va_S A s.heap s.heap [] := va_S.rf
  have hP : va_P G.1 vwCl [(a_wa, (oc10 a_h a_k a_bo)), (a_k, (oc5 a_h a_j a_pt e_ln e_se e_lh e_br e_we e_me e_ce e_wy e_ho e_ov)), (a_pt, (arI G 200 f_pt)), (a_bo, (arJ G 24 f_bo))] s.heap := hP
  have hl := lv_entry ([.ref a_wa]) (n := 2) (Nat.le_of_ble_eq_true rfl)
  rw [lg_entry_eq]
  generalize (lg_sl ([.ref a_wa]) ++ List.replicate (2 - (lg_sl ([.ref a_wa])).length) Slot.unset).toArray = ls at hl ⊢
  have hl : lv_has ls 2 [(0, .ref a_wa)] := hl
  refine lv_iconst (v := 0) hx hb dX10_addPoints_0 (by decide) ?_
  refine lv_istore_n (lv' := [(1, .int 0), (0, .ref a_wa)]) hx hb dX10_addPoints_1 rfl hl (by decide) rfl (fun ls hl => ?_)
  refine g5_loop (α := (Int32) × (Nat → Int64)) (fun (q : (Int32) × (Nat → Int64)) (ls : Array Slot) (H : Heap) (locs : List Loc) => match q with | (k_i, k_f) => lv_has ls 2 [(1, .int k_i), (0, .ref a_wa)] ∧ va_P G.1 vwCl [(a_wa, (oc10 a_h a_k a_bo)), (a_k, (oc5 a_h a_j a_pt e_ln e_se e_lh e_br e_we e_me e_ce e_wy e_ho e_ov)), (a_pt, (arI G 200 f_pt)), (a_bo, (arJ G 24 k_f))] H ∧ va_D A [(a_wa, (oc10 a_h a_k a_bo)), (a_k, (oc5 a_h a_j a_pt e_ln e_se e_lh e_br e_we e_me e_ce e_wy e_ho e_ov)), (a_pt, (arI G 200 f_pt)), (a_bo, (arJ G 24 k_f))] ∧ va_S A s.heap H locs ∧ (0 ≤ k_i.toInt ∧ k_i.toInt ≤ 200)) (fun (q : (Int32) × (Nat → Int64)) => match q with | (k_i, k_f) => Int.toNat (200 - k_i.toInt)) (0, f_bo) ⟨lv_sub hl [0, 1] rfl, hP, hD, hS, ⟨by decide, by decide⟩⟩ ?_
  rintro ⟨k_i, k_f⟩ ls H locs ⟨hl, hP, hD, hS, i_1⟩ ih_2_2
  have hl : lv_has ls 2 [(1, .int k_i), (0, .ref a_wa)] := hl
  have i_1 : 0 ≤ k_i.toInt ∧ k_i.toInt ≤ 200 := i_1
  refine g5_rs [(a_wa, (oc10 a_h a_k a_bo)), (a_k, (oc5 a_h a_j a_pt e_ln e_se e_lh e_br e_we e_me e_ce e_wy e_ho e_ov)), (a_pt, (arI G 200 f_pt)), (a_bo, (arJ G 24 k_f))] hP hD (fun hP hD => ?_)
  refine lv_iload_n hx hb dX10_addPoints_2 rfl (lv_at hl 0 rfl) ?_
  refine lv_aload_n hx hb dX10_addPoints_3 rfl (lv_at hl 1 rfl) ?_
  refine va_get (D := G.1) (ci := 10) (v := .ref a_k) (C := RX10) (T := TX10) (N := 3) hx hb hts inG_X10 hown hK hP 0 rfl rfl 1 (by decide) (hts _ fl_X10_19) (fun _ h9 => h9) rfl dX10_addPoints_4 ?_
  refine va_get (D := G.1) (ci := 5) (v := .int e_ln) (C := RX5) (T := TX5) (N := 13) hx hb hts inG_X5 hown hK hP 1 rfl rfl 3 (by decide) (hts _ fl_X10_54) (fun _ h9 => h9) rfl dX10_addPoints_7 ?_
  refine lv_icmp_ge (tgt := 53) hx hb dX10_addPoints_10 (by decide) (fun c_3 => ?_) (fun c_3 => ?_)
  ·
    have i_3 : k_i.toInt ≥ e_ln.toInt := by have z := g5_ge (a := k_i.toInt) (b := e_ln.toInt) (by rfl) (by rfl) c_3; omega
    exact W.vret hx hb hr (fun t ht hW => ⟨⟨[(a_wa, (oc10 a_h a_k a_bo)), (a_k, (oc5 a_h a_j a_pt e_ln e_se e_lh e_br e_we e_me e_ce e_wy e_ho e_ov)), (a_pt, (arI G 200 f_pt)), (a_bo, (arJ G 24 k_f))], rfl, ⟨k_f, rfl⟩, by rw [ht]; exact hP.sub [0, 1, 2, 3] rfl, hD.sub [0, 1, 2, 3] (by decide) rfl⟩, hS.F ht⟩) hS.2.2 dX10_addPoints_53
  ·
    have i_3 : k_i.toInt < e_ln.toInt := by have z := g5_geN (a := k_i.toInt) (b := e_ln.toInt) (by rfl) (by rfl) c_3; omega
    refine lv_aload_n hx hb dX10_addPoints_13 rfl (lv_at hl 1 rfl) ?_
    refine va_get (D := G.1) (ci := 10) (v := .ref a_bo) (C := RX10) (T := TX10) (N := 3) hx hb hts inG_X10 hown hK hP 0 rfl rfl 2 (by decide) (hts _ fl_X10_9) (fun _ h9 => h9) rfl dX10_addPoints_14 ?_
    refine lv_aload_n hx hb dX10_addPoints_17 rfl (lv_at hl 1 rfl) ?_
    refine va_get (D := G.1) (ci := 10) (v := .ref a_k) (C := RX10) (T := TX10) (N := 3) hx hb hts inG_X10 hown hK hP 0 rfl rfl 1 (by decide) (hts _ fl_X10_19) (fun _ h9 => h9) rfl dX10_addPoints_18 ?_
    refine va_get (D := G.1) (ci := 5) (v := .ref a_pt) (C := RX5) (T := TX5) (N := 13) hx hb hts inG_X5 hown hK hP 1 rfl rfl 2 (by decide) (hts _ fl_X10_57) (fun _ h9 => h9) rfl dX10_addPoints_21 ?_
    refine lv_iload_n hx hb dX10_addPoints_24 rfl (lv_at hl 0 rfl) ?_
    refine va_iald hx hb hK hP 2 0 rfl rfl (i := k_i) (vp_in_iff.mpr ⟨by omega, by omega⟩) dX10_addPoints_25 ?_
    have hp_4 : 0 ≤ (f_pt k_i.toNatClampNeg).toInt ∧ (f_pt k_i.toNatClampNeg).toInt ≤ 1535 := e_q _ (by have zz := g5_clamp k_i; omega)
    refine lv_bipush (v := 64) hx hb dX10_addPoints_26 (by decide) ?_
    refine lv_idiv hx hb dX10_addPoints_28 (by decide) ?_
    have t_5 : ((f_pt k_i.toNatClampNeg) / 64).toInt = (f_pt k_i.toNatClampNeg).toInt / 64 := g5_idiv (a := (f_pt k_i.toNatClampNeg).toInt) (b := 64) rfl (by decide) (by omega) (by decide)
    refine lv_dup2_11 hx hb dX10_addPoints_29 rfl rfl ?_
    refine va_lald hx hb hK hP 3 1 rfl rfl (i := ((f_pt k_i.toNatClampNeg) / 64)) (vp_in_iff.mpr ⟨by omega, by omega⟩) dX10_addPoints_30 ?_
    refine lv_lconst (v := 1) hx hb dX10_addPoints_31 (by decide) ?_
    refine lv_aload_n hx hb dX10_addPoints_32 rfl (lv_at hl 1 rfl) ?_
    refine va_get (D := G.1) (ci := 10) (v := .ref a_k) (C := RX10) (T := TX10) (N := 3) hx hb hts inG_X10 hown hK hP 0 rfl rfl 1 (by decide) (hts _ fl_X10_19) (fun _ h9 => h9) rfl dX10_addPoints_33 ?_
    refine va_get (D := G.1) (ci := 5) (v := .ref a_pt) (C := RX5) (T := TX5) (N := 13) hx hb hts inG_X5 hown hK hP 1 rfl rfl 2 (by decide) (hts _ fl_X10_57) (fun _ h9 => h9) rfl dX10_addPoints_36 ?_
    refine lv_iload_n hx hb dX10_addPoints_39 rfl (lv_at hl 0 rfl) ?_
    refine va_iald hx hb hK hP 2 0 rfl rfl (i := k_i) (vp_in_iff.mpr ⟨by omega, by omega⟩) dX10_addPoints_40 ?_
    have hp_6 : 0 ≤ (f_pt k_i.toNatClampNeg).toInt ∧ (f_pt k_i.toNatClampNeg).toInt ≤ 1535 := e_q _ (by have zz := g5_clamp k_i; omega)
    refine lv_bipush (v := 64) hx hb dX10_addPoints_41 (by decide) ?_
    refine lv_irem hx hb dX10_addPoints_43 (by decide) ?_
    have t_7 : ((f_pt k_i.toNatClampNeg) - (f_pt k_i.toNatClampNeg) / 64 * 64).toInt = (f_pt k_i.toNatClampNeg).toInt % 64 := g5_irem (a := (f_pt k_i.toNatClampNeg).toInt) (b := 64) rfl (by decide) (by omega) (by decide)
    refine lv_lshl (v := ((1 : Int64) <<< (((f_pt k_i.toNatClampNeg) - (f_pt k_i.toNatClampNeg) / 64 * 64).toInt64 &&& 63))) hx hb dX10_addPoints_44 rfl ?_
    refine lv_lor hx hb dX10_addPoints_45 ?_
    refine va_last hx hb hK hP hD hS 3 1 rfl rfl (i := ((f_pt k_i.toNatClampNeg) / 64)) (x := ((k_f ((f_pt k_i.toNatClampNeg) / 64).toNatClampNeg) ||| ((1 : Int64) <<< (((f_pt k_i.toNatClampNeg) - (f_pt k_i.toNatClampNeg) / 64 * 64).toInt64 &&& 63)))) (vp_in_iff.mpr ⟨by omega, by omega⟩) dX10_addPoints_46 (fun H locs hP hD hS => ?_)
    refine g5_rs [(a_wa, (oc10 a_h a_k a_bo)), (a_k, (oc5 a_h a_j a_pt e_ln e_se e_lh e_br e_we e_me e_ce e_wy e_ho e_ov)), (a_pt, (arI G 200 f_pt)), (a_bo, (arJ G 24 (vp_updL k_f ((f_pt k_i.toNatClampNeg) / 64).toNatClampNeg ((k_f ((f_pt k_i.toNatClampNeg) / 64).toNatClampNeg) ||| ((1 : Int64) <<< (((f_pt k_i.toNatClampNeg) - (f_pt k_i.toNatClampNeg) / 64 * 64).toInt64 &&& 63))))))] hP hD (fun hP hD => ?_)
    refine lv_iinc (v := (k_i + 1)) (lv' := [(1, .int (k_i + 1)), (0, .ref a_wa)]) hx hb dX10_addPoints_47 hl (k := 0) rfl rfl (by decide) rfl (fun ls hl => ?_)
    have t_8 : (k_i + 1).toInt = k_i.toInt + 1 := g5_iadd (a := k_i.toInt) (b := 1) rfl (by decide) (by omega) (by omega)
    refine lv_goto (tgt := 2) hx hb dX10_addPoints_50 (by decide) ?_
    exact ih_2_2 ((k_i + 1), (vp_updL k_f ((f_pt k_i.toNatClampNeg) / 64).toNatClampNeg ((k_f ((f_pt k_i.toNatClampNeg) / 64).toNatClampNeg) ||| ((1 : Int64) <<< (((f_pt k_i.toNatClampNeg) - (f_pt k_i.toNatClampNeg) / 64 * 64).toInt64 &&& 63))))) ls H locs (show Int.toNat (200 - (k_i + 1).toInt) < Int.toNat (200 - k_i.toInt) from g_up (show k_i.toInt < (k_i + 1).toInt by omega) (show k_i.toInt < 200 by omega)) ⟨lv_sub hl [0, 1] rfl, hP, hD, hS, ⟨by omega, by omega⟩⟩
theorem dgX10_lookAround_0 : ∀ r ∈ ([(0, (.aload_n 0, 1)), (1, (.getfield 9, 3)), (4, (.lconst 0, 1)), (5, (.invokestatic 23, 3)), (8, (.iconst 0, 1)), (9, (.istore_n 1, 1)), (10, (.iload_n 1, 1)), (11, (.aload_n 0, 1)), (12, (.getfield 15, 3)), (15, (.getfield 29, 3)), (18, (.getfield 35, 3)), (21, (.if_icmp .ge 72, 3)), (24, (.iconst 0, 1)), (25, (.istore_n 2, 1)), (26, (.iload_n 2, 1)), (27, (.bipush 24, 2)), (29, (.if_icmp .ge 58, 3)), (32, (.aload_n 0, 1)), (33, (.getfield 15, 3)), (36, (.getfield 29, 3)), (39, (.iload_n 1, 1)), (40, (.iload_n 2, 1)), (41, (.invokevirtual 41, 3)), (44, (.istore_n 3, 1)), (45, (.iconst 0, 1)), (46, (.istore 4, 2)), (48, (.iload 4, 2)), (50, (.iconst 4, 1)), (51, (.if_icmp .ge 30, 3)), (54, (.iload_n 3, 1)), (55, (.iconst (-1), 1)), (56, (.if_icmp .eq 25, 3)), (59, (.aload_n 0, 1)), (60, (.getfield 19, 3)), (63, (.iload_n 3, 1)), (64, (.iload 4, 2)), (66, (.iload_n 2, 1)), (67, (.iconst 0, 1)), (68, (.invokevirtual 45, 3)), (71, (.aload_n 0, 1))] : List (Nat × (Instr × Nat))), decode cX10_lookAround r.1 = .ok r.2 := by decide +kernel
theorem dX10_lookAround_0 : decode cX10_lookAround 0 = .ok (.aload_n 0, 1) := dgX10_lookAround_0 (0, (.aload_n 0, 1)) (List.mem_of_getElem? (i := 0) rfl)
theorem dX10_lookAround_1 : decode cX10_lookAround 1 = .ok (.getfield 9, 3) := dgX10_lookAround_0 (1, (.getfield 9, 3)) (List.mem_of_getElem? (i := 1) rfl)
theorem dX10_lookAround_4 : decode cX10_lookAround 4 = .ok (.lconst 0, 1) := dgX10_lookAround_0 (4, (.lconst 0, 1)) (List.mem_of_getElem? (i := 2) rfl)
theorem dX10_lookAround_5 : decode cX10_lookAround 5 = .ok (.invokestatic 23, 3) := dgX10_lookAround_0 (5, (.invokestatic 23, 3)) (List.mem_of_getElem? (i := 3) rfl)
theorem dX10_lookAround_8 : decode cX10_lookAround 8 = .ok (.iconst 0, 1) := dgX10_lookAround_0 (8, (.iconst 0, 1)) (List.mem_of_getElem? (i := 4) rfl)
theorem dX10_lookAround_9 : decode cX10_lookAround 9 = .ok (.istore_n 1, 1) := dgX10_lookAround_0 (9, (.istore_n 1, 1)) (List.mem_of_getElem? (i := 5) rfl)
theorem dX10_lookAround_10 : decode cX10_lookAround 10 = .ok (.iload_n 1, 1) := dgX10_lookAround_0 (10, (.iload_n 1, 1)) (List.mem_of_getElem? (i := 6) rfl)
theorem dX10_lookAround_11 : decode cX10_lookAround 11 = .ok (.aload_n 0, 1) := dgX10_lookAround_0 (11, (.aload_n 0, 1)) (List.mem_of_getElem? (i := 7) rfl)
theorem dX10_lookAround_12 : decode cX10_lookAround 12 = .ok (.getfield 15, 3) := dgX10_lookAround_0 (12, (.getfield 15, 3)) (List.mem_of_getElem? (i := 8) rfl)
theorem dX10_lookAround_15 : decode cX10_lookAround 15 = .ok (.getfield 29, 3) := dgX10_lookAround_0 (15, (.getfield 29, 3)) (List.mem_of_getElem? (i := 9) rfl)
theorem dX10_lookAround_18 : decode cX10_lookAround 18 = .ok (.getfield 35, 3) := dgX10_lookAround_0 (18, (.getfield 35, 3)) (List.mem_of_getElem? (i := 10) rfl)
theorem dX10_lookAround_21 : decode cX10_lookAround 21 = .ok (.if_icmp .ge 72, 3) := dgX10_lookAround_0 (21, (.if_icmp .ge 72, 3)) (List.mem_of_getElem? (i := 11) rfl)
theorem dX10_lookAround_24 : decode cX10_lookAround 24 = .ok (.iconst 0, 1) := dgX10_lookAround_0 (24, (.iconst 0, 1)) (List.mem_of_getElem? (i := 12) rfl)
theorem dX10_lookAround_25 : decode cX10_lookAround 25 = .ok (.istore_n 2, 1) := dgX10_lookAround_0 (25, (.istore_n 2, 1)) (List.mem_of_getElem? (i := 13) rfl)
theorem dX10_lookAround_26 : decode cX10_lookAround 26 = .ok (.iload_n 2, 1) := dgX10_lookAround_0 (26, (.iload_n 2, 1)) (List.mem_of_getElem? (i := 14) rfl)
theorem dX10_lookAround_27 : decode cX10_lookAround 27 = .ok (.bipush 24, 2) := dgX10_lookAround_0 (27, (.bipush 24, 2)) (List.mem_of_getElem? (i := 15) rfl)
theorem dX10_lookAround_29 : decode cX10_lookAround 29 = .ok (.if_icmp .ge 58, 3) := dgX10_lookAround_0 (29, (.if_icmp .ge 58, 3)) (List.mem_of_getElem? (i := 16) rfl)
theorem dX10_lookAround_32 : decode cX10_lookAround 32 = .ok (.aload_n 0, 1) := dgX10_lookAround_0 (32, (.aload_n 0, 1)) (List.mem_of_getElem? (i := 17) rfl)
theorem dX10_lookAround_33 : decode cX10_lookAround 33 = .ok (.getfield 15, 3) := dgX10_lookAround_0 (33, (.getfield 15, 3)) (List.mem_of_getElem? (i := 18) rfl)
theorem dX10_lookAround_36 : decode cX10_lookAround 36 = .ok (.getfield 29, 3) := dgX10_lookAround_0 (36, (.getfield 29, 3)) (List.mem_of_getElem? (i := 19) rfl)
theorem dX10_lookAround_39 : decode cX10_lookAround 39 = .ok (.iload_n 1, 1) := dgX10_lookAround_0 (39, (.iload_n 1, 1)) (List.mem_of_getElem? (i := 20) rfl)
theorem dX10_lookAround_40 : decode cX10_lookAround 40 = .ok (.iload_n 2, 1) := dgX10_lookAround_0 (40, (.iload_n 2, 1)) (List.mem_of_getElem? (i := 21) rfl)
theorem dX10_lookAround_41 : decode cX10_lookAround 41 = .ok (.invokevirtual 41, 3) := dgX10_lookAround_0 (41, (.invokevirtual 41, 3)) (List.mem_of_getElem? (i := 22) rfl)
theorem dX10_lookAround_44 : decode cX10_lookAround 44 = .ok (.istore_n 3, 1) := dgX10_lookAround_0 (44, (.istore_n 3, 1)) (List.mem_of_getElem? (i := 23) rfl)
theorem dX10_lookAround_45 : decode cX10_lookAround 45 = .ok (.iconst 0, 1) := dgX10_lookAround_0 (45, (.iconst 0, 1)) (List.mem_of_getElem? (i := 24) rfl)
theorem dX10_lookAround_46 : decode cX10_lookAround 46 = .ok (.istore 4, 2) := dgX10_lookAround_0 (46, (.istore 4, 2)) (List.mem_of_getElem? (i := 25) rfl)
theorem dX10_lookAround_48 : decode cX10_lookAround 48 = .ok (.iload 4, 2) := dgX10_lookAround_0 (48, (.iload 4, 2)) (List.mem_of_getElem? (i := 26) rfl)
theorem dX10_lookAround_50 : decode cX10_lookAround 50 = .ok (.iconst 4, 1) := dgX10_lookAround_0 (50, (.iconst 4, 1)) (List.mem_of_getElem? (i := 27) rfl)
theorem dX10_lookAround_51 : decode cX10_lookAround 51 = .ok (.if_icmp .ge 30, 3) := dgX10_lookAround_0 (51, (.if_icmp .ge 30, 3)) (List.mem_of_getElem? (i := 28) rfl)
theorem dX10_lookAround_54 : decode cX10_lookAround 54 = .ok (.iload_n 3, 1) := dgX10_lookAround_0 (54, (.iload_n 3, 1)) (List.mem_of_getElem? (i := 29) rfl)
theorem dX10_lookAround_55 : decode cX10_lookAround 55 = .ok (.iconst (-1), 1) := dgX10_lookAround_0 (55, (.iconst (-1), 1)) (List.mem_of_getElem? (i := 30) rfl)
theorem dX10_lookAround_56 : decode cX10_lookAround 56 = .ok (.if_icmp .eq 25, 3) := dgX10_lookAround_0 (56, (.if_icmp .eq 25, 3)) (List.mem_of_getElem? (i := 31) rfl)
theorem dX10_lookAround_59 : decode cX10_lookAround 59 = .ok (.aload_n 0, 1) := dgX10_lookAround_0 (59, (.aload_n 0, 1)) (List.mem_of_getElem? (i := 32) rfl)
theorem dX10_lookAround_60 : decode cX10_lookAround 60 = .ok (.getfield 19, 3) := dgX10_lookAround_0 (60, (.getfield 19, 3)) (List.mem_of_getElem? (i := 33) rfl)
theorem dX10_lookAround_63 : decode cX10_lookAround 63 = .ok (.iload_n 3, 1) := dgX10_lookAround_0 (63, (.iload_n 3, 1)) (List.mem_of_getElem? (i := 34) rfl)
theorem dX10_lookAround_64 : decode cX10_lookAround 64 = .ok (.iload 4, 2) := dgX10_lookAround_0 (64, (.iload 4, 2)) (List.mem_of_getElem? (i := 35) rfl)
theorem dX10_lookAround_66 : decode cX10_lookAround 66 = .ok (.iload_n 2, 1) := dgX10_lookAround_0 (66, (.iload_n 2, 1)) (List.mem_of_getElem? (i := 36) rfl)
theorem dX10_lookAround_67 : decode cX10_lookAround 67 = .ok (.iconst 0, 1) := dgX10_lookAround_0 (67, (.iconst 0, 1)) (List.mem_of_getElem? (i := 37) rfl)
theorem dX10_lookAround_68 : decode cX10_lookAround 68 = .ok (.invokevirtual 45, 3) := dgX10_lookAround_0 (68, (.invokevirtual 45, 3)) (List.mem_of_getElem? (i := 38) rfl)
theorem dX10_lookAround_71 : decode cX10_lookAround 71 = .ok (.aload_n 0, 1) := dgX10_lookAround_0 (71, (.aload_n 0, 1)) (List.mem_of_getElem? (i := 39) rfl)
theorem dgX10_lookAround_1 : ∀ r ∈ ([(72, (.invokevirtual 51, 3)), (75, (.iinc 4 1, 3)), (78, (.goto (-30), 3)), (81, (.iinc 2 1, 3)), (84, (.goto (-58), 3)), (87, (.iinc 1 1, 3)), (90, (.goto (-80), 3)), (93, (.return_, 1))] : List (Nat × (Instr × Nat))), decode cX10_lookAround r.1 = .ok r.2 := by decide +kernel
theorem dX10_lookAround_72 : decode cX10_lookAround 72 = .ok (.invokevirtual 51, 3) := dgX10_lookAround_1 (72, (.invokevirtual 51, 3)) (List.mem_of_getElem? (i := 0) rfl)
theorem dX10_lookAround_75 : decode cX10_lookAround 75 = .ok (.iinc 4 1, 3) := dgX10_lookAround_1 (75, (.iinc 4 1, 3)) (List.mem_of_getElem? (i := 1) rfl)
theorem dX10_lookAround_78 : decode cX10_lookAround 78 = .ok (.goto (-30), 3) := dgX10_lookAround_1 (78, (.goto (-30), 3)) (List.mem_of_getElem? (i := 2) rfl)
theorem dX10_lookAround_81 : decode cX10_lookAround 81 = .ok (.iinc 2 1, 3) := dgX10_lookAround_1 (81, (.iinc 2 1, 3)) (List.mem_of_getElem? (i := 3) rfl)
theorem dX10_lookAround_84 : decode cX10_lookAround 84 = .ok (.goto (-58), 3) := dgX10_lookAround_1 (84, (.goto (-58), 3)) (List.mem_of_getElem? (i := 4) rfl)
theorem dX10_lookAround_87 : decode cX10_lookAround 87 = .ok (.iinc 1 1, 3) := dgX10_lookAround_1 (87, (.iinc 1 1, 3)) (List.mem_of_getElem? (i := 5) rfl)
theorem dX10_lookAround_90 : decode cX10_lookAround 90 = .ok (.goto (-80), 3) := dgX10_lookAround_1 (90, (.goto (-80), 3)) (List.mem_of_getElem? (i := 6) rfl)
theorem dX10_lookAround_93 : decode cX10_lookAround 93 = .ok (.return_, 1) := dgX10_lookAround_1 (93, (.return_, 1)) (List.mem_of_getElem? (i := 7) rfl)
theorem ml_X10_23 : Cond.methodLink RX10 23 yJ7_fill_d0a16 ∈ tblG := tg 917 (by decide +kernel) (by decide +kernel)
theorem st_J7_fill_d0a16 : Cond.static yJ7_fill_d0a16 ∈ tblG := tg 918 (by decide +kernel) (by decide +kernel)
theorem ini_J7 : Cond.initialized RJ7 ∈ tblG := tg 105 (by decide +kernel) (by decide +kernel)
theorem cd_J7_fill_d0a16 : Cond.code yJ7_fill_d0a16 cJ7_fill_d0a16 5 none ∈ tblG := tg 919 (by decide +kernel) (by decide +kernel)
theorem gW_J7_fill_d0a16 : GoodIn tblG (wsG yJ7_fill_d0a16 cJ7_fill_d0a16 5 none) := tgi cd_J7_fill_d0a16
theorem gS_X10_23 : GoodIn tblG (va_wsS RX10 23 yJ7_fill_d0a16 (wsG yJ7_fill_d0a16 cJ7_fill_d0a16 5 none)) := tgS ml_X10_23 st_J7_fill_d0a16 ini_J7 gW_J7_fill_d0a16
theorem hs_J7_fill_d0a16 : yJ7_fill_d0a16.cls ≠ "java/lang/invoke/MethodHandle" ∧ yJ7_fill_d0a16.cls ≠ "java/lang/invoke/VarHandle" ∧ (parseMethodDescriptor yJ7_fill_d0a16.desc).map (fun d => d.parameters.length) = some 2 := by decide +kernel
theorem fl_X10_15 : Cond.fieldLink RX10 15 "LateGlass$Watch" "house" "LLateGlass$House;" ∈ tblG := tg 300 (by decide +kernel) (by decide +kernel)
theorem fl_X10_29 : Cond.fieldLink RX10 29 "LateGlass$House" "bodies" "LLateGlass$Table;" ∈ tblG := tg 174 (by decide +kernel) (by decide +kernel)
theorem fl_X10_35 : Cond.fieldLink RX10 35 "LateGlass$Table" "rows" "I" ∈ tblG := tg 139 (by decide +kernel) (by decide +kernel)
theorem ml_X10_41 : Cond.methodLink RX10 41 yX6_get ∈ tblG := tg 920 (by decide +kernel) (by decide +kernel)
theorem gV_X10_41 : GoodIn tblG (wsV RX10 41 RX6 yX6_get (wsG yX6_get cX6_get 3 (some .int))) := tgV ml_X10_41 im_X6_get se_X6_get ini_X6 gW_X6_get
theorem ml_X10_45 : Cond.methodLink RX10 45 yX5_run ∈ tblG := tg 921 (by decide +kernel) (by decide +kernel)
theorem gV_X10_45 : GoodIn tblG (wsV RX10 45 RX5 yX5_run (wsG yX5_run cX5_run 9 none)) := tgV ml_X10_45 im_X5_run se_X5_run ini_X5 gW_X5_run
theorem ml_X10_51 : Cond.methodLink RX10 51 yX10_addPoints ∈ tblG := tg 922 (by decide +kernel) (by decide +kernel)
theorem im_X10_addPoints : Cond.instanceMethod yX10_addPoints ∈ tblG := tg 924 (by decide +kernel) (by decide +kernel)
theorem se_X10_addPoints : Cond.selects RX10 yX10_addPoints yX10_addPoints ∈ tblG := tg 19 (by decide +kernel) (by decide +kernel)
theorem ini_X10 : Cond.initialized RX10 ∈ tblG := tg 93 (by decide +kernel) (by decide +kernel)
theorem cd_X10_addPoints : Cond.code yX10_addPoints cX10_addPoints 2 none ∈ tblG := tg 925 (by decide +kernel) (by decide +kernel)
theorem gW_X10_addPoints : GoodIn tblG (wsG yX10_addPoints cX10_addPoints 2 none) := tgi cd_X10_addPoints
theorem gV_X10_51 : GoodIn tblG (wsV RX10 51 RX10 yX10_addPoints (wsG yX10_addPoints cX10_addPoints 2 none)) := tgV ml_X10_51 im_X10_addPoints se_X10_addPoints ini_X10 gW_X10_addPoints
theorem hv_X10_addPoints : yX10_addPoints.cls = RX10 ∧ yX10_addPoints.cls ≠ "java/lang/invoke/MethodHandle" ∧ yX10_addPoints.cls ≠ "java/lang/invoke/VarHandle" ∧ (parseMethodDescriptor yX10_addPoints.desc).map (fun d => d.parameters.length) = some 0 := by decide +kernel
set_option maxHeartbeats 4000000 in
set_option maxRecDepth 100000 in
theorem w_lookAroundN (l : Launch) (G : g5_G) (a_k a_h a_g a_gn a_b a_bn a_p a_pn a_bb a_j a_as a_sk a_l a_pt a_wa a_bo a_s a_w : Nat) (sz : Nat) (e_le : Int32) (e_st : Int32) (e_fo : Int32) (e_lc : Int32) (e_g : Int32) (e_b : Int32) (e_p : Int32) (e_ln : Int32) (e_se : Int32) (e_lh : Int32) (e_br : Int32) (e_we : Int32) (e_me : Int32) (e_ce : Int32) (e_wy : Int32) (e_ho : Int32) (e_ov : Int32) (e_wa : Int64) (e_gb : Int64) (f_g : Nat → Int32) (f_b : Nat → Int32) (f_p : Nat → Int32) (f_bb : Nat → Int64) (f_as : Nat → Int32) (f_sk : Nat → Int64) (f_l : Nat → Option Nat) (f_pt : Nat → Int32) (f_bo : Nat → Int64) (h_e_g : 0 ≤ e_g.toInt ∧ e_g.toInt ≤ 6) (h_e_b : 0 ≤ e_b.toInt ∧ e_b.toInt ≤ 5) (h_e_p : 0 ≤ e_p.toInt ∧ e_p.toInt ≤ 8) (h_e_ov : 0 ≤ e_ov.toInt ∧ e_ov.toInt ≤ 1) (e_gk : gOK f_g e_g.toInt) (e_pk : gOK f_p e_p.toInt) (e_gi : inT e_gb f_g e_g.toInt) (e_f : e_fo.toInt < 0 ∨ e_lc.toInt ≤ e_fo.toInt) : Met l yX10_lookAround (wsG yX10_lookAround cX10_lookAround 5 none) ({ frames := 14, cells := 0, slots := 0, locals := 556 }) (va_Pc [.ref a_wa] (g5_P G [(a_k, (oc5 a_h a_j a_pt e_ln e_se e_lh e_br e_we e_me e_ce e_wy e_ho e_ov)), (a_h, (oc1 e_wa e_le e_st e_fo e_lc a_l a_g a_b a_s a_p a_w e_gb a_bb)), (a_g, (oc6 6 5 a_gn e_g)), (a_gn, (arI G 30 f_g)), (a_b, (oc6 5 24 a_bn e_b)), (a_bn, (arI G 120 f_b)), (a_p, (oc6 8 5 a_pn e_p)), (a_pn, (arI G 40 f_p)), (a_bb, (arJ G 24 f_bb)), (a_j, (oc2 a_as a_sk)), (a_as, (arI G 8 f_as)), (a_sk, (arJ G 50 f_sk)), (a_l, (arW G 6 f_l)), (a_pt, (arI G 200 f_pt)), (a_wa, (oc10 a_h a_k a_bo)), (a_bo, (arJ G 24 f_bo))] sz)) (va_Qv (fun (u : va_W) => (∃ (o_ln : Int32) (o_se : Int32) (o_lh : Int32) (o_br : Int32) (o_we : Int32) (o_me : Int32) (o_ce : Int32) (o_wy : Int32) (o_ho : Int32) (o_ov : Int32) (o_pt : Nat → Int32) (o_as : Nat → Int32) (o_sk : Nat → Int64) (o_bo : Nat → Int64), (0 ≤ o_ov.toInt ∧ o_ov.toInt ≤ 1) ∧ (u = [(a_k, (oc5 a_h a_j a_pt o_ln o_se o_lh o_br o_we o_me o_ce o_wy o_ho o_ov)), (a_h, (oc1 e_wa e_le e_st e_fo e_lc a_l a_g a_b a_s a_p a_w e_gb a_bb)), (a_g, (oc6 6 5 a_gn e_g)), (a_gn, (arI G 30 f_g)), (a_b, (oc6 5 24 a_bn e_b)), (a_bn, (arI G 120 f_b)), (a_p, (oc6 8 5 a_pn e_p)), (a_pn, (arI G 40 f_p)), (a_bb, (arJ G 24 f_bb)), (a_j, (oc2 a_as a_sk)), (a_as, (arI G 8 o_as)), (a_sk, (arJ G 50 o_sk)), (a_l, (arW G 6 f_l)), (a_pt, (arI G 200 o_pt)), (a_wa, (oc10 a_h a_k a_bo)), (a_bo, (arJ G 24 o_bo))]))) (g5_B G (va_A [(a_k, (oc5 a_h a_j a_pt e_ln e_se e_lh e_br e_we e_me e_ce e_wy e_ho e_ov)), (a_h, (oc1 e_wa e_le e_st e_fo e_lc a_l a_g a_b a_s a_p a_w e_gb a_bb)), (a_g, (oc6 6 5 a_gn e_g)), (a_gn, (arI G 30 f_g)), (a_b, (oc6 5 24 a_bn e_b)), (a_bn, (arI G 120 f_b)), (a_p, (oc6 8 5 a_pn e_p)), (a_pn, (arI G 40 f_p)), (a_bb, (arJ G 24 f_bb)), (a_j, (oc2 a_as a_sk)), (a_as, (arI G 8 f_as)), (a_sk, (arJ G 50 f_sk)), (a_l, (arW G 6 f_l)), (a_pt, (arI G 200 f_pt)), (a_wa, (oc10 a_h a_k a_bo)), (a_bo, (arJ G 24 f_bo))] sz)) (va_A [(a_k, (oc5 a_h a_j a_pt e_ln e_se e_lh e_br e_we e_me e_ce e_wy e_ho e_ov)), (a_h, (oc1 e_wa e_le e_st e_fo e_lc a_l a_g a_b a_s a_p a_w e_gb a_bb)), (a_g, (oc6 6 5 a_gn e_g)), (a_gn, (arI G 30 f_g)), (a_b, (oc6 5 24 a_bn e_b)), (a_bn, (arI G 120 f_b)), (a_p, (oc6 8 5 a_pn e_p)), (a_pn, (arI G 40 f_p)), (a_bb, (arJ G 24 f_bb)), (a_j, (oc2 a_as a_sk)), (a_as, (arI G 8 f_as)), (a_sk, (arJ G 50 f_sk)), (a_l, (arW G 6 f_l)), (a_pt, (arI G 200 f_pt)), (a_wa, (oc10 a_h a_k a_bo)), (a_bo, (arJ G 24 f_bo))] sz)) 0 0 (va_A [(a_k, (oc5 a_h a_j a_pt e_ln e_se e_lh e_br e_we e_me e_ce e_wy e_ho e_ov)), (a_h, (oc1 e_wa e_le e_st e_fo e_lc a_l a_g a_b a_s a_p a_w e_gb a_bb)), (a_g, (oc6 6 5 a_gn e_g)), (a_gn, (arI G 30 f_g)), (a_b, (oc6 5 24 a_bn e_b)), (a_bn, (arI G 120 f_b)), (a_p, (oc6 8 5 a_pn e_p)), (a_pn, (arI G 40 f_p)), (a_bb, (arJ G 24 f_bb)), (a_j, (oc2 a_as a_sk)), (a_as, (arI G 8 f_as)), (a_sk, (arJ G 50 f_sk)), (a_l, (arW G 6 f_l)), (a_pt, (arI G 200 f_pt)), (a_wa, (oc10 a_h a_k a_bo)), (a_bo, (arJ G 24 f_bo))] sz) := by
  refine Met.ofW (cc := cX10_lookAround) (maxL := 5) (ret := none) (by decide) rfl ?_
  intro p e s m args below meth c s₁ B hml hv
  obtain ⟨rfl, hsz, hP, hK, hD0, hN, hT⟩ := hv
  have hx := B.exec
  have hb := B.bytes
  have hr := B.returns
  have hts : ∀ w ∈ tblG, w.before _ s = true := fun w h => atoms_spec (ws := (wsG yX10_lookAround cX10_lookAround 5 none)) B.pre w (List.mem_cons_of_mem _ h)
  have hown : s.vm.findClass RX10 = some m.cls := findClass_of_methodNamed B.named
  have hlocks := B.notSynchronized
  subst hsz
  have hD := hD0.self (sz := s.heap.size)
  generalize hAe : va_A [(a_k, (oc5 a_h a_j a_pt e_ln e_se e_lh e_br e_we e_me e_ce e_wy e_ho e_ov)), (a_h, (oc1 e_wa e_le e_st e_fo e_lc a_l a_g a_b a_s a_p a_w e_gb a_bb)), (a_g, (oc6 6 5 a_gn e_g)), (a_gn, (arI G 30 f_g)), (a_b, (oc6 5 24 a_bn e_b)), (a_bn, (arI G 120 f_b)), (a_p, (oc6 8 5 a_pn e_p)), (a_pn, (arI G 40 f_p)), (a_bb, (arJ G 24 f_bb)), (a_j, (oc2 a_as a_sk)), (a_as, (arI G 8 f_as)), (a_sk, (arJ G 50 f_sk)), (a_l, (arW G 6 f_l)), (a_pt, (arI G 200 f_pt)), (a_wa, (oc10 a_h a_k a_bo)), (a_bo, (arJ G 24 f_bo))] s.heap.size = A at hD hT ⊢
  have hA : ∀ q : Nat, s.heap.size ≤ q → A q := fun q h => by rw [← hAe]; exact Or.inr h
  have hS : va_S A s.heap s.heap [] := va_S.rf
  have hP : va_P G.1 vwCl [(a_k, (oc5 a_h a_j a_pt e_ln e_se e_lh e_br e_we e_me e_ce e_wy e_ho e_ov)), (a_h, (oc1 e_wa e_le e_st e_fo e_lc a_l a_g a_b a_s a_p a_w e_gb a_bb)), (a_g, (oc6 6 5 a_gn e_g)), (a_gn, (arI G 30 f_g)), (a_b, (oc6 5 24 a_bn e_b)), (a_bn, (arI G 120 f_b)), (a_p, (oc6 8 5 a_pn e_p)), (a_pn, (arI G 40 f_p)), (a_bb, (arJ G 24 f_bb)), (a_j, (oc2 a_as a_sk)), (a_as, (arI G 8 f_as)), (a_sk, (arJ G 50 f_sk)), (a_l, (arW G 6 f_l)), (a_pt, (arI G 200 f_pt)), (a_wa, (oc10 a_h a_k a_bo)), (a_bo, (arJ G 24 f_bo))] s.heap := hP
  have hl := lv_entry ([.ref a_wa]) (n := 5) (Nat.le_of_ble_eq_true rfl)
  rw [lg_entry_eq]
  generalize (lg_sl ([.ref a_wa]) ++ List.replicate (5 - (lg_sl ([.ref a_wa])).length) Slot.unset).toArray = ls at hl ⊢
  have hl : lv_has ls 5 [(0, .ref a_wa)] := hl
  refine lv_aload_n hx hb dX10_lookAround_0 rfl (lv_at hl 0 rfl) ?_
  refine va_get (D := G.1) (ci := 10) (v := .ref a_bo) (C := RX10) (T := TX10) (N := 3) hx hb hts inG_X10 hown hK hP 14 rfl rfl 2 (by decide) (hts _ fl_X10_9) (fun _ h9 => h9) rfl dX10_lookAround_1 ?_
  refine lv_lconst (v := 0) hx hb dX10_lookAround_4 (by decide) ?_
  obtain ⟨hPc, hDc, hFc⟩ := g5_sub3 (wc := [(a_bo, (arJ G 24 f_bo))]) hP hD hS hA [15] (by decide) rfl
  refine va_callv (va_runS (As := [.ref a_bo, .long 0]) (rest := []) ⟨hx, hb, hml, hown, hts⟩ (k_fillJ24 l G a_bo s.heap.size 0 f_bo) (va_cwS 2 hts gS_X10_23 rfl rfl rfl hs_J7_fill_d0a16 ⟨Nat.le_of_ble_eq_true rfl, Nat.le_of_ble_eq_true rfl⟩) (g5_preS hPc hK hDc hN hT hS hFc) rfl rfl hl.1 rfl (lv_room (Nat.le_of_ble_eq_true rfl)) dX10_lookAround_5 ⟨Nat.le_of_ble_eq_true rfl, Nat.le_of_ble_eq_true rfl⟩) hS (fun q _ h => hFc q h) hFc (fun u t H1 locs ht hvm hw hB hz1 hk1 hS => ?_)
  obtain ⟨hP1, hD1⟩ := hB
  rw [ht] at hP1
  obtain rfl := hw
  obtain ⟨hP, hD⟩ := va_join (wr := [(a_k, (oc5 a_h a_j a_pt e_ln e_se e_lh e_br e_we e_me e_ce e_wy e_ho e_ov)), (a_h, (oc1 e_wa e_le e_st e_fo e_lc a_l a_g a_b a_s a_p a_w e_gb a_bb)), (a_g, (oc6 6 5 a_gn e_g)), (a_gn, (arI G 30 f_g)), (a_b, (oc6 5 24 a_bn e_b)), (a_bn, (arI G 120 f_b)), (a_p, (oc6 8 5 a_pn e_p)), (a_pn, (arI G 40 f_p)), (a_bb, (arJ G 24 f_bb)), (a_j, (oc2 a_as a_sk)), (a_as, (arI G 8 f_as)), (a_sk, (arJ G 50 f_sk)), (a_l, (arW G 6 f_l)), (a_pt, (arI G 200 f_pt)), (a_wa, (oc10 a_h a_k a_bo))]) hP hD [15] [0, 1, 2, 3, 4, 5, 6, 7, 8, 9, 10, 11, 12, 13, 14] rfl rfl (by decide) (by decide) hk1 hFc hP1 hD1
  generalize H1 = H at hP hS ⊢
  refine g5_rs [(a_k, (oc5 a_h a_j a_pt e_ln e_se e_lh e_br e_we e_me e_ce e_wy e_ho e_ov)), (a_h, (oc1 e_wa e_le e_st e_fo e_lc a_l a_g a_b a_s a_p a_w e_gb a_bb)), (a_g, (oc6 6 5 a_gn e_g)), (a_gn, (arI G 30 f_g)), (a_b, (oc6 5 24 a_bn e_b)), (a_bn, (arI G 120 f_b)), (a_p, (oc6 8 5 a_pn e_p)), (a_pn, (arI G 40 f_p)), (a_bb, (arJ G 24 f_bb)), (a_j, (oc2 a_as a_sk)), (a_as, (arI G 8 f_as)), (a_sk, (arJ G 50 f_sk)), (a_l, (arW G 6 f_l)), (a_pt, (arI G 200 f_pt)), (a_wa, (oc10 a_h a_k a_bo)), (a_bo, (arJ G 24 (fun _ => 0)))] hP hD (fun hP hD => ?_)
  refine lv_iconst (v := 0) hx hb dX10_lookAround_8 (by decide) ?_
  refine lv_istore_n (lv' := [(1, .int 0), (0, .ref a_wa)]) hx hb dX10_lookAround_9 rfl hl (by decide) rfl (fun ls hl => ?_)
  refine g5_loop (α := (Int32) × (Int32) × (Int32) × (Int32) × (Int32) × (Int32) × (Int32) × (Int32) × (Int32) × (Int32) × (Nat → Int32) × (Nat → Int32) × (Nat → Int64) × (Int32) × (Nat → Int64)) (fun (q : (Int32) × (Int32) × (Int32) × (Int32) × (Int32) × (Int32) × (Int32) × (Int32) × (Int32) × (Int32) × (Nat → Int32) × (Nat → Int32) × (Nat → Int64) × (Int32) × (Nat → Int64)) (ls : Array Slot) (H : Heap) (locs : List Loc) => match q with | (k_q, k_se, k_lh, k_br, k_we, k_me, k_ce, k_wy, k_ho, k_ov, k_pt, k_as, k_sk, k_ln, k_bo) => lv_has ls 5 [(1, .int k_q), (0, .ref a_wa)] ∧ va_P G.1 vwCl [(a_k, (oc5 a_h a_j a_pt k_ln k_se k_lh k_br k_we k_me k_ce k_wy k_ho k_ov)), (a_h, (oc1 e_wa e_le e_st e_fo e_lc a_l a_g a_b a_s a_p a_w e_gb a_bb)), (a_g, (oc6 6 5 a_gn e_g)), (a_gn, (arI G 30 f_g)), (a_b, (oc6 5 24 a_bn e_b)), (a_bn, (arI G 120 f_b)), (a_p, (oc6 8 5 a_pn e_p)), (a_pn, (arI G 40 f_p)), (a_bb, (arJ G 24 f_bb)), (a_j, (oc2 a_as a_sk)), (a_as, (arI G 8 k_as)), (a_sk, (arJ G 50 k_sk)), (a_l, (arW G 6 f_l)), (a_pt, (arI G 200 k_pt)), (a_wa, (oc10 a_h a_k a_bo)), (a_bo, (arJ G 24 k_bo))] H ∧ va_D A [(a_k, (oc5 a_h a_j a_pt k_ln k_se k_lh k_br k_we k_me k_ce k_wy k_ho k_ov)), (a_h, (oc1 e_wa e_le e_st e_fo e_lc a_l a_g a_b a_s a_p a_w e_gb a_bb)), (a_g, (oc6 6 5 a_gn e_g)), (a_gn, (arI G 30 f_g)), (a_b, (oc6 5 24 a_bn e_b)), (a_bn, (arI G 120 f_b)), (a_p, (oc6 8 5 a_pn e_p)), (a_pn, (arI G 40 f_p)), (a_bb, (arJ G 24 f_bb)), (a_j, (oc2 a_as a_sk)), (a_as, (arI G 8 k_as)), (a_sk, (arJ G 50 k_sk)), (a_l, (arW G 6 f_l)), (a_pt, (arI G 200 k_pt)), (a_wa, (oc10 a_h a_k a_bo)), (a_bo, (arJ G 24 k_bo))] ∧ va_S A s.heap H locs ∧ (0 ≤ k_q.toInt ∧ k_q.toInt ≤ 5) ∧ (0 ≤ k_ov.toInt ∧ k_ov.toInt ≤ 1) ∧ (k_q.toInt ≤ e_b.toInt)) (fun (q : (Int32) × (Int32) × (Int32) × (Int32) × (Int32) × (Int32) × (Int32) × (Int32) × (Int32) × (Int32) × (Nat → Int32) × (Nat → Int32) × (Nat → Int64) × (Int32) × (Nat → Int64)) => match q with | (k_q, k_se, k_lh, k_br, k_we, k_me, k_ce, k_wy, k_ho, k_ov, k_pt, k_as, k_sk, k_ln, k_bo) => Int.toNat (5 - k_q.toInt)) (0, e_se, e_lh, e_br, e_we, e_me, e_ce, e_wy, e_ho, e_ov, f_pt, f_as, f_sk, e_ln, (fun _ => 0)) ⟨lv_sub hl [0, 1] rfl, hP, hD, hS, ⟨by decide, by decide⟩, h_e_ov, by have z0 : (0 : Int32).toInt = 0 := (by decide); omega⟩ ?_
  rintro ⟨k_q, k_se, k_lh, k_br, k_we, k_me, k_ce, k_wy, k_ho, k_ov, k_pt, k_as, k_sk, k_ln, k_bo⟩ ls H locs ⟨hl, hP, hD, hS, i_1, i_2, i_3⟩ ih_10_4
  have hl : lv_has ls 5 [(1, .int k_q), (0, .ref a_wa)] := hl
  have i_1 : 0 ≤ k_q.toInt ∧ k_q.toInt ≤ 5 := i_1
  have i_2 : 0 ≤ k_ov.toInt ∧ k_ov.toInt ≤ 1 := i_2
  have i_3 : k_q.toInt ≤ e_b.toInt := i_3
  refine g5_rs [(a_k, (oc5 a_h a_j a_pt k_ln k_se k_lh k_br k_we k_me k_ce k_wy k_ho k_ov)), (a_h, (oc1 e_wa e_le e_st e_fo e_lc a_l a_g a_b a_s a_p a_w e_gb a_bb)), (a_g, (oc6 6 5 a_gn e_g)), (a_gn, (arI G 30 f_g)), (a_b, (oc6 5 24 a_bn e_b)), (a_bn, (arI G 120 f_b)), (a_p, (oc6 8 5 a_pn e_p)), (a_pn, (arI G 40 f_p)), (a_bb, (arJ G 24 f_bb)), (a_j, (oc2 a_as a_sk)), (a_as, (arI G 8 k_as)), (a_sk, (arJ G 50 k_sk)), (a_l, (arW G 6 f_l)), (a_pt, (arI G 200 k_pt)), (a_wa, (oc10 a_h a_k a_bo)), (a_bo, (arJ G 24 k_bo))] hP hD (fun hP hD => ?_)
  refine lv_iload_n hx hb dX10_lookAround_10 rfl (lv_at hl 0 rfl) ?_
  refine lv_aload_n hx hb dX10_lookAround_11 rfl (lv_at hl 1 rfl) ?_
  refine va_get (D := G.1) (ci := 10) (v := .ref a_h) (C := RX10) (T := TX10) (N := 3) hx hb hts inG_X10 hown hK hP 14 rfl rfl 0 (by decide) (hts _ fl_X10_15) (fun _ h9 => h9) rfl dX10_lookAround_12 ?_
  refine va_get (D := G.1) (ci := 1) (v := .ref a_b) (C := RX1) (T := TX1) (N := 13) hx hb hts inG_X1 hown hK hP 1 rfl rfl 7 (by decide) (hts _ fl_X10_29) (fun _ h9 => h9) rfl dX10_lookAround_15 ?_
  refine va_get (D := G.1) (ci := 6) (v := .int e_b) (C := RX6) (T := TX6) (N := 4) hx hb hts inG_X6 hown hK hP 4 rfl rfl 3 (by decide) (hts _ fl_X10_35) (fun _ h9 => h9) rfl dX10_lookAround_18 ?_
  refine lv_icmp_ge (tgt := 93) hx hb dX10_lookAround_21 (by decide) (fun c_5 => ?_) (fun c_5 => ?_)
  ·
    have i_5 : k_q.toInt ≥ e_b.toInt := by have z := g5_ge (a := k_q.toInt) (b := e_b.toInt) (by rfl) (by rfl) c_5; omega
    exact W.vret hx hb hr (fun t ht hW => ⟨⟨[(a_k, (oc5 a_h a_j a_pt k_ln k_se k_lh k_br k_we k_me k_ce k_wy k_ho k_ov)), (a_h, (oc1 e_wa e_le e_st e_fo e_lc a_l a_g a_b a_s a_p a_w e_gb a_bb)), (a_g, (oc6 6 5 a_gn e_g)), (a_gn, (arI G 30 f_g)), (a_b, (oc6 5 24 a_bn e_b)), (a_bn, (arI G 120 f_b)), (a_p, (oc6 8 5 a_pn e_p)), (a_pn, (arI G 40 f_p)), (a_bb, (arJ G 24 f_bb)), (a_j, (oc2 a_as a_sk)), (a_as, (arI G 8 k_as)), (a_sk, (arJ G 50 k_sk)), (a_l, (arW G 6 f_l)), (a_pt, (arI G 200 k_pt)), (a_wa, (oc10 a_h a_k a_bo)), (a_bo, (arJ G 24 k_bo))], rfl, ⟨k_ln, k_se, k_lh, k_br, k_we, k_me, k_ce, k_wy, k_ho, k_ov, k_pt, k_as, k_sk, k_bo, i_2, rfl⟩, by rw [ht]; exact hP.sub [0, 1, 2, 3, 4, 5, 6, 7, 8, 9, 10, 11, 12, 13, 14, 15] rfl, hD.sub [0, 1, 2, 3, 4, 5, 6, 7, 8, 9, 10, 11, 12, 13, 14, 15] (by decide) rfl⟩, hS.F ht⟩) hS.2.2 dX10_lookAround_93
  ·
    have i_5 : k_q.toInt < e_b.toInt := by have z := g5_geN (a := k_q.toInt) (b := e_b.toInt) (by rfl) (by rfl) c_5; omega
    refine lv_iconst (v := 0) hx hb dX10_lookAround_24 (by decide) ?_
    refine lv_istore_n (lv' := [(2, .int 0), (1, .int k_q), (0, .ref a_wa)]) hx hb dX10_lookAround_25 rfl hl (by decide) rfl (fun ls hl => ?_)
    refine g5_loop (α := (Int32) × (Int32) × (Int32) × (Int32) × (Int32) × (Int32) × (Int32) × (Int32) × (Int32) × (Int32) × (Nat → Int32) × (Nat → Int32) × (Nat → Int64) × (Int32) × (Nat → Int64)) (fun (q : (Int32) × (Int32) × (Int32) × (Int32) × (Int32) × (Int32) × (Int32) × (Int32) × (Int32) × (Int32) × (Nat → Int32) × (Nat → Int32) × (Nat → Int64) × (Int32) × (Nat → Int64)) (ls : Array Slot) (H : Heap) (locs : List Loc) => match q with | (m_q, m_se, m_lh, m_br, m_we, m_me, m_ce, m_wy, m_ho, m_ov, m_pt, m_as, m_sk, m_ln, m_bo) => lv_has ls 5 [(2, .int m_q), (1, .int k_q), (0, .ref a_wa)] ∧ va_P G.1 vwCl [(a_k, (oc5 a_h a_j a_pt m_ln m_se m_lh m_br m_we m_me m_ce m_wy m_ho m_ov)), (a_h, (oc1 e_wa e_le e_st e_fo e_lc a_l a_g a_b a_s a_p a_w e_gb a_bb)), (a_g, (oc6 6 5 a_gn e_g)), (a_gn, (arI G 30 f_g)), (a_b, (oc6 5 24 a_bn e_b)), (a_bn, (arI G 120 f_b)), (a_p, (oc6 8 5 a_pn e_p)), (a_pn, (arI G 40 f_p)), (a_bb, (arJ G 24 f_bb)), (a_j, (oc2 a_as a_sk)), (a_as, (arI G 8 m_as)), (a_sk, (arJ G 50 m_sk)), (a_l, (arW G 6 f_l)), (a_pt, (arI G 200 m_pt)), (a_wa, (oc10 a_h a_k a_bo)), (a_bo, (arJ G 24 m_bo))] H ∧ va_D A [(a_k, (oc5 a_h a_j a_pt m_ln m_se m_lh m_br m_we m_me m_ce m_wy m_ho m_ov)), (a_h, (oc1 e_wa e_le e_st e_fo e_lc a_l a_g a_b a_s a_p a_w e_gb a_bb)), (a_g, (oc6 6 5 a_gn e_g)), (a_gn, (arI G 30 f_g)), (a_b, (oc6 5 24 a_bn e_b)), (a_bn, (arI G 120 f_b)), (a_p, (oc6 8 5 a_pn e_p)), (a_pn, (arI G 40 f_p)), (a_bb, (arJ G 24 f_bb)), (a_j, (oc2 a_as a_sk)), (a_as, (arI G 8 m_as)), (a_sk, (arJ G 50 m_sk)), (a_l, (arW G 6 f_l)), (a_pt, (arI G 200 m_pt)), (a_wa, (oc10 a_h a_k a_bo)), (a_bo, (arJ G 24 m_bo))] ∧ va_S A s.heap H locs ∧ (0 ≤ m_q.toInt ∧ m_q.toInt ≤ 24) ∧ (0 ≤ m_ov.toInt ∧ m_ov.toInt ≤ 1)) (fun (q : (Int32) × (Int32) × (Int32) × (Int32) × (Int32) × (Int32) × (Int32) × (Int32) × (Int32) × (Int32) × (Nat → Int32) × (Nat → Int32) × (Nat → Int64) × (Int32) × (Nat → Int64)) => match q with | (m_q, m_se, m_lh, m_br, m_we, m_me, m_ce, m_wy, m_ho, m_ov, m_pt, m_as, m_sk, m_ln, m_bo) => Int.toNat (24 - m_q.toInt)) (0, k_se, k_lh, k_br, k_we, k_me, k_ce, k_wy, k_ho, k_ov, k_pt, k_as, k_sk, k_ln, k_bo) ⟨lv_sub hl [0, 1, 2] rfl, hP, hD, hS, ⟨by decide, by decide⟩, i_2⟩ ?_
    rintro ⟨m_q, m_se, m_lh, m_br, m_we, m_me, m_ce, m_wy, m_ho, m_ov, m_pt, m_as, m_sk, m_ln, m_bo⟩ ls H locs ⟨hl, hP, hD, hS, i_6, i_7⟩ ih_26_8
    have hl : lv_has ls 5 [(2, .int m_q), (1, .int k_q), (0, .ref a_wa)] := hl
    have i_6 : 0 ≤ m_q.toInt ∧ m_q.toInt ≤ 24 := i_6
    have i_7 : 0 ≤ m_ov.toInt ∧ m_ov.toInt ≤ 1 := i_7
    refine g5_rs [(a_k, (oc5 a_h a_j a_pt m_ln m_se m_lh m_br m_we m_me m_ce m_wy m_ho m_ov)), (a_h, (oc1 e_wa e_le e_st e_fo e_lc a_l a_g a_b a_s a_p a_w e_gb a_bb)), (a_g, (oc6 6 5 a_gn e_g)), (a_gn, (arI G 30 f_g)), (a_b, (oc6 5 24 a_bn e_b)), (a_bn, (arI G 120 f_b)), (a_p, (oc6 8 5 a_pn e_p)), (a_pn, (arI G 40 f_p)), (a_bb, (arJ G 24 f_bb)), (a_j, (oc2 a_as a_sk)), (a_as, (arI G 8 m_as)), (a_sk, (arJ G 50 m_sk)), (a_l, (arW G 6 f_l)), (a_pt, (arI G 200 m_pt)), (a_wa, (oc10 a_h a_k a_bo)), (a_bo, (arJ G 24 m_bo))] hP hD (fun hP hD => ?_)
    refine lv_iload_n hx hb dX10_lookAround_26 rfl (lv_at hl 0 rfl) ?_
    refine lv_bipush (v := 24) hx hb dX10_lookAround_27 (by decide) ?_
    refine lv_icmp_ge (tgt := 87) hx hb dX10_lookAround_29 (by decide) (fun c_9 => ?_) (fun c_9 => ?_)
    ·
      have i_9 : m_q.toInt ≥ 24 := by have z := g5_ge (a := m_q.toInt) (b := 24) (by rfl) (by decide) c_9; omega
      refine lv_iinc (v := (k_q + 1)) (lv' := [(1, .int (k_q + 1)), (2, .int m_q), (0, .ref a_wa)]) hx hb dX10_lookAround_87 hl (k := 1) rfl rfl (by decide) rfl (fun ls hl => ?_)
      have t_10 : (k_q + 1).toInt = k_q.toInt + 1 := g5_iadd (a := k_q.toInt) (b := 1) rfl (by decide) (by omega) (by omega)
      refine lv_goto (tgt := 10) hx hb dX10_lookAround_90 (by decide) ?_
      exact ih_10_4 ((k_q + 1), m_se, m_lh, m_br, m_we, m_me, m_ce, m_wy, m_ho, m_ov, m_pt, m_as, m_sk, m_ln, m_bo) ls H locs (show Int.toNat (5 - (k_q + 1).toInt) < Int.toNat (5 - k_q.toInt) from g_up (show k_q.toInt < (k_q + 1).toInt by omega) (show k_q.toInt < 5 by omega)) ⟨lv_sub hl [0, 2] rfl, hP, hD, hS, ⟨by omega, by omega⟩, i_7, by omega⟩
    ·
      have i_9 : m_q.toInt < 24 := by have z := g5_geN (a := m_q.toInt) (b := 24) (by rfl) (by decide) c_9; omega
      refine lv_aload_n hx hb dX10_lookAround_32 rfl (lv_at hl 2 rfl) ?_
      refine va_get (D := G.1) (ci := 10) (v := .ref a_h) (C := RX10) (T := TX10) (N := 3) hx hb hts inG_X10 hown hK hP 14 rfl rfl 0 (by decide) (hts _ fl_X10_15) (fun _ h9 => h9) rfl dX10_lookAround_33 ?_
      refine va_get (D := G.1) (ci := 1) (v := .ref a_b) (C := RX1) (T := TX1) (N := 13) hx hb hts inG_X1 hown hK hP 1 rfl rfl 7 (by decide) (hts _ fl_X10_29) (fun _ h9 => h9) rfl dX10_lookAround_36 ?_
      refine lv_iload_n hx hb dX10_lookAround_39 rfl (lv_at hl 1 rfl) ?_
      refine lv_iload_n hx hb dX10_lookAround_40 rfl (lv_at hl 0 rfl) ?_
      obtain ⟨hPc, hDc, hFc⟩ := g5_sub3 (wc := [(a_b, (oc6 5 24 a_bn e_b)), (a_bn, (arI G 120 f_b))]) hP hD hS hA [4, 5] (by decide) rfl
      refine va_calli (va_runV (As := [.int k_q, .int m_q]) (rest := []) ⟨hx, hb, hml, hown, hts⟩ (t_get_B l G a_b a_bn H.size e_b k_q m_q f_b h_e_b) (cwV 2 hts gV_X10_41 rfl rfl rfl hv_X6_get ⟨Nat.le_of_ble_eq_true rfl, Nat.le_of_ble_eq_true rfl⟩) (g5_preV hPc hK hDc hN hT hS hFc (ci := 6) (q0 := 0) rfl rfl) rfl rfl hl.1 rfl (lv_room (Nat.le_of_ble_eq_true rfl)) dX10_lookAround_41 ⟨Nat.le_of_ble_eq_true rfl, Nat.le_of_ble_eq_true rfl⟩) hS (fun q _ h => hFc q h) hFc (fun r u t H1 locs ht hvm hw hB hz1 hk1 hS => ?_)
      obtain ⟨hP1, hD1⟩ := hB
      rw [ht] at hP1
      obtain ⟨z12, i_11, y13, rfl⟩ := hw
      have i_11 : z12 = tget f_b e_b.toInt 24 k_q.toInt m_q.toInt := i_11
      obtain ⟨hP, hD⟩ := va_join (wr := [(a_k, (oc5 a_h a_j a_pt m_ln m_se m_lh m_br m_we m_me m_ce m_wy m_ho m_ov)), (a_h, (oc1 e_wa e_le e_st e_fo e_lc a_l a_g a_b a_s a_p a_w e_gb a_bb)), (a_g, (oc6 6 5 a_gn e_g)), (a_gn, (arI G 30 f_g)), (a_p, (oc6 8 5 a_pn e_p)), (a_pn, (arI G 40 f_p)), (a_bb, (arJ G 24 f_bb)), (a_j, (oc2 a_as a_sk)), (a_as, (arI G 8 m_as)), (a_sk, (arJ G 50 m_sk)), (a_l, (arW G 6 f_l)), (a_pt, (arI G 200 m_pt)), (a_wa, (oc10 a_h a_k a_bo)), (a_bo, (arJ G 24 m_bo))]) hP hD [4, 5] [0, 1, 2, 3, 6, 7, 8, 9, 10, 11, 12, 13, 14, 15] rfl rfl (by decide) (by decide) hk1 hFc hP1 hD1
      generalize H1 = H at hP hS ⊢
      refine g5_rs [(a_k, (oc5 a_h a_j a_pt m_ln m_se m_lh m_br m_we m_me m_ce m_wy m_ho m_ov)), (a_h, (oc1 e_wa e_le e_st e_fo e_lc a_l a_g a_b a_s a_p a_w e_gb a_bb)), (a_g, (oc6 6 5 a_gn e_g)), (a_gn, (arI G 30 f_g)), (a_p, (oc6 8 5 a_pn e_p)), (a_pn, (arI G 40 f_p)), (a_bb, (arJ G 24 f_bb)), (a_j, (oc2 a_as a_sk)), (a_as, (arI G 8 m_as)), (a_sk, (arJ G 50 m_sk)), (a_l, (arW G 6 f_l)), (a_pt, (arI G 200 m_pt)), (a_wa, (oc10 a_h a_k a_bo)), (a_bo, (arJ G 24 m_bo)), (a_b, (oc6 5 24 a_bn e_b)), (a_bn, (arI G 120 f_b))] hP hD (fun hP hD => ?_)
      refine g5_ti (v := z12) y13 ?_
      refine lv_istore_n (lv' := [(3, .int z12), (2, .int m_q), (1, .int k_q), (0, .ref a_wa)]) hx hb dX10_lookAround_44 rfl hl (by decide) rfl (fun ls hl => ?_)
      refine lv_iconst (v := 0) hx hb dX10_lookAround_45 (by decide) ?_
      refine lv_istore (lv' := [(4, .int 0), (3, .int z12), (2, .int m_q), (1, .int k_q), (0, .ref a_wa)]) hx hb dX10_lookAround_46 hl (by decide) rfl (fun ls hl => ?_)
      refine g5_loop (α := (Int32) × (Int32) × (Int32) × (Int32) × (Int32) × (Int32) × (Int32) × (Int32) × (Int32) × (Int32) × (Nat → Int32) × (Nat → Int32) × (Nat → Int64) × (Int32) × (Nat → Int64)) (fun (q : (Int32) × (Int32) × (Int32) × (Int32) × (Int32) × (Int32) × (Int32) × (Int32) × (Int32) × (Int32) × (Nat → Int32) × (Nat → Int32) × (Nat → Int64) × (Int32) × (Nat → Int64)) (ls : Array Slot) (H : Heap) (locs : List Loc) => match q with | (n_q, n_se, n_lh, n_br, n_we, n_me, n_ce, n_wy, n_ho, n_ov, n_pt, n_as, n_sk, n_ln, n_bo) => lv_has ls 5 [(4, .int n_q), (3, .int z12), (2, .int m_q), (1, .int k_q), (0, .ref a_wa)] ∧ va_P G.1 vwCl [(a_k, (oc5 a_h a_j a_pt n_ln n_se n_lh n_br n_we n_me n_ce n_wy n_ho n_ov)), (a_h, (oc1 e_wa e_le e_st e_fo e_lc a_l a_g a_b a_s a_p a_w e_gb a_bb)), (a_g, (oc6 6 5 a_gn e_g)), (a_gn, (arI G 30 f_g)), (a_p, (oc6 8 5 a_pn e_p)), (a_pn, (arI G 40 f_p)), (a_bb, (arJ G 24 f_bb)), (a_j, (oc2 a_as a_sk)), (a_as, (arI G 8 n_as)), (a_sk, (arJ G 50 n_sk)), (a_l, (arW G 6 f_l)), (a_pt, (arI G 200 n_pt)), (a_wa, (oc10 a_h a_k a_bo)), (a_bo, (arJ G 24 n_bo)), (a_b, (oc6 5 24 a_bn e_b)), (a_bn, (arI G 120 f_b))] H ∧ va_D A [(a_k, (oc5 a_h a_j a_pt n_ln n_se n_lh n_br n_we n_me n_ce n_wy n_ho n_ov)), (a_h, (oc1 e_wa e_le e_st e_fo e_lc a_l a_g a_b a_s a_p a_w e_gb a_bb)), (a_g, (oc6 6 5 a_gn e_g)), (a_gn, (arI G 30 f_g)), (a_p, (oc6 8 5 a_pn e_p)), (a_pn, (arI G 40 f_p)), (a_bb, (arJ G 24 f_bb)), (a_j, (oc2 a_as a_sk)), (a_as, (arI G 8 n_as)), (a_sk, (arJ G 50 n_sk)), (a_l, (arW G 6 f_l)), (a_pt, (arI G 200 n_pt)), (a_wa, (oc10 a_h a_k a_bo)), (a_bo, (arJ G 24 n_bo)), (a_b, (oc6 5 24 a_bn e_b)), (a_bn, (arI G 120 f_b))] ∧ va_S A s.heap H locs ∧ (0 ≤ n_q.toInt ∧ n_q.toInt ≤ 4) ∧ (0 ≤ n_ov.toInt ∧ n_ov.toInt ≤ 1)) (fun (q : (Int32) × (Int32) × (Int32) × (Int32) × (Int32) × (Int32) × (Int32) × (Int32) × (Int32) × (Int32) × (Nat → Int32) × (Nat → Int32) × (Nat → Int64) × (Int32) × (Nat → Int64)) => match q with | (n_q, n_se, n_lh, n_br, n_we, n_me, n_ce, n_wy, n_ho, n_ov, n_pt, n_as, n_sk, n_ln, n_bo) => Int.toNat (4 - n_q.toInt)) (0, m_se, m_lh, m_br, m_we, m_me, m_ce, m_wy, m_ho, m_ov, m_pt, m_as, m_sk, m_ln, m_bo) ⟨lv_sub hl [0, 1, 2, 3, 4] rfl, hP, hD, hS, ⟨by decide, by decide⟩, i_7⟩ ?_
      rintro ⟨n_q, n_se, n_lh, n_br, n_we, n_me, n_ce, n_wy, n_ho, n_ov, n_pt, n_as, n_sk, n_ln, n_bo⟩ ls H locs ⟨hl, hP, hD, hS, i_14, i_15⟩ ih_48_16
      have hl : lv_has ls 5 [(4, .int n_q), (3, .int z12), (2, .int m_q), (1, .int k_q), (0, .ref a_wa)] := hl
      have i_14 : 0 ≤ n_q.toInt ∧ n_q.toInt ≤ 4 := i_14
      have i_15 : 0 ≤ n_ov.toInt ∧ n_ov.toInt ≤ 1 := i_15
      refine g5_rs [(a_k, (oc5 a_h a_j a_pt n_ln n_se n_lh n_br n_we n_me n_ce n_wy n_ho n_ov)), (a_h, (oc1 e_wa e_le e_st e_fo e_lc a_l a_g a_b a_s a_p a_w e_gb a_bb)), (a_g, (oc6 6 5 a_gn e_g)), (a_gn, (arI G 30 f_g)), (a_p, (oc6 8 5 a_pn e_p)), (a_pn, (arI G 40 f_p)), (a_bb, (arJ G 24 f_bb)), (a_j, (oc2 a_as a_sk)), (a_as, (arI G 8 n_as)), (a_sk, (arJ G 50 n_sk)), (a_l, (arW G 6 f_l)), (a_pt, (arI G 200 n_pt)), (a_wa, (oc10 a_h a_k a_bo)), (a_bo, (arJ G 24 n_bo)), (a_b, (oc6 5 24 a_bn e_b)), (a_bn, (arI G 120 f_b))] hP hD (fun hP hD => ?_)
      refine lv_iload hx hb dX10_lookAround_48 (lv_at hl 0 rfl) ?_
      refine lv_iconst (v := 4) hx hb dX10_lookAround_50 (by decide) ?_
      refine lv_icmp_ge (tgt := 81) hx hb dX10_lookAround_51 (by decide) (fun c_17 => ?_) (fun c_17 => ?_)
      ·
        have i_17 : n_q.toInt ≥ 4 := by have z := g5_ge (a := n_q.toInt) (b := 4) (by rfl) (by decide) c_17; omega
        refine lv_iinc (v := (m_q + 1)) (lv' := [(2, .int (m_q + 1)), (4, .int n_q), (3, .int z12), (1, .int k_q), (0, .ref a_wa)]) hx hb dX10_lookAround_81 hl (k := 2) rfl rfl (by decide) rfl (fun ls hl => ?_)
        have t_18 : (m_q + 1).toInt = m_q.toInt + 1 := g5_iadd (a := m_q.toInt) (b := 1) rfl (by decide) (by omega) (by omega)
        refine lv_goto (tgt := 26) hx hb dX10_lookAround_84 (by decide) ?_
        exact ih_26_8 ((m_q + 1), n_se, n_lh, n_br, n_we, n_me, n_ce, n_wy, n_ho, n_ov, n_pt, n_as, n_sk, n_ln, n_bo) ls H locs (show Int.toNat (24 - (m_q + 1).toInt) < Int.toNat (24 - m_q.toInt) from g_up (show m_q.toInt < (m_q + 1).toInt by omega) (show m_q.toInt < 24 by omega)) ⟨lv_sub hl [0, 3, 4] rfl, hP.sub [0, 1, 2, 3, 14, 15, 4, 5, 6, 7, 8, 9, 10, 11, 12, 13] rfl, hD.sub [0, 1, 2, 3, 14, 15, 4, 5, 6, 7, 8, 9, 10, 11, 12, 13] (by decide) rfl, hS, ⟨by omega, by omega⟩, i_15⟩
      ·
        have i_17 : n_q.toInt < 4 := by have z := g5_geN (a := n_q.toInt) (b := 4) (by rfl) (by decide) c_17; omega
        refine lv_iload_n hx hb dX10_lookAround_54 rfl (lv_at hl 1 rfl) ?_
        refine lv_iconst (v := (-1)) hx hb dX10_lookAround_55 (by decide) ?_
        refine lv_icmp_eq (tgt := 81) hx hb dX10_lookAround_56 (by decide) (fun c_19 => ?_) (fun c_19 => ?_)
        ·
          have i_19 : z12.toInt = (-1) := by have z := g5_eq (a := z12.toInt) (b := (-1)) (by rfl) (by decide) c_19; omega
          refine lv_iinc (v := (m_q + 1)) (lv' := [(2, .int (m_q + 1)), (4, .int n_q), (3, .int z12), (1, .int k_q), (0, .ref a_wa)]) hx hb dX10_lookAround_81 hl (k := 2) rfl rfl (by decide) rfl (fun ls hl => ?_)
          have t_20 : (m_q + 1).toInt = m_q.toInt + 1 := g5_iadd (a := m_q.toInt) (b := 1) rfl (by decide) (by omega) (by omega)
          refine lv_goto (tgt := 26) hx hb dX10_lookAround_84 (by decide) ?_
          exact ih_26_8 ((m_q + 1), n_se, n_lh, n_br, n_we, n_me, n_ce, n_wy, n_ho, n_ov, n_pt, n_as, n_sk, n_ln, n_bo) ls H locs (show Int.toNat (24 - (m_q + 1).toInt) < Int.toNat (24 - m_q.toInt) from g_up (show m_q.toInt < (m_q + 1).toInt by omega) (show m_q.toInt < 24 by omega)) ⟨lv_sub hl [0, 3, 4] rfl, hP.sub [0, 1, 2, 3, 14, 15, 4, 5, 6, 7, 8, 9, 10, 11, 12, 13] rfl, hD.sub [0, 1, 2, 3, 14, 15, 4, 5, 6, 7, 8, 9, 10, 11, 12, 13] (by decide) rfl, hS, ⟨by omega, by omega⟩, i_15⟩
        ·
          have n_19 : gNe (z12.toInt) ((-1)) := by have z := g5_eqN (a := z12.toInt) (b := (-1)) (by rfl) (by decide) c_19; unfold gNe; omega
          refine lv_aload_n hx hb dX10_lookAround_59 rfl (lv_at hl 4 rfl) ?_
          refine va_get (D := G.1) (ci := 10) (v := .ref a_k) (C := RX10) (T := TX10) (N := 3) hx hb hts inG_X10 hown hK hP 12 rfl rfl 1 (by decide) (hts _ fl_X10_19) (fun _ h9 => h9) rfl dX10_lookAround_60 ?_
          refine lv_iload_n hx hb dX10_lookAround_63 rfl (lv_at hl 1 rfl) ?_
          refine lv_iload hx hb dX10_lookAround_64 (lv_at hl 0 rfl) ?_
          refine lv_iload_n hx hb dX10_lookAround_66 rfl (lv_at hl 2 rfl) ?_
          refine lv_iconst (v := 0) hx hb dX10_lookAround_67 (by decide) ?_
          obtain ⟨hPc, hDc, hFc⟩ := g5_sub3 (wc := [(a_k, (oc5 a_h a_j a_pt n_ln n_se n_lh n_br n_we n_me n_ce n_wy n_ho n_ov)), (a_h, (oc1 e_wa e_le e_st e_fo e_lc a_l a_g a_b a_s a_p a_w e_gb a_bb)), (a_g, (oc6 6 5 a_gn e_g)), (a_gn, (arI G 30 f_g)), (a_b, (oc6 5 24 a_bn e_b)), (a_bn, (arI G 120 f_b)), (a_p, (oc6 8 5 a_pn e_p)), (a_pn, (arI G 40 f_p)), (a_bb, (arJ G 24 f_bb)), (a_j, (oc2 a_as a_sk)), (a_as, (arI G 8 n_as)), (a_sk, (arJ G 50 n_sk)), (a_l, (arW G 6 f_l)), (a_pt, (arI G 200 n_pt))]) hP hD hS hA [0, 1, 2, 3, 14, 15, 4, 5, 6, 7, 8, 9, 10, 11] (by decide) rfl
          refine va_callv (va_runV (As := [.int z12, .int n_q, .int m_q, .int 0]) (rest := []) ⟨hx, hb, hml, hown, hts⟩ (k_runN l G a_k a_h a_g a_gn a_b a_bn a_p a_pn a_bb a_j a_as a_sk a_l a_pt a_s a_w H.size e_le e_st e_fo e_lc e_g e_b e_p n_ln n_se n_lh n_br n_we n_me n_ce n_wy n_ho n_ov z12 n_q m_q 0 e_wa e_gb f_g f_b f_p f_bb n_as n_sk f_l n_pt h_e_g h_e_b h_e_p i_15 (e_gk) (e_pk) (e_gi) (e_f)) (cwV 4 hts gV_X10_45 rfl rfl rfl hv_X5_run ⟨Nat.le_of_ble_eq_true rfl, Nat.le_of_ble_eq_true rfl⟩) (g5_preV hPc hK hDc hN hT hS hFc (ci := 5) (q0 := 0) rfl rfl) rfl rfl hl.1 rfl (lv_room (Nat.le_of_ble_eq_true rfl)) dX10_lookAround_68 ⟨Nat.le_of_ble_eq_true rfl, Nat.le_of_ble_eq_true rfl⟩) hS (fun q _ h => hFc q h) hFc (fun u t H1 locs ht hvm hw hB hz1 hk1 hS => ?_)
          obtain ⟨hP1, hD1⟩ := hB
          rw [ht] at hP1
          obtain ⟨z24, z25, z26, z27, z28, z29, z30, z31, z32, z33, z34, z35, z36, i_21, i_22, i_23, rfl⟩ := hw
          have i_21 : 0 ≤ z24.toInt ∧ z24.toInt ≤ 200 := i_21
          have i_22 : 0 ≤ z33.toInt ∧ z33.toInt ≤ 1 := i_22
          have i_23 : ∀ j : Nat, (j : Int) < z24.toInt → 0 ≤ (z34 j).toInt ∧ (z34 j).toInt ≤ 1535 := i_23
          obtain ⟨hP, hD⟩ := va_join (wr := [(a_wa, (oc10 a_h a_k a_bo)), (a_bo, (arJ G 24 n_bo))]) hP hD [0, 1, 2, 3, 14, 15, 4, 5, 6, 7, 8, 9, 10, 11] [12, 13] rfl rfl (by decide) (by decide) hk1 hFc hP1 hD1
          generalize H1 = H at hP hS ⊢
          refine g5_rs [(a_wa, (oc10 a_h a_k a_bo)), (a_bo, (arJ G 24 n_bo)), (a_k, (oc5 a_h a_j a_pt z24 z25 z26 z27 z28 z29 z30 z31 z32 z33)), (a_h, (oc1 e_wa e_le e_st e_fo e_lc a_l a_g a_b a_s a_p a_w e_gb a_bb)), (a_g, (oc6 6 5 a_gn e_g)), (a_gn, (arI G 30 f_g)), (a_b, (oc6 5 24 a_bn e_b)), (a_bn, (arI G 120 f_b)), (a_p, (oc6 8 5 a_pn e_p)), (a_pn, (arI G 40 f_p)), (a_bb, (arJ G 24 f_bb)), (a_j, (oc2 a_as a_sk)), (a_as, (arI G 8 z35)), (a_sk, (arJ G 50 z36)), (a_l, (arW G 6 f_l)), (a_pt, (arI G 200 z34))] hP hD (fun hP hD => ?_)
          refine lv_aload_n hx hb dX10_lookAround_71 rfl (lv_at hl 4 rfl) ?_
          obtain ⟨hPc, hDc, hFc⟩ := g5_sub3 (wc := [(a_wa, (oc10 a_h a_k a_bo)), (a_k, (oc5 a_h a_j a_pt z24 z25 z26 z27 z28 z29 z30 z31 z32 z33)), (a_pt, (arI G 200 z34)), (a_bo, (arJ G 24 n_bo))]) hP hD hS hA [0, 2, 15, 1] (by decide) rfl
          refine va_callv (va_runV (As := []) (rest := []) ⟨hx, hb, hml, hown, hts⟩ (w_addPoints l G a_wa a_k a_pt a_bo a_h a_j H.size z24 z25 z26 z27 z28 z29 z30 z31 z32 z33 z34 n_bo i_21 i_22 (i_23)) (cwV 0 hts gV_X10_51 rfl rfl rfl hv_X10_addPoints ⟨Nat.le_of_ble_eq_true rfl, Nat.le_of_ble_eq_true rfl⟩) (g5_preV hPc hK hDc hN hT hS hFc (ci := 10) (q0 := 0) rfl rfl) rfl rfl hl.1 rfl (lv_room (Nat.le_of_ble_eq_true rfl)) dX10_lookAround_72 ⟨Nat.le_of_ble_eq_true rfl, Nat.le_of_ble_eq_true rfl⟩) hS (fun q _ h => hFc q h) hFc (fun u t H1 locs ht hvm hw hB hz1 hk1 hS => ?_)
          obtain ⟨hP1, hD1⟩ := hB
          rw [ht] at hP1
          obtain ⟨z37, rfl⟩ := hw
          obtain ⟨hP, hD⟩ := va_join (wr := [(a_h, (oc1 e_wa e_le e_st e_fo e_lc a_l a_g a_b a_s a_p a_w e_gb a_bb)), (a_g, (oc6 6 5 a_gn e_g)), (a_gn, (arI G 30 f_g)), (a_b, (oc6 5 24 a_bn e_b)), (a_bn, (arI G 120 f_b)), (a_p, (oc6 8 5 a_pn e_p)), (a_pn, (arI G 40 f_p)), (a_bb, (arJ G 24 f_bb)), (a_j, (oc2 a_as a_sk)), (a_as, (arI G 8 z35)), (a_sk, (arJ G 50 z36)), (a_l, (arW G 6 f_l))]) hP hD [0, 2, 15, 1] [3, 4, 5, 6, 7, 8, 9, 10, 11, 12, 13, 14] rfl rfl (by decide) (by decide) hk1 hFc hP1 hD1
          generalize H1 = H at hP hS ⊢
          refine g5_rs [(a_h, (oc1 e_wa e_le e_st e_fo e_lc a_l a_g a_b a_s a_p a_w e_gb a_bb)), (a_g, (oc6 6 5 a_gn e_g)), (a_gn, (arI G 30 f_g)), (a_b, (oc6 5 24 a_bn e_b)), (a_bn, (arI G 120 f_b)), (a_p, (oc6 8 5 a_pn e_p)), (a_pn, (arI G 40 f_p)), (a_bb, (arJ G 24 f_bb)), (a_j, (oc2 a_as a_sk)), (a_as, (arI G 8 z35)), (a_sk, (arJ G 50 z36)), (a_l, (arW G 6 f_l)), (a_wa, (oc10 a_h a_k a_bo)), (a_k, (oc5 a_h a_j a_pt z24 z25 z26 z27 z28 z29 z30 z31 z32 z33)), (a_pt, (arI G 200 z34)), (a_bo, (arJ G 24 z37))] hP hD (fun hP hD => ?_)
          refine lv_iinc (v := (n_q + 1)) (lv' := [(4, .int (n_q + 1)), (3, .int z12), (2, .int m_q), (1, .int k_q), (0, .ref a_wa)]) hx hb dX10_lookAround_75 hl (k := 0) rfl rfl (by decide) rfl (fun ls hl => ?_)
          have t_38 : (n_q + 1).toInt = n_q.toInt + 1 := g5_iadd (a := n_q.toInt) (b := 1) rfl (by decide) (by omega) (by omega)
          refine lv_goto (tgt := 48) hx hb dX10_lookAround_78 (by decide) ?_
          exact ih_48_16 ((n_q + 1), z25, z26, z27, z28, z29, z30, z31, z32, z33, z34, z35, z36, z24, z37) ls H locs (show Int.toNat (4 - (n_q + 1).toInt) < Int.toNat (4 - n_q.toInt) from g_up (show n_q.toInt < (n_q + 1).toInt by omega) (show n_q.toInt < 4 by omega)) ⟨lv_sub hl [0, 1, 2, 3, 4] rfl, hP.sub [13, 0, 1, 2, 5, 6, 7, 8, 9, 10, 11, 14, 12, 15, 3, 4] rfl, hD.sub [13, 0, 1, 2, 5, 6, 7, 8, 9, 10, 11, 14, 12, 15, 3, 4] (by decide) rfl, hS, ⟨by omega, by omega⟩, i_22⟩
set_option maxHeartbeats 4000000 in
set_option maxRecDepth 100000 in
theorem w_lookAroundL (l : Launch) (G : g5_G) (a_k a_h a_g a_gn a_b a_bn a_p a_pn a_bb a_j a_as a_sk a_l a_lo a_sr a_cd a_hd a_pt a_wa a_bo a_s a_w : Nat) (sz : Nat) (e_le : Int32) (e_st : Int32) (e_fo : Int32) (e_lc : Int32) (e_g : Int32) (e_b : Int32) (e_p : Int32) (e_cl : Int32) (e_ln : Int32) (e_se : Int32) (e_lh : Int32) (e_br : Int32) (e_we : Int32) (e_me : Int32) (e_ce : Int32) (e_wy : Int32) (e_ho : Int32) (e_ov : Int32) (e_wa : Int64) (e_gb : Int64) (f_g : Nat → Int32) (f_b : Nat → Int32) (f_p : Nat → Int32) (f_bb : Nat → Int64) (f_as : Nat → Int32) (f_sk : Nat → Int64) (f_l : Nat → Option Nat) (f_sr : Nat → Int32) (f_cd : Nat → Int32) (f_hd : Nat → Int32) (f_pt : Nat → Int32) (f_bo : Nat → Int64) (n_sr : Nat) (n_cd : Nat) (n_hd : Nat) (h_e_g : 0 ≤ e_g.toInt ∧ e_g.toInt ≤ 6) (h_e_b : 0 ≤ e_b.toInt ∧ e_b.toInt ≤ 5) (h_e_p : 0 ≤ e_p.toInt ∧ e_p.toInt ≤ 8) (h_e_cl : 0 ≤ e_cl.toInt ∧ e_cl.toInt ≤ 12) (h_e_ov : 0 ≤ e_ov.toInt ∧ e_ov.toInt ≤ 1) (e_gk : gOK f_g e_g.toInt) (e_pk : gOK f_p e_p.toInt) (e_gi : inT e_gb f_g e_g.toInt) (e_f : 0 ≤ e_fo.toInt ∧ e_fo.toInt < e_lc.toInt ∧ e_lc.toInt ≤ 6) (e_a : f_l e_fo.toNatClampNeg = some a_lo) (e_hn : n_cd ≤ 400) (e_hs : ∀ j : Nat, j < n_sr → 0 ≤ (f_sr j).toInt ∧ (f_sr j).toInt ≤ (n_cd : Int)) (e_hk : ∀ j : Nat, j < n_cd → (f_cd j >>> (12 &&& 31)).toInt = 1 → (f_cd j &&& 4095).toInt < 8) (e_c : (e_cl.toInt : Int) ≤ (n_hd : Int) ∧ (e_cl.toInt + 1 : Int) ≤ (n_sr : Int)) : Met l yX10_lookAround (wsG yX10_lookAround cX10_lookAround 5 none) ({ frames := 14, cells := 0, slots := 0, locals := 556 }) (va_Pc [.ref a_wa] (g5_P G [(a_k, (oc5 a_h a_j a_pt e_ln e_se e_lh e_br e_we e_me e_ce e_wy e_ho e_ov)), (a_h, (oc1 e_wa e_le e_st e_fo e_lc a_l a_g a_b a_s a_p a_w e_gb a_bb)), (a_g, (oc6 6 5 a_gn e_g)), (a_gn, (arI G 30 f_g)), (a_b, (oc6 5 24 a_bn e_b)), (a_bn, (arI G 120 f_b)), (a_p, (oc6 8 5 a_pn e_p)), (a_pn, (arI G 40 f_p)), (a_bb, (arJ G 24 f_bb)), (a_j, (oc2 a_as a_sk)), (a_as, (arI G 8 f_as)), (a_sk, (arJ G 50 f_sk)), (a_l, (arW G 6 f_l)), (a_lo, (oc3 e_cl a_hd a_sr a_cd)), (a_sr, (arI G n_sr f_sr)), (a_cd, (arI G n_cd f_cd)), (a_hd, (arI G n_hd f_hd)), (a_pt, (arI G 200 f_pt)), (a_wa, (oc10 a_h a_k a_bo)), (a_bo, (arJ G 24 f_bo))] sz)) (va_Qv (fun (u : va_W) => (∃ (o_ln : Int32) (o_se : Int32) (o_lh : Int32) (o_br : Int32) (o_we : Int32) (o_me : Int32) (o_ce : Int32) (o_wy : Int32) (o_ho : Int32) (o_ov : Int32) (o_pt : Nat → Int32) (o_as : Nat → Int32) (o_sk : Nat → Int64) (o_bo : Nat → Int64), (0 ≤ o_ov.toInt ∧ o_ov.toInt ≤ 1) ∧ (u = [(a_k, (oc5 a_h a_j a_pt o_ln o_se o_lh o_br o_we o_me o_ce o_wy o_ho o_ov)), (a_h, (oc1 e_wa e_le e_st e_fo e_lc a_l a_g a_b a_s a_p a_w e_gb a_bb)), (a_g, (oc6 6 5 a_gn e_g)), (a_gn, (arI G 30 f_g)), (a_b, (oc6 5 24 a_bn e_b)), (a_bn, (arI G 120 f_b)), (a_p, (oc6 8 5 a_pn e_p)), (a_pn, (arI G 40 f_p)), (a_bb, (arJ G 24 f_bb)), (a_j, (oc2 a_as a_sk)), (a_as, (arI G 8 o_as)), (a_sk, (arJ G 50 o_sk)), (a_l, (arW G 6 f_l)), (a_lo, (oc3 e_cl a_hd a_sr a_cd)), (a_sr, (arI G n_sr f_sr)), (a_cd, (arI G n_cd f_cd)), (a_hd, (arI G n_hd f_hd)), (a_pt, (arI G 200 o_pt)), (a_wa, (oc10 a_h a_k a_bo)), (a_bo, (arJ G 24 o_bo))]))) (g5_B G (va_A [(a_k, (oc5 a_h a_j a_pt e_ln e_se e_lh e_br e_we e_me e_ce e_wy e_ho e_ov)), (a_h, (oc1 e_wa e_le e_st e_fo e_lc a_l a_g a_b a_s a_p a_w e_gb a_bb)), (a_g, (oc6 6 5 a_gn e_g)), (a_gn, (arI G 30 f_g)), (a_b, (oc6 5 24 a_bn e_b)), (a_bn, (arI G 120 f_b)), (a_p, (oc6 8 5 a_pn e_p)), (a_pn, (arI G 40 f_p)), (a_bb, (arJ G 24 f_bb)), (a_j, (oc2 a_as a_sk)), (a_as, (arI G 8 f_as)), (a_sk, (arJ G 50 f_sk)), (a_l, (arW G 6 f_l)), (a_lo, (oc3 e_cl a_hd a_sr a_cd)), (a_sr, (arI G n_sr f_sr)), (a_cd, (arI G n_cd f_cd)), (a_hd, (arI G n_hd f_hd)), (a_pt, (arI G 200 f_pt)), (a_wa, (oc10 a_h a_k a_bo)), (a_bo, (arJ G 24 f_bo))] sz)) (va_A [(a_k, (oc5 a_h a_j a_pt e_ln e_se e_lh e_br e_we e_me e_ce e_wy e_ho e_ov)), (a_h, (oc1 e_wa e_le e_st e_fo e_lc a_l a_g a_b a_s a_p a_w e_gb a_bb)), (a_g, (oc6 6 5 a_gn e_g)), (a_gn, (arI G 30 f_g)), (a_b, (oc6 5 24 a_bn e_b)), (a_bn, (arI G 120 f_b)), (a_p, (oc6 8 5 a_pn e_p)), (a_pn, (arI G 40 f_p)), (a_bb, (arJ G 24 f_bb)), (a_j, (oc2 a_as a_sk)), (a_as, (arI G 8 f_as)), (a_sk, (arJ G 50 f_sk)), (a_l, (arW G 6 f_l)), (a_lo, (oc3 e_cl a_hd a_sr a_cd)), (a_sr, (arI G n_sr f_sr)), (a_cd, (arI G n_cd f_cd)), (a_hd, (arI G n_hd f_hd)), (a_pt, (arI G 200 f_pt)), (a_wa, (oc10 a_h a_k a_bo)), (a_bo, (arJ G 24 f_bo))] sz)) 0 0 (va_A [(a_k, (oc5 a_h a_j a_pt e_ln e_se e_lh e_br e_we e_me e_ce e_wy e_ho e_ov)), (a_h, (oc1 e_wa e_le e_st e_fo e_lc a_l a_g a_b a_s a_p a_w e_gb a_bb)), (a_g, (oc6 6 5 a_gn e_g)), (a_gn, (arI G 30 f_g)), (a_b, (oc6 5 24 a_bn e_b)), (a_bn, (arI G 120 f_b)), (a_p, (oc6 8 5 a_pn e_p)), (a_pn, (arI G 40 f_p)), (a_bb, (arJ G 24 f_bb)), (a_j, (oc2 a_as a_sk)), (a_as, (arI G 8 f_as)), (a_sk, (arJ G 50 f_sk)), (a_l, (arW G 6 f_l)), (a_lo, (oc3 e_cl a_hd a_sr a_cd)), (a_sr, (arI G n_sr f_sr)), (a_cd, (arI G n_cd f_cd)), (a_hd, (arI G n_hd f_hd)), (a_pt, (arI G 200 f_pt)), (a_wa, (oc10 a_h a_k a_bo)), (a_bo, (arJ G 24 f_bo))] sz) := by
  refine Met.ofW (cc := cX10_lookAround) (maxL := 5) (ret := none) (by decide) rfl ?_
  intro p e s m args below meth c s₁ B hml hv
  obtain ⟨rfl, hsz, hP, hK, hD0, hN, hT⟩ := hv
  have hx := B.exec
  have hb := B.bytes
  have hr := B.returns
  have hts : ∀ w ∈ tblG, w.before _ s = true := fun w h => atoms_spec (ws := (wsG yX10_lookAround cX10_lookAround 5 none)) B.pre w (List.mem_cons_of_mem _ h)
  have hown : s.vm.findClass RX10 = some m.cls := findClass_of_methodNamed B.named
  have hlocks := B.notSynchronized
  subst hsz
  have hD := hD0.self (sz := s.heap.size)
  generalize hAe : va_A [(a_k, (oc5 a_h a_j a_pt e_ln e_se e_lh e_br e_we e_me e_ce e_wy e_ho e_ov)), (a_h, (oc1 e_wa e_le e_st e_fo e_lc a_l a_g a_b a_s a_p a_w e_gb a_bb)), (a_g, (oc6 6 5 a_gn e_g)), (a_gn, (arI G 30 f_g)), (a_b, (oc6 5 24 a_bn e_b)), (a_bn, (arI G 120 f_b)), (a_p, (oc6 8 5 a_pn e_p)), (a_pn, (arI G 40 f_p)), (a_bb, (arJ G 24 f_bb)), (a_j, (oc2 a_as a_sk)), (a_as, (arI G 8 f_as)), (a_sk, (arJ G 50 f_sk)), (a_l, (arW G 6 f_l)), (a_lo, (oc3 e_cl a_hd a_sr a_cd)), (a_sr, (arI G n_sr f_sr)), (a_cd, (arI G n_cd f_cd)), (a_hd, (arI G n_hd f_hd)), (a_pt, (arI G 200 f_pt)), (a_wa, (oc10 a_h a_k a_bo)), (a_bo, (arJ G 24 f_bo))] s.heap.size = A at hD hT ⊢
  have hA : ∀ q : Nat, s.heap.size ≤ q → A q := fun q h => by rw [← hAe]; exact Or.inr h
  have hS : va_S A s.heap s.heap [] := va_S.rf
  have hP : va_P G.1 vwCl [(a_k, (oc5 a_h a_j a_pt e_ln e_se e_lh e_br e_we e_me e_ce e_wy e_ho e_ov)), (a_h, (oc1 e_wa e_le e_st e_fo e_lc a_l a_g a_b a_s a_p a_w e_gb a_bb)), (a_g, (oc6 6 5 a_gn e_g)), (a_gn, (arI G 30 f_g)), (a_b, (oc6 5 24 a_bn e_b)), (a_bn, (arI G 120 f_b)), (a_p, (oc6 8 5 a_pn e_p)), (a_pn, (arI G 40 f_p)), (a_bb, (arJ G 24 f_bb)), (a_j, (oc2 a_as a_sk)), (a_as, (arI G 8 f_as)), (a_sk, (arJ G 50 f_sk)), (a_l, (arW G 6 f_l)), (a_lo, (oc3 e_cl a_hd a_sr a_cd)), (a_sr, (arI G n_sr f_sr)), (a_cd, (arI G n_cd f_cd)), (a_hd, (arI G n_hd f_hd)), (a_pt, (arI G 200 f_pt)), (a_wa, (oc10 a_h a_k a_bo)), (a_bo, (arJ G 24 f_bo))] s.heap := hP
  have hl := lv_entry ([.ref a_wa]) (n := 5) (Nat.le_of_ble_eq_true rfl)
  rw [lg_entry_eq]
  generalize (lg_sl ([.ref a_wa]) ++ List.replicate (5 - (lg_sl ([.ref a_wa])).length) Slot.unset).toArray = ls at hl ⊢
  have hl : lv_has ls 5 [(0, .ref a_wa)] := hl
  refine lv_aload_n hx hb dX10_lookAround_0 rfl (lv_at hl 0 rfl) ?_
  refine va_get (D := G.1) (ci := 10) (v := .ref a_bo) (C := RX10) (T := TX10) (N := 3) hx hb hts inG_X10 hown hK hP 18 rfl rfl 2 (by decide) (hts _ fl_X10_9) (fun _ h9 => h9) rfl dX10_lookAround_1 ?_
  refine lv_lconst (v := 0) hx hb dX10_lookAround_4 (by decide) ?_
  obtain ⟨hPc, hDc, hFc⟩ := g5_sub3 (wc := [(a_bo, (arJ G 24 f_bo))]) hP hD hS hA [19] (by decide) rfl
  refine va_callv (va_runS (As := [.ref a_bo, .long 0]) (rest := []) ⟨hx, hb, hml, hown, hts⟩ (k_fillJ24 l G a_bo s.heap.size 0 f_bo) (va_cwS 2 hts gS_X10_23 rfl rfl rfl hs_J7_fill_d0a16 ⟨Nat.le_of_ble_eq_true rfl, Nat.le_of_ble_eq_true rfl⟩) (g5_preS hPc hK hDc hN hT hS hFc) rfl rfl hl.1 rfl (lv_room (Nat.le_of_ble_eq_true rfl)) dX10_lookAround_5 ⟨Nat.le_of_ble_eq_true rfl, Nat.le_of_ble_eq_true rfl⟩) hS (fun q _ h => hFc q h) hFc (fun u t H1 locs ht hvm hw hB hz1 hk1 hS => ?_)
  obtain ⟨hP1, hD1⟩ := hB
  rw [ht] at hP1
  obtain rfl := hw
  obtain ⟨hP, hD⟩ := va_join (wr := [(a_k, (oc5 a_h a_j a_pt e_ln e_se e_lh e_br e_we e_me e_ce e_wy e_ho e_ov)), (a_h, (oc1 e_wa e_le e_st e_fo e_lc a_l a_g a_b a_s a_p a_w e_gb a_bb)), (a_g, (oc6 6 5 a_gn e_g)), (a_gn, (arI G 30 f_g)), (a_b, (oc6 5 24 a_bn e_b)), (a_bn, (arI G 120 f_b)), (a_p, (oc6 8 5 a_pn e_p)), (a_pn, (arI G 40 f_p)), (a_bb, (arJ G 24 f_bb)), (a_j, (oc2 a_as a_sk)), (a_as, (arI G 8 f_as)), (a_sk, (arJ G 50 f_sk)), (a_l, (arW G 6 f_l)), (a_lo, (oc3 e_cl a_hd a_sr a_cd)), (a_sr, (arI G n_sr f_sr)), (a_cd, (arI G n_cd f_cd)), (a_hd, (arI G n_hd f_hd)), (a_pt, (arI G 200 f_pt)), (a_wa, (oc10 a_h a_k a_bo))]) hP hD [19] [0, 1, 2, 3, 4, 5, 6, 7, 8, 9, 10, 11, 12, 13, 14, 15, 16, 17, 18] rfl rfl (by decide) (by decide) hk1 hFc hP1 hD1
  generalize H1 = H at hP hS ⊢
  refine g5_rs [(a_k, (oc5 a_h a_j a_pt e_ln e_se e_lh e_br e_we e_me e_ce e_wy e_ho e_ov)), (a_h, (oc1 e_wa e_le e_st e_fo e_lc a_l a_g a_b a_s a_p a_w e_gb a_bb)), (a_g, (oc6 6 5 a_gn e_g)), (a_gn, (arI G 30 f_g)), (a_b, (oc6 5 24 a_bn e_b)), (a_bn, (arI G 120 f_b)), (a_p, (oc6 8 5 a_pn e_p)), (a_pn, (arI G 40 f_p)), (a_bb, (arJ G 24 f_bb)), (a_j, (oc2 a_as a_sk)), (a_as, (arI G 8 f_as)), (a_sk, (arJ G 50 f_sk)), (a_l, (arW G 6 f_l)), (a_lo, (oc3 e_cl a_hd a_sr a_cd)), (a_sr, (arI G n_sr f_sr)), (a_cd, (arI G n_cd f_cd)), (a_hd, (arI G n_hd f_hd)), (a_pt, (arI G 200 f_pt)), (a_wa, (oc10 a_h a_k a_bo)), (a_bo, (arJ G 24 (fun _ => 0)))] hP hD (fun hP hD => ?_)
  refine lv_iconst (v := 0) hx hb dX10_lookAround_8 (by decide) ?_
  refine lv_istore_n (lv' := [(1, .int 0), (0, .ref a_wa)]) hx hb dX10_lookAround_9 rfl hl (by decide) rfl (fun ls hl => ?_)
  refine g5_loop (α := (Int32) × (Int32) × (Int32) × (Int32) × (Int32) × (Int32) × (Int32) × (Int32) × (Int32) × (Int32) × (Nat → Int32) × (Nat → Int32) × (Nat → Int64) × (Int32) × (Nat → Int64)) (fun (q : (Int32) × (Int32) × (Int32) × (Int32) × (Int32) × (Int32) × (Int32) × (Int32) × (Int32) × (Int32) × (Nat → Int32) × (Nat → Int32) × (Nat → Int64) × (Int32) × (Nat → Int64)) (ls : Array Slot) (H : Heap) (locs : List Loc) => match q with | (k_q, k_se, k_lh, k_br, k_we, k_me, k_ce, k_wy, k_ho, k_ov, k_pt, k_as, k_sk, k_ln, k_bo) => lv_has ls 5 [(1, .int k_q), (0, .ref a_wa)] ∧ va_P G.1 vwCl [(a_k, (oc5 a_h a_j a_pt k_ln k_se k_lh k_br k_we k_me k_ce k_wy k_ho k_ov)), (a_h, (oc1 e_wa e_le e_st e_fo e_lc a_l a_g a_b a_s a_p a_w e_gb a_bb)), (a_g, (oc6 6 5 a_gn e_g)), (a_gn, (arI G 30 f_g)), (a_b, (oc6 5 24 a_bn e_b)), (a_bn, (arI G 120 f_b)), (a_p, (oc6 8 5 a_pn e_p)), (a_pn, (arI G 40 f_p)), (a_bb, (arJ G 24 f_bb)), (a_j, (oc2 a_as a_sk)), (a_as, (arI G 8 k_as)), (a_sk, (arJ G 50 k_sk)), (a_l, (arW G 6 f_l)), (a_lo, (oc3 e_cl a_hd a_sr a_cd)), (a_sr, (arI G n_sr f_sr)), (a_cd, (arI G n_cd f_cd)), (a_hd, (arI G n_hd f_hd)), (a_pt, (arI G 200 k_pt)), (a_wa, (oc10 a_h a_k a_bo)), (a_bo, (arJ G 24 k_bo))] H ∧ va_D A [(a_k, (oc5 a_h a_j a_pt k_ln k_se k_lh k_br k_we k_me k_ce k_wy k_ho k_ov)), (a_h, (oc1 e_wa e_le e_st e_fo e_lc a_l a_g a_b a_s a_p a_w e_gb a_bb)), (a_g, (oc6 6 5 a_gn e_g)), (a_gn, (arI G 30 f_g)), (a_b, (oc6 5 24 a_bn e_b)), (a_bn, (arI G 120 f_b)), (a_p, (oc6 8 5 a_pn e_p)), (a_pn, (arI G 40 f_p)), (a_bb, (arJ G 24 f_bb)), (a_j, (oc2 a_as a_sk)), (a_as, (arI G 8 k_as)), (a_sk, (arJ G 50 k_sk)), (a_l, (arW G 6 f_l)), (a_lo, (oc3 e_cl a_hd a_sr a_cd)), (a_sr, (arI G n_sr f_sr)), (a_cd, (arI G n_cd f_cd)), (a_hd, (arI G n_hd f_hd)), (a_pt, (arI G 200 k_pt)), (a_wa, (oc10 a_h a_k a_bo)), (a_bo, (arJ G 24 k_bo))] ∧ va_S A s.heap H locs ∧ (0 ≤ k_q.toInt ∧ k_q.toInt ≤ 5) ∧ (0 ≤ k_ov.toInt ∧ k_ov.toInt ≤ 1) ∧ (k_q.toInt ≤ e_b.toInt)) (fun (q : (Int32) × (Int32) × (Int32) × (Int32) × (Int32) × (Int32) × (Int32) × (Int32) × (Int32) × (Int32) × (Nat → Int32) × (Nat → Int32) × (Nat → Int64) × (Int32) × (Nat → Int64)) => match q with | (k_q, k_se, k_lh, k_br, k_we, k_me, k_ce, k_wy, k_ho, k_ov, k_pt, k_as, k_sk, k_ln, k_bo) => Int.toNat (5 - k_q.toInt)) (0, e_se, e_lh, e_br, e_we, e_me, e_ce, e_wy, e_ho, e_ov, f_pt, f_as, f_sk, e_ln, (fun _ => 0)) ⟨lv_sub hl [0, 1] rfl, hP, hD, hS, ⟨by decide, by decide⟩, h_e_ov, by have z0 : (0 : Int32).toInt = 0 := (by decide); omega⟩ ?_
  rintro ⟨k_q, k_se, k_lh, k_br, k_we, k_me, k_ce, k_wy, k_ho, k_ov, k_pt, k_as, k_sk, k_ln, k_bo⟩ ls H locs ⟨hl, hP, hD, hS, i_1, i_2, i_3⟩ ih_10_4
  have hl : lv_has ls 5 [(1, .int k_q), (0, .ref a_wa)] := hl
  have i_1 : 0 ≤ k_q.toInt ∧ k_q.toInt ≤ 5 := i_1
  have i_2 : 0 ≤ k_ov.toInt ∧ k_ov.toInt ≤ 1 := i_2
  have i_3 : k_q.toInt ≤ e_b.toInt := i_3
  refine g5_rs [(a_k, (oc5 a_h a_j a_pt k_ln k_se k_lh k_br k_we k_me k_ce k_wy k_ho k_ov)), (a_h, (oc1 e_wa e_le e_st e_fo e_lc a_l a_g a_b a_s a_p a_w e_gb a_bb)), (a_g, (oc6 6 5 a_gn e_g)), (a_gn, (arI G 30 f_g)), (a_b, (oc6 5 24 a_bn e_b)), (a_bn, (arI G 120 f_b)), (a_p, (oc6 8 5 a_pn e_p)), (a_pn, (arI G 40 f_p)), (a_bb, (arJ G 24 f_bb)), (a_j, (oc2 a_as a_sk)), (a_as, (arI G 8 k_as)), (a_sk, (arJ G 50 k_sk)), (a_l, (arW G 6 f_l)), (a_lo, (oc3 e_cl a_hd a_sr a_cd)), (a_sr, (arI G n_sr f_sr)), (a_cd, (arI G n_cd f_cd)), (a_hd, (arI G n_hd f_hd)), (a_pt, (arI G 200 k_pt)), (a_wa, (oc10 a_h a_k a_bo)), (a_bo, (arJ G 24 k_bo))] hP hD (fun hP hD => ?_)
  refine lv_iload_n hx hb dX10_lookAround_10 rfl (lv_at hl 0 rfl) ?_
  refine lv_aload_n hx hb dX10_lookAround_11 rfl (lv_at hl 1 rfl) ?_
  refine va_get (D := G.1) (ci := 10) (v := .ref a_h) (C := RX10) (T := TX10) (N := 3) hx hb hts inG_X10 hown hK hP 18 rfl rfl 0 (by decide) (hts _ fl_X10_15) (fun _ h9 => h9) rfl dX10_lookAround_12 ?_
  refine va_get (D := G.1) (ci := 1) (v := .ref a_b) (C := RX1) (T := TX1) (N := 13) hx hb hts inG_X1 hown hK hP 1 rfl rfl 7 (by decide) (hts _ fl_X10_29) (fun _ h9 => h9) rfl dX10_lookAround_15 ?_
  refine va_get (D := G.1) (ci := 6) (v := .int e_b) (C := RX6) (T := TX6) (N := 4) hx hb hts inG_X6 hown hK hP 4 rfl rfl 3 (by decide) (hts _ fl_X10_35) (fun _ h9 => h9) rfl dX10_lookAround_18 ?_
  refine lv_icmp_ge (tgt := 93) hx hb dX10_lookAround_21 (by decide) (fun c_5 => ?_) (fun c_5 => ?_)
  ·
    have i_5 : k_q.toInt ≥ e_b.toInt := by have z := g5_ge (a := k_q.toInt) (b := e_b.toInt) (by rfl) (by rfl) c_5; omega
    exact W.vret hx hb hr (fun t ht hW => ⟨⟨[(a_k, (oc5 a_h a_j a_pt k_ln k_se k_lh k_br k_we k_me k_ce k_wy k_ho k_ov)), (a_h, (oc1 e_wa e_le e_st e_fo e_lc a_l a_g a_b a_s a_p a_w e_gb a_bb)), (a_g, (oc6 6 5 a_gn e_g)), (a_gn, (arI G 30 f_g)), (a_b, (oc6 5 24 a_bn e_b)), (a_bn, (arI G 120 f_b)), (a_p, (oc6 8 5 a_pn e_p)), (a_pn, (arI G 40 f_p)), (a_bb, (arJ G 24 f_bb)), (a_j, (oc2 a_as a_sk)), (a_as, (arI G 8 k_as)), (a_sk, (arJ G 50 k_sk)), (a_l, (arW G 6 f_l)), (a_lo, (oc3 e_cl a_hd a_sr a_cd)), (a_sr, (arI G n_sr f_sr)), (a_cd, (arI G n_cd f_cd)), (a_hd, (arI G n_hd f_hd)), (a_pt, (arI G 200 k_pt)), (a_wa, (oc10 a_h a_k a_bo)), (a_bo, (arJ G 24 k_bo))], rfl, ⟨k_ln, k_se, k_lh, k_br, k_we, k_me, k_ce, k_wy, k_ho, k_ov, k_pt, k_as, k_sk, k_bo, i_2, rfl⟩, by rw [ht]; exact hP.sub [0, 1, 2, 3, 4, 5, 6, 7, 8, 9, 10, 11, 12, 13, 14, 15, 16, 17, 18, 19] rfl, hD.sub [0, 1, 2, 3, 4, 5, 6, 7, 8, 9, 10, 11, 12, 13, 14, 15, 16, 17, 18, 19] (by decide) rfl⟩, hS.F ht⟩) hS.2.2 dX10_lookAround_93
  ·
    have i_5 : k_q.toInt < e_b.toInt := by have z := g5_geN (a := k_q.toInt) (b := e_b.toInt) (by rfl) (by rfl) c_5; omega
    refine lv_iconst (v := 0) hx hb dX10_lookAround_24 (by decide) ?_
    refine lv_istore_n (lv' := [(2, .int 0), (1, .int k_q), (0, .ref a_wa)]) hx hb dX10_lookAround_25 rfl hl (by decide) rfl (fun ls hl => ?_)
    refine g5_loop (α := (Int32) × (Int32) × (Int32) × (Int32) × (Int32) × (Int32) × (Int32) × (Int32) × (Int32) × (Int32) × (Nat → Int32) × (Nat → Int32) × (Nat → Int64) × (Int32) × (Nat → Int64)) (fun (q : (Int32) × (Int32) × (Int32) × (Int32) × (Int32) × (Int32) × (Int32) × (Int32) × (Int32) × (Int32) × (Nat → Int32) × (Nat → Int32) × (Nat → Int64) × (Int32) × (Nat → Int64)) (ls : Array Slot) (H : Heap) (locs : List Loc) => match q with | (m_q, m_se, m_lh, m_br, m_we, m_me, m_ce, m_wy, m_ho, m_ov, m_pt, m_as, m_sk, m_ln, m_bo) => lv_has ls 5 [(2, .int m_q), (1, .int k_q), (0, .ref a_wa)] ∧ va_P G.1 vwCl [(a_k, (oc5 a_h a_j a_pt m_ln m_se m_lh m_br m_we m_me m_ce m_wy m_ho m_ov)), (a_h, (oc1 e_wa e_le e_st e_fo e_lc a_l a_g a_b a_s a_p a_w e_gb a_bb)), (a_g, (oc6 6 5 a_gn e_g)), (a_gn, (arI G 30 f_g)), (a_b, (oc6 5 24 a_bn e_b)), (a_bn, (arI G 120 f_b)), (a_p, (oc6 8 5 a_pn e_p)), (a_pn, (arI G 40 f_p)), (a_bb, (arJ G 24 f_bb)), (a_j, (oc2 a_as a_sk)), (a_as, (arI G 8 m_as)), (a_sk, (arJ G 50 m_sk)), (a_l, (arW G 6 f_l)), (a_lo, (oc3 e_cl a_hd a_sr a_cd)), (a_sr, (arI G n_sr f_sr)), (a_cd, (arI G n_cd f_cd)), (a_hd, (arI G n_hd f_hd)), (a_pt, (arI G 200 m_pt)), (a_wa, (oc10 a_h a_k a_bo)), (a_bo, (arJ G 24 m_bo))] H ∧ va_D A [(a_k, (oc5 a_h a_j a_pt m_ln m_se m_lh m_br m_we m_me m_ce m_wy m_ho m_ov)), (a_h, (oc1 e_wa e_le e_st e_fo e_lc a_l a_g a_b a_s a_p a_w e_gb a_bb)), (a_g, (oc6 6 5 a_gn e_g)), (a_gn, (arI G 30 f_g)), (a_b, (oc6 5 24 a_bn e_b)), (a_bn, (arI G 120 f_b)), (a_p, (oc6 8 5 a_pn e_p)), (a_pn, (arI G 40 f_p)), (a_bb, (arJ G 24 f_bb)), (a_j, (oc2 a_as a_sk)), (a_as, (arI G 8 m_as)), (a_sk, (arJ G 50 m_sk)), (a_l, (arW G 6 f_l)), (a_lo, (oc3 e_cl a_hd a_sr a_cd)), (a_sr, (arI G n_sr f_sr)), (a_cd, (arI G n_cd f_cd)), (a_hd, (arI G n_hd f_hd)), (a_pt, (arI G 200 m_pt)), (a_wa, (oc10 a_h a_k a_bo)), (a_bo, (arJ G 24 m_bo))] ∧ va_S A s.heap H locs ∧ (0 ≤ m_q.toInt ∧ m_q.toInt ≤ 24) ∧ (0 ≤ m_ov.toInt ∧ m_ov.toInt ≤ 1)) (fun (q : (Int32) × (Int32) × (Int32) × (Int32) × (Int32) × (Int32) × (Int32) × (Int32) × (Int32) × (Int32) × (Nat → Int32) × (Nat → Int32) × (Nat → Int64) × (Int32) × (Nat → Int64)) => match q with | (m_q, m_se, m_lh, m_br, m_we, m_me, m_ce, m_wy, m_ho, m_ov, m_pt, m_as, m_sk, m_ln, m_bo) => Int.toNat (24 - m_q.toInt)) (0, k_se, k_lh, k_br, k_we, k_me, k_ce, k_wy, k_ho, k_ov, k_pt, k_as, k_sk, k_ln, k_bo) ⟨lv_sub hl [0, 1, 2] rfl, hP, hD, hS, ⟨by decide, by decide⟩, i_2⟩ ?_
    rintro ⟨m_q, m_se, m_lh, m_br, m_we, m_me, m_ce, m_wy, m_ho, m_ov, m_pt, m_as, m_sk, m_ln, m_bo⟩ ls H locs ⟨hl, hP, hD, hS, i_6, i_7⟩ ih_26_8
    have hl : lv_has ls 5 [(2, .int m_q), (1, .int k_q), (0, .ref a_wa)] := hl
    have i_6 : 0 ≤ m_q.toInt ∧ m_q.toInt ≤ 24 := i_6
    have i_7 : 0 ≤ m_ov.toInt ∧ m_ov.toInt ≤ 1 := i_7
    refine g5_rs [(a_k, (oc5 a_h a_j a_pt m_ln m_se m_lh m_br m_we m_me m_ce m_wy m_ho m_ov)), (a_h, (oc1 e_wa e_le e_st e_fo e_lc a_l a_g a_b a_s a_p a_w e_gb a_bb)), (a_g, (oc6 6 5 a_gn e_g)), (a_gn, (arI G 30 f_g)), (a_b, (oc6 5 24 a_bn e_b)), (a_bn, (arI G 120 f_b)), (a_p, (oc6 8 5 a_pn e_p)), (a_pn, (arI G 40 f_p)), (a_bb, (arJ G 24 f_bb)), (a_j, (oc2 a_as a_sk)), (a_as, (arI G 8 m_as)), (a_sk, (arJ G 50 m_sk)), (a_l, (arW G 6 f_l)), (a_lo, (oc3 e_cl a_hd a_sr a_cd)), (a_sr, (arI G n_sr f_sr)), (a_cd, (arI G n_cd f_cd)), (a_hd, (arI G n_hd f_hd)), (a_pt, (arI G 200 m_pt)), (a_wa, (oc10 a_h a_k a_bo)), (a_bo, (arJ G 24 m_bo))] hP hD (fun hP hD => ?_)
    refine lv_iload_n hx hb dX10_lookAround_26 rfl (lv_at hl 0 rfl) ?_
    refine lv_bipush (v := 24) hx hb dX10_lookAround_27 (by decide) ?_
    refine lv_icmp_ge (tgt := 87) hx hb dX10_lookAround_29 (by decide) (fun c_9 => ?_) (fun c_9 => ?_)
    ·
      have i_9 : m_q.toInt ≥ 24 := by have z := g5_ge (a := m_q.toInt) (b := 24) (by rfl) (by decide) c_9; omega
      refine lv_iinc (v := (k_q + 1)) (lv' := [(1, .int (k_q + 1)), (2, .int m_q), (0, .ref a_wa)]) hx hb dX10_lookAround_87 hl (k := 1) rfl rfl (by decide) rfl (fun ls hl => ?_)
      have t_10 : (k_q + 1).toInt = k_q.toInt + 1 := g5_iadd (a := k_q.toInt) (b := 1) rfl (by decide) (by omega) (by omega)
      refine lv_goto (tgt := 10) hx hb dX10_lookAround_90 (by decide) ?_
      exact ih_10_4 ((k_q + 1), m_se, m_lh, m_br, m_we, m_me, m_ce, m_wy, m_ho, m_ov, m_pt, m_as, m_sk, m_ln, m_bo) ls H locs (show Int.toNat (5 - (k_q + 1).toInt) < Int.toNat (5 - k_q.toInt) from g_up (show k_q.toInt < (k_q + 1).toInt by omega) (show k_q.toInt < 5 by omega)) ⟨lv_sub hl [0, 2] rfl, hP, hD, hS, ⟨by omega, by omega⟩, i_7, by omega⟩
    ·
      have i_9 : m_q.toInt < 24 := by have z := g5_geN (a := m_q.toInt) (b := 24) (by rfl) (by decide) c_9; omega
      refine lv_aload_n hx hb dX10_lookAround_32 rfl (lv_at hl 2 rfl) ?_
      refine va_get (D := G.1) (ci := 10) (v := .ref a_h) (C := RX10) (T := TX10) (N := 3) hx hb hts inG_X10 hown hK hP 18 rfl rfl 0 (by decide) (hts _ fl_X10_15) (fun _ h9 => h9) rfl dX10_lookAround_33 ?_
      refine va_get (D := G.1) (ci := 1) (v := .ref a_b) (C := RX1) (T := TX1) (N := 13) hx hb hts inG_X1 hown hK hP 1 rfl rfl 7 (by decide) (hts _ fl_X10_29) (fun _ h9 => h9) rfl dX10_lookAround_36 ?_
      refine lv_iload_n hx hb dX10_lookAround_39 rfl (lv_at hl 1 rfl) ?_
      refine lv_iload_n hx hb dX10_lookAround_40 rfl (lv_at hl 0 rfl) ?_
      obtain ⟨hPc, hDc, hFc⟩ := g5_sub3 (wc := [(a_b, (oc6 5 24 a_bn e_b)), (a_bn, (arI G 120 f_b))]) hP hD hS hA [4, 5] (by decide) rfl
      refine va_calli (va_runV (As := [.int k_q, .int m_q]) (rest := []) ⟨hx, hb, hml, hown, hts⟩ (t_get_B l G a_b a_bn H.size e_b k_q m_q f_b h_e_b) (cwV 2 hts gV_X10_41 rfl rfl rfl hv_X6_get ⟨Nat.le_of_ble_eq_true rfl, Nat.le_of_ble_eq_true rfl⟩) (g5_preV hPc hK hDc hN hT hS hFc (ci := 6) (q0 := 0) rfl rfl) rfl rfl hl.1 rfl (lv_room (Nat.le_of_ble_eq_true rfl)) dX10_lookAround_41 ⟨Nat.le_of_ble_eq_true rfl, Nat.le_of_ble_eq_true rfl⟩) hS (fun q _ h => hFc q h) hFc (fun r u t H1 locs ht hvm hw hB hz1 hk1 hS => ?_)
      obtain ⟨hP1, hD1⟩ := hB
      rw [ht] at hP1
      obtain ⟨z12, i_11, y13, rfl⟩ := hw
      have i_11 : z12 = tget f_b e_b.toInt 24 k_q.toInt m_q.toInt := i_11
      obtain ⟨hP, hD⟩ := va_join (wr := [(a_k, (oc5 a_h a_j a_pt m_ln m_se m_lh m_br m_we m_me m_ce m_wy m_ho m_ov)), (a_h, (oc1 e_wa e_le e_st e_fo e_lc a_l a_g a_b a_s a_p a_w e_gb a_bb)), (a_g, (oc6 6 5 a_gn e_g)), (a_gn, (arI G 30 f_g)), (a_p, (oc6 8 5 a_pn e_p)), (a_pn, (arI G 40 f_p)), (a_bb, (arJ G 24 f_bb)), (a_j, (oc2 a_as a_sk)), (a_as, (arI G 8 m_as)), (a_sk, (arJ G 50 m_sk)), (a_l, (arW G 6 f_l)), (a_lo, (oc3 e_cl a_hd a_sr a_cd)), (a_sr, (arI G n_sr f_sr)), (a_cd, (arI G n_cd f_cd)), (a_hd, (arI G n_hd f_hd)), (a_pt, (arI G 200 m_pt)), (a_wa, (oc10 a_h a_k a_bo)), (a_bo, (arJ G 24 m_bo))]) hP hD [4, 5] [0, 1, 2, 3, 6, 7, 8, 9, 10, 11, 12, 13, 14, 15, 16, 17, 18, 19] rfl rfl (by decide) (by decide) hk1 hFc hP1 hD1
      generalize H1 = H at hP hS ⊢
      refine g5_rs [(a_k, (oc5 a_h a_j a_pt m_ln m_se m_lh m_br m_we m_me m_ce m_wy m_ho m_ov)), (a_h, (oc1 e_wa e_le e_st e_fo e_lc a_l a_g a_b a_s a_p a_w e_gb a_bb)), (a_g, (oc6 6 5 a_gn e_g)), (a_gn, (arI G 30 f_g)), (a_p, (oc6 8 5 a_pn e_p)), (a_pn, (arI G 40 f_p)), (a_bb, (arJ G 24 f_bb)), (a_j, (oc2 a_as a_sk)), (a_as, (arI G 8 m_as)), (a_sk, (arJ G 50 m_sk)), (a_l, (arW G 6 f_l)), (a_lo, (oc3 e_cl a_hd a_sr a_cd)), (a_sr, (arI G n_sr f_sr)), (a_cd, (arI G n_cd f_cd)), (a_hd, (arI G n_hd f_hd)), (a_pt, (arI G 200 m_pt)), (a_wa, (oc10 a_h a_k a_bo)), (a_bo, (arJ G 24 m_bo)), (a_b, (oc6 5 24 a_bn e_b)), (a_bn, (arI G 120 f_b))] hP hD (fun hP hD => ?_)
      refine g5_ti (v := z12) y13 ?_
      refine lv_istore_n (lv' := [(3, .int z12), (2, .int m_q), (1, .int k_q), (0, .ref a_wa)]) hx hb dX10_lookAround_44 rfl hl (by decide) rfl (fun ls hl => ?_)
      refine lv_iconst (v := 0) hx hb dX10_lookAround_45 (by decide) ?_
      refine lv_istore (lv' := [(4, .int 0), (3, .int z12), (2, .int m_q), (1, .int k_q), (0, .ref a_wa)]) hx hb dX10_lookAround_46 hl (by decide) rfl (fun ls hl => ?_)
      refine g5_loop (α := (Int32) × (Int32) × (Int32) × (Int32) × (Int32) × (Int32) × (Int32) × (Int32) × (Int32) × (Int32) × (Nat → Int32) × (Nat → Int32) × (Nat → Int64) × (Int32) × (Nat → Int64)) (fun (q : (Int32) × (Int32) × (Int32) × (Int32) × (Int32) × (Int32) × (Int32) × (Int32) × (Int32) × (Int32) × (Nat → Int32) × (Nat → Int32) × (Nat → Int64) × (Int32) × (Nat → Int64)) (ls : Array Slot) (H : Heap) (locs : List Loc) => match q with | (n_q, n_se, n_lh, n_br, n_we, n_me, n_ce, n_wy, n_ho, n_ov, n_pt, n_as, n_sk, n_ln, n_bo) => lv_has ls 5 [(4, .int n_q), (3, .int z12), (2, .int m_q), (1, .int k_q), (0, .ref a_wa)] ∧ va_P G.1 vwCl [(a_k, (oc5 a_h a_j a_pt n_ln n_se n_lh n_br n_we n_me n_ce n_wy n_ho n_ov)), (a_h, (oc1 e_wa e_le e_st e_fo e_lc a_l a_g a_b a_s a_p a_w e_gb a_bb)), (a_g, (oc6 6 5 a_gn e_g)), (a_gn, (arI G 30 f_g)), (a_p, (oc6 8 5 a_pn e_p)), (a_pn, (arI G 40 f_p)), (a_bb, (arJ G 24 f_bb)), (a_j, (oc2 a_as a_sk)), (a_as, (arI G 8 n_as)), (a_sk, (arJ G 50 n_sk)), (a_l, (arW G 6 f_l)), (a_lo, (oc3 e_cl a_hd a_sr a_cd)), (a_sr, (arI G n_sr f_sr)), (a_cd, (arI G n_cd f_cd)), (a_hd, (arI G n_hd f_hd)), (a_pt, (arI G 200 n_pt)), (a_wa, (oc10 a_h a_k a_bo)), (a_bo, (arJ G 24 n_bo)), (a_b, (oc6 5 24 a_bn e_b)), (a_bn, (arI G 120 f_b))] H ∧ va_D A [(a_k, (oc5 a_h a_j a_pt n_ln n_se n_lh n_br n_we n_me n_ce n_wy n_ho n_ov)), (a_h, (oc1 e_wa e_le e_st e_fo e_lc a_l a_g a_b a_s a_p a_w e_gb a_bb)), (a_g, (oc6 6 5 a_gn e_g)), (a_gn, (arI G 30 f_g)), (a_p, (oc6 8 5 a_pn e_p)), (a_pn, (arI G 40 f_p)), (a_bb, (arJ G 24 f_bb)), (a_j, (oc2 a_as a_sk)), (a_as, (arI G 8 n_as)), (a_sk, (arJ G 50 n_sk)), (a_l, (arW G 6 f_l)), (a_lo, (oc3 e_cl a_hd a_sr a_cd)), (a_sr, (arI G n_sr f_sr)), (a_cd, (arI G n_cd f_cd)), (a_hd, (arI G n_hd f_hd)), (a_pt, (arI G 200 n_pt)), (a_wa, (oc10 a_h a_k a_bo)), (a_bo, (arJ G 24 n_bo)), (a_b, (oc6 5 24 a_bn e_b)), (a_bn, (arI G 120 f_b))] ∧ va_S A s.heap H locs ∧ (0 ≤ n_q.toInt ∧ n_q.toInt ≤ 4) ∧ (0 ≤ n_ov.toInt ∧ n_ov.toInt ≤ 1)) (fun (q : (Int32) × (Int32) × (Int32) × (Int32) × (Int32) × (Int32) × (Int32) × (Int32) × (Int32) × (Int32) × (Nat → Int32) × (Nat → Int32) × (Nat → Int64) × (Int32) × (Nat → Int64)) => match q with | (n_q, n_se, n_lh, n_br, n_we, n_me, n_ce, n_wy, n_ho, n_ov, n_pt, n_as, n_sk, n_ln, n_bo) => Int.toNat (4 - n_q.toInt)) (0, m_se, m_lh, m_br, m_we, m_me, m_ce, m_wy, m_ho, m_ov, m_pt, m_as, m_sk, m_ln, m_bo) ⟨lv_sub hl [0, 1, 2, 3, 4] rfl, hP, hD, hS, ⟨by decide, by decide⟩, i_7⟩ ?_
      rintro ⟨n_q, n_se, n_lh, n_br, n_we, n_me, n_ce, n_wy, n_ho, n_ov, n_pt, n_as, n_sk, n_ln, n_bo⟩ ls H locs ⟨hl, hP, hD, hS, i_14, i_15⟩ ih_48_16
      have hl : lv_has ls 5 [(4, .int n_q), (3, .int z12), (2, .int m_q), (1, .int k_q), (0, .ref a_wa)] := hl
      have i_14 : 0 ≤ n_q.toInt ∧ n_q.toInt ≤ 4 := i_14
      have i_15 : 0 ≤ n_ov.toInt ∧ n_ov.toInt ≤ 1 := i_15
      refine g5_rs [(a_k, (oc5 a_h a_j a_pt n_ln n_se n_lh n_br n_we n_me n_ce n_wy n_ho n_ov)), (a_h, (oc1 e_wa e_le e_st e_fo e_lc a_l a_g a_b a_s a_p a_w e_gb a_bb)), (a_g, (oc6 6 5 a_gn e_g)), (a_gn, (arI G 30 f_g)), (a_p, (oc6 8 5 a_pn e_p)), (a_pn, (arI G 40 f_p)), (a_bb, (arJ G 24 f_bb)), (a_j, (oc2 a_as a_sk)), (a_as, (arI G 8 n_as)), (a_sk, (arJ G 50 n_sk)), (a_l, (arW G 6 f_l)), (a_lo, (oc3 e_cl a_hd a_sr a_cd)), (a_sr, (arI G n_sr f_sr)), (a_cd, (arI G n_cd f_cd)), (a_hd, (arI G n_hd f_hd)), (a_pt, (arI G 200 n_pt)), (a_wa, (oc10 a_h a_k a_bo)), (a_bo, (arJ G 24 n_bo)), (a_b, (oc6 5 24 a_bn e_b)), (a_bn, (arI G 120 f_b))] hP hD (fun hP hD => ?_)
      refine lv_iload hx hb dX10_lookAround_48 (lv_at hl 0 rfl) ?_
      refine lv_iconst (v := 4) hx hb dX10_lookAround_50 (by decide) ?_
      refine lv_icmp_ge (tgt := 81) hx hb dX10_lookAround_51 (by decide) (fun c_17 => ?_) (fun c_17 => ?_)
      ·
        have i_17 : n_q.toInt ≥ 4 := by have z := g5_ge (a := n_q.toInt) (b := 4) (by rfl) (by decide) c_17; omega
        refine lv_iinc (v := (m_q + 1)) (lv' := [(2, .int (m_q + 1)), (4, .int n_q), (3, .int z12), (1, .int k_q), (0, .ref a_wa)]) hx hb dX10_lookAround_81 hl (k := 2) rfl rfl (by decide) rfl (fun ls hl => ?_)
        have t_18 : (m_q + 1).toInt = m_q.toInt + 1 := g5_iadd (a := m_q.toInt) (b := 1) rfl (by decide) (by omega) (by omega)
        refine lv_goto (tgt := 26) hx hb dX10_lookAround_84 (by decide) ?_
        exact ih_26_8 ((m_q + 1), n_se, n_lh, n_br, n_we, n_me, n_ce, n_wy, n_ho, n_ov, n_pt, n_as, n_sk, n_ln, n_bo) ls H locs (show Int.toNat (24 - (m_q + 1).toInt) < Int.toNat (24 - m_q.toInt) from g_up (show m_q.toInt < (m_q + 1).toInt by omega) (show m_q.toInt < 24 by omega)) ⟨lv_sub hl [0, 3, 4] rfl, hP.sub [0, 1, 2, 3, 18, 19, 4, 5, 6, 7, 8, 9, 10, 11, 12, 13, 14, 15, 16, 17] rfl, hD.sub [0, 1, 2, 3, 18, 19, 4, 5, 6, 7, 8, 9, 10, 11, 12, 13, 14, 15, 16, 17] (by decide) rfl, hS, ⟨by omega, by omega⟩, i_15⟩
      ·
        have i_17 : n_q.toInt < 4 := by have z := g5_geN (a := n_q.toInt) (b := 4) (by rfl) (by decide) c_17; omega
        refine lv_iload_n hx hb dX10_lookAround_54 rfl (lv_at hl 1 rfl) ?_
        refine lv_iconst (v := (-1)) hx hb dX10_lookAround_55 (by decide) ?_
        refine lv_icmp_eq (tgt := 81) hx hb dX10_lookAround_56 (by decide) (fun c_19 => ?_) (fun c_19 => ?_)
        ·
          have i_19 : z12.toInt = (-1) := by have z := g5_eq (a := z12.toInt) (b := (-1)) (by rfl) (by decide) c_19; omega
          refine lv_iinc (v := (m_q + 1)) (lv' := [(2, .int (m_q + 1)), (4, .int n_q), (3, .int z12), (1, .int k_q), (0, .ref a_wa)]) hx hb dX10_lookAround_81 hl (k := 2) rfl rfl (by decide) rfl (fun ls hl => ?_)
          have t_20 : (m_q + 1).toInt = m_q.toInt + 1 := g5_iadd (a := m_q.toInt) (b := 1) rfl (by decide) (by omega) (by omega)
          refine lv_goto (tgt := 26) hx hb dX10_lookAround_84 (by decide) ?_
          exact ih_26_8 ((m_q + 1), n_se, n_lh, n_br, n_we, n_me, n_ce, n_wy, n_ho, n_ov, n_pt, n_as, n_sk, n_ln, n_bo) ls H locs (show Int.toNat (24 - (m_q + 1).toInt) < Int.toNat (24 - m_q.toInt) from g_up (show m_q.toInt < (m_q + 1).toInt by omega) (show m_q.toInt < 24 by omega)) ⟨lv_sub hl [0, 3, 4] rfl, hP.sub [0, 1, 2, 3, 18, 19, 4, 5, 6, 7, 8, 9, 10, 11, 12, 13, 14, 15, 16, 17] rfl, hD.sub [0, 1, 2, 3, 18, 19, 4, 5, 6, 7, 8, 9, 10, 11, 12, 13, 14, 15, 16, 17] (by decide) rfl, hS, ⟨by omega, by omega⟩, i_15⟩
        ·
          have n_19 : gNe (z12.toInt) ((-1)) := by have z := g5_eqN (a := z12.toInt) (b := (-1)) (by rfl) (by decide) c_19; unfold gNe; omega
          refine lv_aload_n hx hb dX10_lookAround_59 rfl (lv_at hl 4 rfl) ?_
          refine va_get (D := G.1) (ci := 10) (v := .ref a_k) (C := RX10) (T := TX10) (N := 3) hx hb hts inG_X10 hown hK hP 16 rfl rfl 1 (by decide) (hts _ fl_X10_19) (fun _ h9 => h9) rfl dX10_lookAround_60 ?_
          refine lv_iload_n hx hb dX10_lookAround_63 rfl (lv_at hl 1 rfl) ?_
          refine lv_iload hx hb dX10_lookAround_64 (lv_at hl 0 rfl) ?_
          refine lv_iload_n hx hb dX10_lookAround_66 rfl (lv_at hl 2 rfl) ?_
          refine lv_iconst (v := 0) hx hb dX10_lookAround_67 (by decide) ?_
          obtain ⟨hPc, hDc, hFc⟩ := g5_sub3 (wc := [(a_k, (oc5 a_h a_j a_pt n_ln n_se n_lh n_br n_we n_me n_ce n_wy n_ho n_ov)), (a_h, (oc1 e_wa e_le e_st e_fo e_lc a_l a_g a_b a_s a_p a_w e_gb a_bb)), (a_g, (oc6 6 5 a_gn e_g)), (a_gn, (arI G 30 f_g)), (a_b, (oc6 5 24 a_bn e_b)), (a_bn, (arI G 120 f_b)), (a_p, (oc6 8 5 a_pn e_p)), (a_pn, (arI G 40 f_p)), (a_bb, (arJ G 24 f_bb)), (a_j, (oc2 a_as a_sk)), (a_as, (arI G 8 n_as)), (a_sk, (arJ G 50 n_sk)), (a_l, (arW G 6 f_l)), (a_lo, (oc3 e_cl a_hd a_sr a_cd)), (a_sr, (arI G n_sr f_sr)), (a_cd, (arI G n_cd f_cd)), (a_hd, (arI G n_hd f_hd)), (a_pt, (arI G 200 n_pt))]) hP hD hS hA [0, 1, 2, 3, 18, 19, 4, 5, 6, 7, 8, 9, 10, 11, 12, 13, 14, 15] (by decide) rfl
          refine va_callv (va_runV (As := [.int z12, .int n_q, .int m_q, .int 0]) (rest := []) ⟨hx, hb, hml, hown, hts⟩ (k_runL l G a_k a_h a_g a_gn a_b a_bn a_p a_pn a_bb a_j a_as a_sk a_l a_lo a_sr a_cd a_hd a_pt a_s a_w H.size e_le e_st e_fo e_lc e_g e_b e_p e_cl n_ln n_se n_lh n_br n_we n_me n_ce n_wy n_ho n_ov z12 n_q m_q 0 e_wa e_gb f_g f_b f_p f_bb n_as n_sk f_l f_sr f_cd f_hd n_pt n_sr n_cd n_hd h_e_g h_e_b h_e_p h_e_cl i_15 (e_gk) (e_pk) (e_gi) (e_f) (e_a) (e_hn) (e_hs) (e_hk) (e_c)) (cwV 4 hts gV_X10_45 rfl rfl rfl hv_X5_run ⟨Nat.le_of_ble_eq_true rfl, Nat.le_of_ble_eq_true rfl⟩) (g5_preV hPc hK hDc hN hT hS hFc (ci := 5) (q0 := 0) rfl rfl) rfl rfl hl.1 rfl (lv_room (Nat.le_of_ble_eq_true rfl)) dX10_lookAround_68 ⟨Nat.le_of_ble_eq_true rfl, Nat.le_of_ble_eq_true rfl⟩) hS (fun q _ h => hFc q h) hFc (fun u t H1 locs ht hvm hw hB hz1 hk1 hS => ?_)
          obtain ⟨hP1, hD1⟩ := hB
          rw [ht] at hP1
          obtain ⟨z24, z25, z26, z27, z28, z29, z30, z31, z32, z33, z34, z35, z36, i_21, i_22, i_23, rfl⟩ := hw
          have i_21 : 0 ≤ z24.toInt ∧ z24.toInt ≤ 200 := i_21
          have i_22 : 0 ≤ z33.toInt ∧ z33.toInt ≤ 1 := i_22
          have i_23 : ∀ j : Nat, (j : Int) < z24.toInt → 0 ≤ (z34 j).toInt ∧ (z34 j).toInt ≤ 1535 := i_23
          obtain ⟨hP, hD⟩ := va_join (wr := [(a_wa, (oc10 a_h a_k a_bo)), (a_bo, (arJ G 24 n_bo))]) hP hD [0, 1, 2, 3, 18, 19, 4, 5, 6, 7, 8, 9, 10, 11, 12, 13, 14, 15] [16, 17] rfl rfl (by decide) (by decide) hk1 hFc hP1 hD1
          generalize H1 = H at hP hS ⊢
          refine g5_rs [(a_wa, (oc10 a_h a_k a_bo)), (a_bo, (arJ G 24 n_bo)), (a_k, (oc5 a_h a_j a_pt z24 z25 z26 z27 z28 z29 z30 z31 z32 z33)), (a_h, (oc1 e_wa e_le e_st e_fo e_lc a_l a_g a_b a_s a_p a_w e_gb a_bb)), (a_g, (oc6 6 5 a_gn e_g)), (a_gn, (arI G 30 f_g)), (a_b, (oc6 5 24 a_bn e_b)), (a_bn, (arI G 120 f_b)), (a_p, (oc6 8 5 a_pn e_p)), (a_pn, (arI G 40 f_p)), (a_bb, (arJ G 24 f_bb)), (a_j, (oc2 a_as a_sk)), (a_as, (arI G 8 z35)), (a_sk, (arJ G 50 z36)), (a_l, (arW G 6 f_l)), (a_lo, (oc3 e_cl a_hd a_sr a_cd)), (a_sr, (arI G n_sr f_sr)), (a_cd, (arI G n_cd f_cd)), (a_hd, (arI G n_hd f_hd)), (a_pt, (arI G 200 z34))] hP hD (fun hP hD => ?_)
          refine lv_aload_n hx hb dX10_lookAround_71 rfl (lv_at hl 4 rfl) ?_
          obtain ⟨hPc, hDc, hFc⟩ := g5_sub3 (wc := [(a_wa, (oc10 a_h a_k a_bo)), (a_k, (oc5 a_h a_j a_pt z24 z25 z26 z27 z28 z29 z30 z31 z32 z33)), (a_pt, (arI G 200 z34)), (a_bo, (arJ G 24 n_bo))]) hP hD hS hA [0, 2, 19, 1] (by decide) rfl
          refine va_callv (va_runV (As := []) (rest := []) ⟨hx, hb, hml, hown, hts⟩ (w_addPoints l G a_wa a_k a_pt a_bo a_h a_j H.size z24 z25 z26 z27 z28 z29 z30 z31 z32 z33 z34 n_bo i_21 i_22 (i_23)) (cwV 0 hts gV_X10_51 rfl rfl rfl hv_X10_addPoints ⟨Nat.le_of_ble_eq_true rfl, Nat.le_of_ble_eq_true rfl⟩) (g5_preV hPc hK hDc hN hT hS hFc (ci := 10) (q0 := 0) rfl rfl) rfl rfl hl.1 rfl (lv_room (Nat.le_of_ble_eq_true rfl)) dX10_lookAround_72 ⟨Nat.le_of_ble_eq_true rfl, Nat.le_of_ble_eq_true rfl⟩) hS (fun q _ h => hFc q h) hFc (fun u t H1 locs ht hvm hw hB hz1 hk1 hS => ?_)
          obtain ⟨hP1, hD1⟩ := hB
          rw [ht] at hP1
          obtain ⟨z37, rfl⟩ := hw
          obtain ⟨hP, hD⟩ := va_join (wr := [(a_h, (oc1 e_wa e_le e_st e_fo e_lc a_l a_g a_b a_s a_p a_w e_gb a_bb)), (a_g, (oc6 6 5 a_gn e_g)), (a_gn, (arI G 30 f_g)), (a_b, (oc6 5 24 a_bn e_b)), (a_bn, (arI G 120 f_b)), (a_p, (oc6 8 5 a_pn e_p)), (a_pn, (arI G 40 f_p)), (a_bb, (arJ G 24 f_bb)), (a_j, (oc2 a_as a_sk)), (a_as, (arI G 8 z35)), (a_sk, (arJ G 50 z36)), (a_l, (arW G 6 f_l)), (a_lo, (oc3 e_cl a_hd a_sr a_cd)), (a_sr, (arI G n_sr f_sr)), (a_cd, (arI G n_cd f_cd)), (a_hd, (arI G n_hd f_hd))]) hP hD [0, 2, 19, 1] [3, 4, 5, 6, 7, 8, 9, 10, 11, 12, 13, 14, 15, 16, 17, 18] rfl rfl (by decide) (by decide) hk1 hFc hP1 hD1
          generalize H1 = H at hP hS ⊢
          refine g5_rs [(a_h, (oc1 e_wa e_le e_st e_fo e_lc a_l a_g a_b a_s a_p a_w e_gb a_bb)), (a_g, (oc6 6 5 a_gn e_g)), (a_gn, (arI G 30 f_g)), (a_b, (oc6 5 24 a_bn e_b)), (a_bn, (arI G 120 f_b)), (a_p, (oc6 8 5 a_pn e_p)), (a_pn, (arI G 40 f_p)), (a_bb, (arJ G 24 f_bb)), (a_j, (oc2 a_as a_sk)), (a_as, (arI G 8 z35)), (a_sk, (arJ G 50 z36)), (a_l, (arW G 6 f_l)), (a_lo, (oc3 e_cl a_hd a_sr a_cd)), (a_sr, (arI G n_sr f_sr)), (a_cd, (arI G n_cd f_cd)), (a_hd, (arI G n_hd f_hd)), (a_wa, (oc10 a_h a_k a_bo)), (a_k, (oc5 a_h a_j a_pt z24 z25 z26 z27 z28 z29 z30 z31 z32 z33)), (a_pt, (arI G 200 z34)), (a_bo, (arJ G 24 z37))] hP hD (fun hP hD => ?_)
          refine lv_iinc (v := (n_q + 1)) (lv' := [(4, .int (n_q + 1)), (3, .int z12), (2, .int m_q), (1, .int k_q), (0, .ref a_wa)]) hx hb dX10_lookAround_75 hl (k := 0) rfl rfl (by decide) rfl (fun ls hl => ?_)
          have t_38 : (n_q + 1).toInt = n_q.toInt + 1 := g5_iadd (a := n_q.toInt) (b := 1) rfl (by decide) (by omega) (by omega)
          refine lv_goto (tgt := 48) hx hb dX10_lookAround_78 (by decide) ?_
          exact ih_48_16 ((n_q + 1), z25, z26, z27, z28, z29, z30, z31, z32, z33, z34, z35, z36, z24, z37) ls H locs (show Int.toNat (4 - (n_q + 1).toInt) < Int.toNat (4 - n_q.toInt) from g_up (show n_q.toInt < (n_q + 1).toInt by omega) (show n_q.toInt < 4 by omega)) ⟨lv_sub hl [0, 1, 2, 3, 4] rfl, hP.sub [17, 0, 1, 2, 5, 6, 7, 8, 9, 10, 11, 12, 13, 14, 15, 18, 16, 19, 3, 4] rfl, hD.sub [17, 0, 1, 2, 5, 6, 7, 8, 9, 10, 11, 12, 13, 14, 15, 18, 16, 19, 3, 4] (by decide) rfl, hS, ⟨by omega, by omega⟩, i_22⟩
