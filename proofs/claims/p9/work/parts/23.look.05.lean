theorem fl_X5_81 : Cond.fieldLink RX5 81 "LateGlass$House" "bodyBoards" "[J" ∈ tblG := tg 192 (by decide +kernel) (by decide +kernel)
theorem ml_X5_85 : Cond.methodLink RX5 85 yX5_meetBodies ∈ tblG := tg 826 (by decide +kernel) (by decide +kernel)
theorem im_X5_meetBodies : Cond.instanceMethod yX5_meetBodies ∈ tblG := tg 828 (by decide +kernel) (by decide +kernel)
theorem se_X5_meetBodies : Cond.selects RX5 yX5_meetBodies yX5_meetBodies ∈ tblG := tg 14 (by decide +kernel) (by decide +kernel)
theorem cd_X5_meetBodies : Cond.code yX5_meetBodies cX5_meetBodies 3 none ∈ tblG := tg 829 (by decide +kernel) (by decide +kernel)
theorem gW_X5_meetBodies : GoodIn tblG (wsG yX5_meetBodies cX5_meetBodies 3 none) := tgi cd_X5_meetBodies
theorem gV_X5_85 : GoodIn tblG (wsV RX5 85 RX5 yX5_meetBodies (wsG yX5_meetBodies cX5_meetBodies 3 none)) := tgV ml_X5_85 im_X5_meetBodies se_X5_meetBodies ini_X5 gW_X5_meetBodies
theorem hv_X5_meetBodies : yX5_meetBodies.cls = RX5 ∧ yX5_meetBodies.cls ≠ "java/lang/invoke/MethodHandle" ∧ yX5_meetBodies.cls ≠ "java/lang/invoke/VarHandle" ∧ (parseMethodDescriptor yX5_meetBodies.desc).map (fun d => d.parameters.length) = some 0 := by decide +kernel
theorem ml_X5_88 : Cond.methodLink RX5 88 yX5_meetGlass ∈ tblG := tg 855 (by decide +kernel) (by decide +kernel)
theorem im_X5_meetGlass : Cond.instanceMethod yX5_meetGlass ∈ tblG := tg 857 (by decide +kernel) (by decide +kernel)
theorem se_X5_meetGlass : Cond.selects RX5 yX5_meetGlass yX5_meetGlass ∈ tblG := tg 18 (by decide +kernel) (by decide +kernel)
theorem cd_X5_meetGlass : Cond.code yX5_meetGlass cX5_meetGlass 9 none ∈ tblG := tg 858 (by decide +kernel) (by decide +kernel)
theorem gW_X5_meetGlass : GoodIn tblG (wsG yX5_meetGlass cX5_meetGlass 9 none) := tgi cd_X5_meetGlass
theorem gV_X5_88 : GoodIn tblG (wsV RX5 88 RX5 yX5_meetGlass (wsG yX5_meetGlass cX5_meetGlass 9 none)) := tgV ml_X5_88 im_X5_meetGlass se_X5_meetGlass ini_X5 gW_X5_meetGlass
theorem hv_X5_meetGlass : yX5_meetGlass.cls = RX5 ∧ yX5_meetGlass.cls ≠ "java/lang/invoke/MethodHandle" ∧ yX5_meetGlass.cls ≠ "java/lang/invoke/VarHandle" ∧ (parseMethodDescriptor yX5_meetGlass.desc).map (fun d => d.parameters.length) = some 0 := by decide +kernel
set_option maxHeartbeats 4000000 in
set_option maxRecDepth 100000 in
theorem k_runN (l : Launch) (G : g5_G) (a_k a_h a_g a_gn a_b a_bn a_p a_pn a_bb a_j a_as a_sk a_l a_pt a_s a_w : Nat) (sz : Nat) (e_le : Int32) (e_st : Int32) (e_fo : Int32) (e_lc : Int32) (e_g : Int32) (e_b : Int32) (e_p : Int32) (e_ln : Int32) (e_se : Int32) (e_lh : Int32) (e_br : Int32) (e_we : Int32) (e_me : Int32) (e_ce : Int32) (e_wy : Int32) (e_ho : Int32) (e_ov : Int32) (p_c : Int32) (p_w : Int32) (p_h : Int32) (p_u : Int32) (e_wa : Int64) (e_gb : Int64) (f_g : Nat → Int32) (f_b : Nat → Int32) (f_p : Nat → Int32) (f_bb : Nat → Int64) (f_as : Nat → Int32) (f_sk : Nat → Int64) (f_l : Nat → Option Nat) (f_pt : Nat → Int32) (h_e_g : 0 ≤ e_g.toInt ∧ e_g.toInt ≤ 6) (h_e_b : 0 ≤ e_b.toInt ∧ e_b.toInt ≤ 5) (h_e_p : 0 ≤ e_p.toInt ∧ e_p.toInt ≤ 8) (h_e_ov : 0 ≤ e_ov.toInt ∧ e_ov.toInt ≤ 1) (e_gk : gOK f_g e_g.toInt) (e_pk : gOK f_p e_p.toInt) (e_gi : inT e_gb f_g e_g.toInt) (e_f : e_fo.toInt < 0 ∨ e_lc.toInt ≤ e_fo.toInt) : Met l yX5_run (wsG yX5_run cX5_run 9 none) ({ frames := 13, cells := 0, slots := 0, locals := 528 }) (va_Pc [.ref a_k, .int p_c, .int p_w, .int p_h, .int p_u] (g5_P G [(a_k, (oc5 a_h a_j a_pt e_ln e_se e_lh e_br e_we e_me e_ce e_wy e_ho e_ov)), (a_h, (oc1 e_wa e_le e_st e_fo e_lc a_l a_g a_b a_s a_p a_w e_gb a_bb)), (a_g, (oc6 6 5 a_gn e_g)), (a_gn, (arI G 30 f_g)), (a_b, (oc6 5 24 a_bn e_b)), (a_bn, (arI G 120 f_b)), (a_p, (oc6 8 5 a_pn e_p)), (a_pn, (arI G 40 f_p)), (a_bb, (arJ G 24 f_bb)), (a_j, (oc2 a_as a_sk)), (a_as, (arI G 8 f_as)), (a_sk, (arJ G 50 f_sk)), (a_l, (arW G 6 f_l)), (a_pt, (arI G 200 f_pt))] sz)) (va_Qv (fun (u : va_W) => (∃ (o_ln : Int32) (o_se : Int32) (o_lh : Int32) (o_br : Int32) (o_we : Int32) (o_me : Int32) (o_ce : Int32) (o_wy : Int32) (o_ho : Int32) (o_ov : Int32) (o_pt : Nat → Int32) (o_as : Nat → Int32) (o_sk : Nat → Int64), (0 ≤ o_ln.toInt ∧ o_ln.toInt ≤ 200) ∧ (0 ≤ o_ov.toInt ∧ o_ov.toInt ≤ 1) ∧ (∀ j : Nat, (j : Int) < o_ln.toInt → 0 ≤ (o_pt j).toInt ∧ (o_pt j).toInt ≤ 1535) ∧ (u = [(a_k, (oc5 a_h a_j a_pt o_ln o_se o_lh o_br o_we o_me o_ce o_wy o_ho o_ov)), (a_h, (oc1 e_wa e_le e_st e_fo e_lc a_l a_g a_b a_s a_p a_w e_gb a_bb)), (a_g, (oc6 6 5 a_gn e_g)), (a_gn, (arI G 30 f_g)), (a_b, (oc6 5 24 a_bn e_b)), (a_bn, (arI G 120 f_b)), (a_p, (oc6 8 5 a_pn e_p)), (a_pn, (arI G 40 f_p)), (a_bb, (arJ G 24 f_bb)), (a_j, (oc2 a_as a_sk)), (a_as, (arI G 8 o_as)), (a_sk, (arJ G 50 o_sk)), (a_l, (arW G 6 f_l)), (a_pt, (arI G 200 o_pt))]))) (g5_B G (va_A [(a_k, (oc5 a_h a_j a_pt e_ln e_se e_lh e_br e_we e_me e_ce e_wy e_ho e_ov)), (a_h, (oc1 e_wa e_le e_st e_fo e_lc a_l a_g a_b a_s a_p a_w e_gb a_bb)), (a_g, (oc6 6 5 a_gn e_g)), (a_gn, (arI G 30 f_g)), (a_b, (oc6 5 24 a_bn e_b)), (a_bn, (arI G 120 f_b)), (a_p, (oc6 8 5 a_pn e_p)), (a_pn, (arI G 40 f_p)), (a_bb, (arJ G 24 f_bb)), (a_j, (oc2 a_as a_sk)), (a_as, (arI G 8 f_as)), (a_sk, (arJ G 50 f_sk)), (a_l, (arW G 6 f_l)), (a_pt, (arI G 200 f_pt))] sz)) (va_A [(a_k, (oc5 a_h a_j a_pt e_ln e_se e_lh e_br e_we e_me e_ce e_wy e_ho e_ov)), (a_h, (oc1 e_wa e_le e_st e_fo e_lc a_l a_g a_b a_s a_p a_w e_gb a_bb)), (a_g, (oc6 6 5 a_gn e_g)), (a_gn, (arI G 30 f_g)), (a_b, (oc6 5 24 a_bn e_b)), (a_bn, (arI G 120 f_b)), (a_p, (oc6 8 5 a_pn e_p)), (a_pn, (arI G 40 f_p)), (a_bb, (arJ G 24 f_bb)), (a_j, (oc2 a_as a_sk)), (a_as, (arI G 8 f_as)), (a_sk, (arJ G 50 f_sk)), (a_l, (arW G 6 f_l)), (a_pt, (arI G 200 f_pt))] sz)) 0 0 (va_A [(a_k, (oc5 a_h a_j a_pt e_ln e_se e_lh e_br e_we e_me e_ce e_wy e_ho e_ov)), (a_h, (oc1 e_wa e_le e_st e_fo e_lc a_l a_g a_b a_s a_p a_w e_gb a_bb)), (a_g, (oc6 6 5 a_gn e_g)), (a_gn, (arI G 30 f_g)), (a_b, (oc6 5 24 a_bn e_b)), (a_bn, (arI G 120 f_b)), (a_p, (oc6 8 5 a_pn e_p)), (a_pn, (arI G 40 f_p)), (a_bb, (arJ G 24 f_bb)), (a_j, (oc2 a_as a_sk)), (a_as, (arI G 8 f_as)), (a_sk, (arJ G 50 f_sk)), (a_l, (arW G 6 f_l)), (a_pt, (arI G 200 f_pt))] sz) := by
  refine Met.ofW (cc := cX5_run) (maxL := 9) (ret := none) (by decide) rfl ?_
  intro p e s m args below meth c s₁ B hml hv
  obtain ⟨rfl, hsz, hP, hK, hD0, hN, hT⟩ := hv
  have hx := B.exec
  have hb := B.bytes
  have hr := B.returns
  have hts : ∀ w ∈ tblG, w.before _ s = true := fun w h => atoms_spec (ws := (wsG yX5_run cX5_run 9 none)) B.pre w (List.mem_cons_of_mem _ h)
  have hown : s.vm.findClass RX5 = some m.cls := findClass_of_methodNamed B.named
  have hlocks := B.notSynchronized
  subst hsz
  have hD := hD0.self (sz := s.heap.size)
  generalize hAe : va_A [(a_k, (oc5 a_h a_j a_pt e_ln e_se e_lh e_br e_we e_me e_ce e_wy e_ho e_ov)), (a_h, (oc1 e_wa e_le e_st e_fo e_lc a_l a_g a_b a_s a_p a_w e_gb a_bb)), (a_g, (oc6 6 5 a_gn e_g)), (a_gn, (arI G 30 f_g)), (a_b, (oc6 5 24 a_bn e_b)), (a_bn, (arI G 120 f_b)), (a_p, (oc6 8 5 a_pn e_p)), (a_pn, (arI G 40 f_p)), (a_bb, (arJ G 24 f_bb)), (a_j, (oc2 a_as a_sk)), (a_as, (arI G 8 f_as)), (a_sk, (arJ G 50 f_sk)), (a_l, (arW G 6 f_l)), (a_pt, (arI G 200 f_pt))] s.heap.size = A at hD hT ⊢
  have hA : ∀ q : Nat, s.heap.size ≤ q → A q := fun q h => by rw [← hAe]; exact Or.inr h
  have hS : va_S A s.heap s.heap [] := va_S.rf
  have hP : va_P G.1 vwCl [(a_k, (oc5 a_h a_j a_pt e_ln e_se e_lh e_br e_we e_me e_ce e_wy e_ho e_ov)), (a_h, (oc1 e_wa e_le e_st e_fo e_lc a_l a_g a_b a_s a_p a_w e_gb a_bb)), (a_g, (oc6 6 5 a_gn e_g)), (a_gn, (arI G 30 f_g)), (a_b, (oc6 5 24 a_bn e_b)), (a_bn, (arI G 120 f_b)), (a_p, (oc6 8 5 a_pn e_p)), (a_pn, (arI G 40 f_p)), (a_bb, (arJ G 24 f_bb)), (a_j, (oc2 a_as a_sk)), (a_as, (arI G 8 f_as)), (a_sk, (arJ G 50 f_sk)), (a_l, (arW G 6 f_l)), (a_pt, (arI G 200 f_pt))] s.heap := hP
  have hl := lv_entry ([.ref a_k, .int p_c, .int p_w, .int p_h, .int p_u]) (n := 9) (Nat.le_of_ble_eq_true rfl)
  rw [lg_entry_eq]
  generalize (lg_sl ([.ref a_k, .int p_c, .int p_w, .int p_h, .int p_u]) ++ List.replicate (9 - (lg_sl ([.ref a_k, .int p_c, .int p_w, .int p_h, .int p_u])).length) Slot.unset).toArray = ls at hl ⊢
  have hl : lv_has ls 9 [(0, .ref a_k), (1, .int p_c), (2, .int p_w), (3, .int p_h), (4, .int p_u)] := hl
  refine lv_aload_n hx hb dX5_run_0 rfl (lv_at hl 0 rfl) ?_
  refine lv_iload_n hx hb dX5_run_1 rfl (lv_at hl 1 rfl) ?_
  refine va_put (D := G.1) (ci := 5) (v := .int p_c) (ty := .int) (C := RX5) (T := TX5) (N := 13) hx hb hts inG_X5 tyX5 tyX5_ok nmX5 hown hK hP hD hS 0 rfl rfl 9 (by decide) (hts _ fl_X5_26) (fun _ h9 => h9) rfl (by decide +kernel) rfl rfl (Nat.le_of_ble_eq_true rfl) dX5_run_2 (fun H locs hP hD hS => ?_)
  refine g5_rs [(a_k, (oc5 a_h a_j a_pt e_ln e_se e_lh e_br e_we e_me p_c e_wy e_ho e_ov)), (a_h, (oc1 e_wa e_le e_st e_fo e_lc a_l a_g a_b a_s a_p a_w e_gb a_bb)), (a_g, (oc6 6 5 a_gn e_g)), (a_gn, (arI G 30 f_g)), (a_b, (oc6 5 24 a_bn e_b)), (a_bn, (arI G 120 f_b)), (a_p, (oc6 8 5 a_pn e_p)), (a_pn, (arI G 40 f_p)), (a_bb, (arJ G 24 f_bb)), (a_j, (oc2 a_as a_sk)), (a_as, (arI G 8 f_as)), (a_sk, (arJ G 50 f_sk)), (a_l, (arW G 6 f_l)), (a_pt, (arI G 200 f_pt))] hP hD (fun hP hD => ?_)
  refine lv_aload_n hx hb dX5_run_5 rfl (lv_at hl 0 rfl) ?_
  refine lv_iload_n hx hb dX5_run_6 rfl (lv_at hl 2 rfl) ?_
  refine va_put (D := G.1) (ci := 5) (v := .int p_w) (ty := .int) (C := RX5) (T := TX5) (N := 13) hx hb hts inG_X5 tyX5 tyX5_ok nmX5 hown hK hP hD hS 0 rfl rfl 10 (by decide) (hts _ fl_X5_30) (fun _ h9 => h9) rfl (by decide +kernel) rfl rfl (Nat.le_of_ble_eq_true rfl) dX5_run_7 (fun H locs hP hD hS => ?_)
  refine g5_rs [(a_k, (oc5 a_h a_j a_pt e_ln e_se e_lh e_br e_we e_me p_c p_w e_ho e_ov)), (a_h, (oc1 e_wa e_le e_st e_fo e_lc a_l a_g a_b a_s a_p a_w e_gb a_bb)), (a_g, (oc6 6 5 a_gn e_g)), (a_gn, (arI G 30 f_g)), (a_b, (oc6 5 24 a_bn e_b)), (a_bn, (arI G 120 f_b)), (a_p, (oc6 8 5 a_pn e_p)), (a_pn, (arI G 40 f_p)), (a_bb, (arJ G 24 f_bb)), (a_j, (oc2 a_as a_sk)), (a_as, (arI G 8 f_as)), (a_sk, (arJ G 50 f_sk)), (a_l, (arW G 6 f_l)), (a_pt, (arI G 200 f_pt))] hP hD (fun hP hD => ?_)
  refine lv_aload_n hx hb dX5_run_10 rfl (lv_at hl 0 rfl) ?_
  refine lv_iload_n hx hb dX5_run_11 rfl (lv_at hl 3 rfl) ?_
  refine va_put (D := G.1) (ci := 5) (v := .int p_h) (ty := .int) (C := RX5) (T := TX5) (N := 13) hx hb hts inG_X5 tyX5 tyX5_ok nmX5 hown hK hP hD hS 0 rfl rfl 11 (by decide) (hts _ fl_X5_33) (fun _ h9 => h9) rfl (by decide +kernel) rfl rfl (Nat.le_of_ble_eq_true rfl) dX5_run_12 (fun H locs hP hD hS => ?_)
  refine g5_rs [(a_k, (oc5 a_h a_j a_pt e_ln e_se e_lh e_br e_we e_me p_c p_w p_h e_ov)), (a_h, (oc1 e_wa e_le e_st e_fo e_lc a_l a_g a_b a_s a_p a_w e_gb a_bb)), (a_g, (oc6 6 5 a_gn e_g)), (a_gn, (arI G 30 f_g)), (a_b, (oc6 5 24 a_bn e_b)), (a_bn, (arI G 120 f_b)), (a_p, (oc6 8 5 a_pn e_p)), (a_pn, (arI G 40 f_p)), (a_bb, (arJ G 24 f_bb)), (a_j, (oc2 a_as a_sk)), (a_as, (arI G 8 f_as)), (a_sk, (arJ G 50 f_sk)), (a_l, (arW G 6 f_l)), (a_pt, (arI G 200 f_pt))] hP hD (fun hP hD => ?_)
  refine lv_aload_n hx hb dX5_run_15 rfl (lv_at hl 0 rfl) ?_
  refine lv_iconst (v := 0) hx hb dX5_run_16 (by decide) ?_
  refine va_put (D := G.1) (ci := 5) (v := .int 0) (ty := .int) (C := RX5) (T := TX5) (N := 13) hx hb hts inG_X5 tyX5 tyX5_ok nmX5 hown hK hP hD hS 0 rfl rfl 3 (by decide) (hts _ fl_X5_36) (fun _ h9 => h9) rfl (by decide +kernel) rfl rfl (Nat.le_of_ble_eq_true rfl) dX5_run_17 (fun H locs hP hD hS => ?_)
  refine g5_rs [(a_k, (oc5 a_h a_j a_pt 0 e_se e_lh e_br e_we e_me p_c p_w p_h e_ov)), (a_h, (oc1 e_wa e_le e_st e_fo e_lc a_l a_g a_b a_s a_p a_w e_gb a_bb)), (a_g, (oc6 6 5 a_gn e_g)), (a_gn, (arI G 30 f_g)), (a_b, (oc6 5 24 a_bn e_b)), (a_bn, (arI G 120 f_b)), (a_p, (oc6 8 5 a_pn e_p)), (a_pn, (arI G 40 f_p)), (a_bb, (arJ G 24 f_bb)), (a_j, (oc2 a_as a_sk)), (a_as, (arI G 8 f_as)), (a_sk, (arJ G 50 f_sk)), (a_l, (arW G 6 f_l)), (a_pt, (arI G 200 f_pt))] hP hD (fun hP hD => ?_)
  refine lv_aload_n hx hb dX5_run_20 rfl (lv_at hl 0 rfl) ?_
  refine lv_iconst (v := (-1)) hx hb dX5_run_21 (by decide) ?_
  refine va_put (D := G.1) (ci := 5) (v := .int (-1)) (ty := .int) (C := RX5) (T := TX5) (N := 13) hx hb hts inG_X5 tyX5 tyX5_ok nmX5 hown hK hP hD hS 0 rfl rfl 4 (by decide) (hts _ fl_X5_39) (fun _ h9 => h9) rfl (by decide +kernel) rfl rfl (Nat.le_of_ble_eq_true rfl) dX5_run_22 (fun H locs hP hD hS => ?_)
  refine g5_rs [(a_k, (oc5 a_h a_j a_pt 0 (-1) e_lh e_br e_we e_me p_c p_w p_h e_ov)), (a_h, (oc1 e_wa e_le e_st e_fo e_lc a_l a_g a_b a_s a_p a_w e_gb a_bb)), (a_g, (oc6 6 5 a_gn e_g)), (a_gn, (arI G 30 f_g)), (a_b, (oc6 5 24 a_bn e_b)), (a_bn, (arI G 120 f_b)), (a_p, (oc6 8 5 a_pn e_p)), (a_pn, (arI G 40 f_p)), (a_bb, (arJ G 24 f_bb)), (a_j, (oc2 a_as a_sk)), (a_as, (arI G 8 f_as)), (a_sk, (arJ G 50 f_sk)), (a_l, (arW G 6 f_l)), (a_pt, (arI G 200 f_pt))] hP hD (fun hP hD => ?_)
  refine lv_aload_n hx hb dX5_run_25 rfl (lv_at hl 0 rfl) ?_
  refine lv_iconst (v := (-1)) hx hb dX5_run_26 (by decide) ?_
  refine va_put (D := G.1) (ci := 5) (v := .int (-1)) (ty := .int) (C := RX5) (T := TX5) (N := 13) hx hb hts inG_X5 tyX5 tyX5_ok nmX5 hown hK hP hD hS 0 rfl rfl 5 (by decide) (hts _ fl_X5_42) (fun _ h9 => h9) rfl (by decide +kernel) rfl rfl (Nat.le_of_ble_eq_true rfl) dX5_run_27 (fun H locs hP hD hS => ?_)
  refine g5_rs [(a_k, (oc5 a_h a_j a_pt 0 (-1) (-1) e_br e_we e_me p_c p_w p_h e_ov)), (a_h, (oc1 e_wa e_le e_st e_fo e_lc a_l a_g a_b a_s a_p a_w e_gb a_bb)), (a_g, (oc6 6 5 a_gn e_g)), (a_gn, (arI G 30 f_g)), (a_b, (oc6 5 24 a_bn e_b)), (a_bn, (arI G 120 f_b)), (a_p, (oc6 8 5 a_pn e_p)), (a_pn, (arI G 40 f_p)), (a_bb, (arJ G 24 f_bb)), (a_j, (oc2 a_as a_sk)), (a_as, (arI G 8 f_as)), (a_sk, (arJ G 50 f_sk)), (a_l, (arW G 6 f_l)), (a_pt, (arI G 200 f_pt))] hP hD (fun hP hD => ?_)
  refine lv_aload_n hx hb dX5_run_30 rfl (lv_at hl 0 rfl) ?_
  refine lv_ldc (v := 1000000) hx hb hown (hts _ ki_X5_45) dX5_run_31 ?_
  refine va_put (D := G.1) (ci := 5) (v := .int 1000000) (ty := .int) (C := RX5) (T := TX5) (N := 13) hx hb hts inG_X5 tyX5 tyX5_ok nmX5 hown hK hP hD hS 0 rfl rfl 6 (by decide) (hts _ fl_X5_46) (fun _ h9 => h9) rfl (by decide +kernel) rfl rfl (Nat.le_of_ble_eq_true rfl) dX5_run_33 (fun H locs hP hD hS => ?_)
  refine g5_rs [(a_k, (oc5 a_h a_j a_pt 0 (-1) (-1) 1000000 e_we e_me p_c p_w p_h e_ov)), (a_h, (oc1 e_wa e_le e_st e_fo e_lc a_l a_g a_b a_s a_p a_w e_gb a_bb)), (a_g, (oc6 6 5 a_gn e_g)), (a_gn, (arI G 30 f_g)), (a_b, (oc6 5 24 a_bn e_b)), (a_bn, (arI G 120 f_b)), (a_p, (oc6 8 5 a_pn e_p)), (a_pn, (arI G 40 f_p)), (a_bb, (arJ G 24 f_bb)), (a_j, (oc2 a_as a_sk)), (a_as, (arI G 8 f_as)), (a_sk, (arJ G 50 f_sk)), (a_l, (arW G 6 f_l)), (a_pt, (arI G 200 f_pt))] hP hD (fun hP hD => ?_)
  refine lv_aload_n hx hb dX5_run_36 rfl (lv_at hl 0 rfl) ?_
  refine lv_iconst (v := 0) hx hb dX5_run_37 (by decide) ?_
  refine va_put (D := G.1) (ci := 5) (v := .int 0) (ty := .int) (C := RX5) (T := TX5) (N := 13) hx hb hts inG_X5 tyX5 tyX5_ok nmX5 hown hK hP hD hS 0 rfl rfl 7 (by decide) (hts _ fl_X5_49) (fun _ h9 => h9) rfl (by decide +kernel) rfl rfl (Nat.le_of_ble_eq_true rfl) dX5_run_38 (fun H locs hP hD hS => ?_)
  refine g5_rs [(a_k, (oc5 a_h a_j a_pt 0 (-1) (-1) 1000000 0 e_me p_c p_w p_h e_ov)), (a_h, (oc1 e_wa e_le e_st e_fo e_lc a_l a_g a_b a_s a_p a_w e_gb a_bb)), (a_g, (oc6 6 5 a_gn e_g)), (a_gn, (arI G 30 f_g)), (a_b, (oc6 5 24 a_bn e_b)), (a_bn, (arI G 120 f_b)), (a_p, (oc6 8 5 a_pn e_p)), (a_pn, (arI G 40 f_p)), (a_bb, (arJ G 24 f_bb)), (a_j, (oc2 a_as a_sk)), (a_as, (arI G 8 f_as)), (a_sk, (arJ G 50 f_sk)), (a_l, (arW G 6 f_l)), (a_pt, (arI G 200 f_pt))] hP hD (fun hP hD => ?_)
  refine lv_aload_n hx hb dX5_run_41 rfl (lv_at hl 0 rfl) ?_
  refine lv_iload_n hx hb dX5_run_42 rfl (lv_at hl 1 rfl) ?_
  refine lv_iload_n hx hb dX5_run_43 rfl (lv_at hl 2 rfl) ?_
  refine lv_iload_n hx hb dX5_run_44 rfl (lv_at hl 3 rfl) ?_
  obtain ⟨hPc, hDc, hFc⟩ := g5_sub3 (wc := []) hP hD hS hA [] (by decide) rfl
  refine va_calli (va_runSN (As := [.int p_c, .int p_w, .int p_h]) (rest := [.ref a_k]) ⟨hx, hb, hml, hown, hts⟩ (x_isLook l G H.size p_c p_w p_h) ⟨va_cnB 3 hts gW_X11_isLook rfl rfl rfl (hN.1 _ g5_nw_X5_52) (hts _ ini_X11) hs_X11_isLook ⟨Nat.le_of_ble_eq_true rfl, Nat.le_of_ble_eq_true rfl⟩, hts _ st_X11_isLook, trivial⟩ (g5_preS hPc hK hDc hN hT hS hFc) rfl rfl hl.1 rfl (lv_room (Nat.le_of_ble_eq_true rfl)) dX5_run_45 ⟨Nat.le_of_ble_eq_true rfl, Nat.le_of_ble_eq_true rfl⟩) hS (fun q _ h => hFc q h) hFc (fun r u t H1 locs ht hvm hw hB hz1 hk1 hS => ?_)
  obtain ⟨hP1, hD1⟩ := hB
  rw [ht] at hP1
  rcases hw with ⟨i_1, rfl, rfl⟩ | ⟨rfl, rfl⟩
  ·
    have i_1 : (0 ≤ p_c.toInt ∧ p_c.toInt ≤ 63) ∧ (0 ≤ p_w.toInt ∧ p_w.toInt ≤ 3) ∧ (0 ≤ p_h.toInt ∧ p_h.toInt ≤ 23) := i_1
    have hP := g5_same hP hk1
    generalize H1 = H at hP hS ⊢
    refine lv_if_ne (tgt := 55) hx hb dX5_run_48 (by decide) (fun c_2 => ?_) (fun c_2 => ?_)
    ·
      refine lv_iconst (v := 0) hx hb dX5_run_55 (by decide) ?_
      refine va_put (D := G.1) (ci := 5) (v := .int 0) (ty := .boolean) (C := RX5) (T := TX5) (N := 13) hx hb hts inG_X5 tyX5 tyX5_ok nmX5 hown hK hP hD hS 0 rfl rfl 12 (by decide) (hts _ fl_X5_56) (fun _ h9 => h9) rfl (by decide +kernel) rfl rfl (Nat.le_of_ble_eq_true rfl) dX5_run_56 (fun H locs hP hD hS => ?_)
      refine g5_rs [(a_k, (oc5 a_h a_j a_pt 0 (-1) (-1) 1000000 0 e_me p_c p_w p_h 0)), (a_h, (oc1 e_wa e_le e_st e_fo e_lc a_l a_g a_b a_s a_p a_w e_gb a_bb)), (a_g, (oc6 6 5 a_gn e_g)), (a_gn, (arI G 30 f_g)), (a_b, (oc6 5 24 a_bn e_b)), (a_bn, (arI G 120 f_b)), (a_p, (oc6 8 5 a_pn e_p)), (a_pn, (arI G 40 f_p)), (a_bb, (arJ G 24 f_bb)), (a_j, (oc2 a_as a_sk)), (a_as, (arI G 8 f_as)), (a_sk, (arJ G 50 f_sk)), (a_l, (arW G 6 f_l)), (a_pt, (arI G 200 f_pt))] hP hD (fun hP hD => ?_)
      refine lv_aload_n hx hb dX5_run_59 rfl (lv_at hl 0 rfl) ?_
      refine va_get (D := G.1) (ci := 5) (v := .ref a_h) (C := RX5) (T := TX5) (N := 13) hx hb hts inG_X5 hown hK hP 0 rfl rfl 0 (by decide) (hts _ fl_X5_22) (fun _ h9 => h9) rfl dX5_run_60 ?_
      refine va_get (D := G.1) (ci := 1) (v := .long e_gb) (C := RX1) (T := TX1) (N := 13) hx hb hts inG_X1 hown hK hP 1 rfl rfl 11 (by decide) (hts _ fl_X5_60) (fun _ h9 => h9) rfl dX5_run_63 ?_
      refine lv_aload_n hx hb dX5_run_66 rfl (lv_at hl 0 rfl) ?_
      refine lv_iload hx hb dX5_run_67 (lv_at hl 4 rfl) ?_
      obtain ⟨hPc, hDc, hFc⟩ := g5_sub3 (wc := [(a_k, (oc5 a_h a_j a_pt 0 (-1) (-1) 1000000 0 e_me p_c p_w p_h 0)), (a_h, (oc1 e_wa e_le e_st e_fo e_lc a_l a_g a_b a_s a_p a_w e_gb a_bb)), (a_p, (oc6 8 5 a_pn e_p)), (a_pn, (arI G 40 f_p))]) hP hD hS hA [0, 1, 6, 7] (by decide) rfl
      refine va_calll (va_runV (As := [.int p_u]) (rest := [.long e_gb]) ⟨hx, hb, hml, hown, hts⟩ (k_hung l G a_k a_h a_p a_pn a_j a_pt a_l a_g a_b a_s a_w a_bb H.size e_le e_st e_fo e_lc e_p 0 (-1) (-1) 1000000 0 e_me p_c p_w p_h 0 p_u e_wa e_gb f_p h_e_p ⟨by decide, by decide⟩ (gOK_cell e_pk)) (cwV 1 hts gV_X5_66 rfl rfl rfl hv_X5_hungBoard ⟨Nat.le_of_ble_eq_true rfl, Nat.le_of_ble_eq_true rfl⟩) (g5_preV hPc hK hDc hN hT hS hFc (ci := 5) (q0 := 0) rfl rfl) rfl rfl hl.1 rfl (lv_room (Nat.le_of_ble_eq_true rfl)) dX5_run_69 ⟨Nat.le_of_ble_eq_true rfl, Nat.le_of_ble_eq_true rfl⟩) hS (fun q _ h => hFc q h) hFc (fun r u t H1 locs ht hvm hw hB hz1 hk1 hS => ?_)
      obtain ⟨hP1, hD1⟩ := hB
      rw [ht] at hP1
      obtain ⟨z4, i_3, y5, rfl⟩ := hw
      have i_3 : inT z4 f_p e_p.toInt := i_3
      obtain ⟨hP, hD⟩ := va_join (wr := [(a_g, (oc6 6 5 a_gn e_g)), (a_gn, (arI G 30 f_g)), (a_b, (oc6 5 24 a_bn e_b)), (a_bn, (arI G 120 f_b)), (a_bb, (arJ G 24 f_bb)), (a_j, (oc2 a_as a_sk)), (a_as, (arI G 8 f_as)), (a_sk, (arJ G 50 f_sk)), (a_l, (arW G 6 f_l)), (a_pt, (arI G 200 f_pt))]) hP hD [0, 1, 6, 7] [2, 3, 4, 5, 8, 9, 10, 11, 12, 13] rfl rfl (by decide) (by decide) hk1 hFc hP1 hD1
      generalize H1 = H at hP hS ⊢
      refine g5_rs [(a_g, (oc6 6 5 a_gn e_g)), (a_gn, (arI G 30 f_g)), (a_b, (oc6 5 24 a_bn e_b)), (a_bn, (arI G 120 f_b)), (a_bb, (arJ G 24 f_bb)), (a_j, (oc2 a_as a_sk)), (a_as, (arI G 8 f_as)), (a_sk, (arJ G 50 f_sk)), (a_l, (arW G 6 f_l)), (a_pt, (arI G 200 f_pt)), (a_k, (oc5 a_h a_j a_pt 0 (-1) (-1) 1000000 0 e_me p_c p_w p_h 0)), (a_h, (oc1 e_wa e_le e_st e_fo e_lc a_l a_g a_b a_s a_p a_w e_gb a_bb)), (a_p, (oc6 8 5 a_pn e_p)), (a_pn, (arI G 40 f_p))] hP hD (fun hP hD => ?_)
      refine g5_tl (v := z4) y5 ?_
      refine lv_lor hx hb dX5_run_72 ?_
      refine lv_lstore (lv' := [(5, .long (e_gb ||| z4)), (0, .ref a_k), (1, .int p_c), (2, .int p_w), (3, .int p_h), (4, .int p_u)]) hx hb dX5_run_73 hl (by decide) rfl (fun ls hl => ?_)
      refine lv_iconst (v := 0) hx hb dX5_run_75 (by decide) ?_
      refine lv_istore (lv' := [(7, .int 0), (5, .long (e_gb ||| z4)), (0, .ref a_k), (1, .int p_c), (2, .int p_w), (3, .int p_h), (4, .int p_u)]) hx hb dX5_run_76 hl (by decide) rfl (fun ls hl => ?_)
      refine g5_loop (α := (Int32) × (Int32) × (Int32) × (Int32) × (Int32) × (Int32) × (Int32) × (Int32) × (Int32) × (Int32) × (Int32) × (Nat → Int32) × (Nat → Int32) × (Nat → Int64)) (fun (q : (Int32) × (Int32) × (Int32) × (Int32) × (Int32) × (Int32) × (Int32) × (Int32) × (Int32) × (Int32) × (Int32) × (Nat → Int32) × (Nat → Int32) × (Nat → Int64)) (ls : Array Slot) (H : Heap) (locs : List Loc) => match q with | (k_i, k_ln, k_se, k_lh, k_br, k_we, k_me, k_ce, k_wy, k_ho, k_ov, k_pt, k_as, k_sk) => lv_has ls 9 [(7, .int k_i), (5, .long (e_gb ||| z4)), (0, .ref a_k), (1, .int p_c), (2, .int p_w), (3, .int p_h), (4, .int p_u)] ∧ va_P G.1 vwCl [(a_g, (oc6 6 5 a_gn e_g)), (a_gn, (arI G 30 f_g)), (a_b, (oc6 5 24 a_bn e_b)), (a_bn, (arI G 120 f_b)), (a_bb, (arJ G 24 f_bb)), (a_j, (oc2 a_as a_sk)), (a_as, (arI G 8 k_as)), (a_sk, (arJ G 50 k_sk)), (a_l, (arW G 6 f_l)), (a_pt, (arI G 200 k_pt)), (a_k, (oc5 a_h a_j a_pt k_ln k_se k_lh k_br k_we k_me k_ce k_wy k_ho k_ov)), (a_h, (oc1 e_wa e_le e_st e_fo e_lc a_l a_g a_b a_s a_p a_w e_gb a_bb)), (a_p, (oc6 8 5 a_pn e_p)), (a_pn, (arI G 40 f_p))] H ∧ va_D A [(a_g, (oc6 6 5 a_gn e_g)), (a_gn, (arI G 30 f_g)), (a_b, (oc6 5 24 a_bn e_b)), (a_bn, (arI G 120 f_b)), (a_bb, (arJ G 24 f_bb)), (a_j, (oc2 a_as a_sk)), (a_as, (arI G 8 k_as)), (a_sk, (arJ G 50 k_sk)), (a_l, (arW G 6 f_l)), (a_pt, (arI G 200 k_pt)), (a_k, (oc5 a_h a_j a_pt k_ln k_se k_lh k_br k_we k_me k_ce k_wy k_ho k_ov)), (a_h, (oc1 e_wa e_le e_st e_fo e_lc a_l a_g a_b a_s a_p a_w e_gb a_bb)), (a_p, (oc6 8 5 a_pn e_p)), (a_pn, (arI G 40 f_p))] ∧ va_S A s.heap H locs ∧ (0 ≤ k_i.toInt ∧ k_i.toInt ≤ 200) ∧ (0 ≤ k_ln.toInt ∧ k_ln.toInt ≤ 200) ∧ ((-1) ≤ k_lh.toInt ∧ k_lh.toInt ≤ 23) ∧ (0 ≤ k_br.toInt ∧ k_br.toInt ≤ 1000000) ∧ (0 ≤ k_ce.toInt ∧ k_ce.toInt ≤ 63) ∧ (0 ≤ k_wy.toInt ∧ k_wy.toInt ≤ 3) ∧ (0 ≤ k_ho.toInt ∧ k_ho.toInt ≤ 23) ∧ (0 ≤ k_ov.toInt ∧ k_ov.toInt ≤ 1) ∧ (k_ln.toInt = k_i.toInt) ∧ (∀ j : Nat, (j : Int) < k_ln.toInt → 0 ≤ (k_pt j).toInt ∧ (k_pt j).toInt ≤ 1535)) (fun (q : (Int32) × (Int32) × (Int32) × (Int32) × (Int32) × (Int32) × (Int32) × (Int32) × (Int32) × (Int32) × (Int32) × (Nat → Int32) × (Nat → Int32) × (Nat → Int64)) => match q with | (k_i, k_ln, k_se, k_lh, k_br, k_we, k_me, k_ce, k_wy, k_ho, k_ov, k_pt, k_as, k_sk) => Int.toNat (200 - k_i.toInt)) (0, 0, (-1), (-1), 1000000, 0, e_me, p_c, p_w, p_h, 0, f_pt, f_as, f_sk) ⟨lv_sub hl [0, 1, 2, 3, 4, 5, 6] rfl, hP, hD, hS, ⟨by decide, by decide⟩, ⟨by decide, by decide⟩, ⟨by decide, by decide⟩, ⟨by decide, by decide⟩, ⟨by omega, by omega⟩, ⟨by omega, by omega⟩, ⟨by omega, by omega⟩, ⟨by decide, by decide⟩, (by decide), fun j h => absurd h (by have z : (0 : Int32).toInt = 0 := (by decide); omega)⟩ ?_
      rintro ⟨k_i, k_ln, k_se, k_lh, k_br, k_we, k_me, k_ce, k_wy, k_ho, k_ov, k_pt, k_as, k_sk⟩ ls H locs ⟨hl, hP, hD, hS, i_6, i_7, i_8, i_9, i_10, i_11, i_12, i_13, i_14, i_15⟩ ih_78_16
      have hl : lv_has ls 9 [(7, .int k_i), (5, .long (e_gb ||| z4)), (0, .ref a_k), (1, .int p_c), (2, .int p_w), (3, .int p_h), (4, .int p_u)] := hl
      have i_6 : 0 ≤ k_i.toInt ∧ k_i.toInt ≤ 200 := i_6
      have i_7 : 0 ≤ k_ln.toInt ∧ k_ln.toInt ≤ 200 := i_7
      have i_8 : (-1) ≤ k_lh.toInt ∧ k_lh.toInt ≤ 23 := i_8
      have i_9 : 0 ≤ k_br.toInt ∧ k_br.toInt ≤ 1000000 := i_9
      have i_10 : 0 ≤ k_ce.toInt ∧ k_ce.toInt ≤ 63 := i_10
      have i_11 : 0 ≤ k_wy.toInt ∧ k_wy.toInt ≤ 3 := i_11
      have i_12 : 0 ≤ k_ho.toInt ∧ k_ho.toInt ≤ 23 := i_12
      have i_13 : 0 ≤ k_ov.toInt ∧ k_ov.toInt ≤ 1 := i_13
      have i_14 : k_ln.toInt = k_i.toInt := i_14
      have i_15 : ∀ j : Nat, (j : Int) < k_ln.toInt → 0 ≤ (k_pt j).toInt ∧ (k_pt j).toInt ≤ 1535 := i_15
      refine g5_rs [(a_g, (oc6 6 5 a_gn e_g)), (a_gn, (arI G 30 f_g)), (a_b, (oc6 5 24 a_bn e_b)), (a_bn, (arI G 120 f_b)), (a_bb, (arJ G 24 f_bb)), (a_j, (oc2 a_as a_sk)), (a_as, (arI G 8 k_as)), (a_sk, (arJ G 50 k_sk)), (a_l, (arW G 6 f_l)), (a_pt, (arI G 200 k_pt)), (a_k, (oc5 a_h a_j a_pt k_ln k_se k_lh k_br k_we k_me k_ce k_wy k_ho k_ov)), (a_h, (oc1 e_wa e_le e_st e_fo e_lc a_l a_g a_b a_s a_p a_w e_gb a_bb)), (a_p, (oc6 8 5 a_pn e_p)), (a_pn, (arI G 40 f_p))] hP hD (fun hP hD => ?_)
      refine lv_iload hx hb dX5_run_78 (lv_at hl 0 rfl) ?_
      refine lv_sipush (v := 200) hx hb dX5_run_80 (by decide) ?_
      refine lv_icmp_ge (tgt := 227) hx hb dX5_run_83 (by decide) (fun c_17 => ?_) (fun c_17 => ?_)
      ·
        have i_17 : k_i.toInt ≥ 200 := by have z := g5_ge (a := k_i.toInt) (b := 200) (by rfl) (by decide) c_17; omega
        exact W.vret hx hb hr (fun t ht hW => ⟨⟨[(a_k, (oc5 a_h a_j a_pt k_ln k_se k_lh k_br k_we k_me k_ce k_wy k_ho k_ov)), (a_h, (oc1 e_wa e_le e_st e_fo e_lc a_l a_g a_b a_s a_p a_w e_gb a_bb)), (a_g, (oc6 6 5 a_gn e_g)), (a_gn, (arI G 30 f_g)), (a_b, (oc6 5 24 a_bn e_b)), (a_bn, (arI G 120 f_b)), (a_p, (oc6 8 5 a_pn e_p)), (a_pn, (arI G 40 f_p)), (a_bb, (arJ G 24 f_bb)), (a_j, (oc2 a_as a_sk)), (a_as, (arI G 8 k_as)), (a_sk, (arJ G 50 k_sk)), (a_l, (arW G 6 f_l)), (a_pt, (arI G 200 k_pt))], rfl, ⟨k_ln, k_se, k_lh, k_br, k_we, k_me, k_ce, k_wy, k_ho, k_ov, k_pt, k_as, k_sk, i_7, i_13, i_15, rfl⟩, by rw [ht]; exact hP.sub [10, 11, 0, 1, 2, 3, 12, 13, 4, 5, 6, 7, 8, 9] rfl, hD.sub [10, 11, 0, 1, 2, 3, 12, 13, 4, 5, 6, 7, 8, 9] (by decide) rfl⟩, hS.F ht⟩) hS.2.2 dX5_run_227
      ·
        have i_17 : k_i.toInt < 200 := by have z := g5_geN (a := k_i.toInt) (b := 200) (by rfl) (by decide) c_17; omega
        refine lv_aload_n hx hb dX5_run_86 rfl (lv_at hl 2 rfl) ?_
        refine va_get (D := G.1) (ci := 5) (v := .int k_ov) (C := RX5) (T := TX5) (N := 13) hx hb hts inG_X5 hown hK hP 10 rfl rfl 12 (by decide) (hts _ fl_X5_56) (fun _ h9 => h9) rfl dX5_run_87 ?_
        refine lv_if_ne (tgt := 227) hx hb dX5_run_90 (by decide) (fun c_18 => ?_) (fun c_18 => ?_)
        ·
          have n_18 : gNe (k_ov.toInt) (0) := by have z := g5_ne (a := k_ov.toInt) (b := 0) (by rfl) (by decide) c_18; unfold gNe; omega
          have i_18 : k_ov.toInt ≥ 1 := by have z := g5_ne (a := k_ov.toInt) (b := 0) (by rfl) (by decide) c_18; omega
          exact W.vret hx hb hr (fun t ht hW => ⟨⟨[(a_k, (oc5 a_h a_j a_pt k_ln k_se k_lh k_br k_we k_me k_ce k_wy k_ho k_ov)), (a_h, (oc1 e_wa e_le e_st e_fo e_lc a_l a_g a_b a_s a_p a_w e_gb a_bb)), (a_g, (oc6 6 5 a_gn e_g)), (a_gn, (arI G 30 f_g)), (a_b, (oc6 5 24 a_bn e_b)), (a_bn, (arI G 120 f_b)), (a_p, (oc6 8 5 a_pn e_p)), (a_pn, (arI G 40 f_p)), (a_bb, (arJ G 24 f_bb)), (a_j, (oc2 a_as a_sk)), (a_as, (arI G 8 k_as)), (a_sk, (arJ G 50 k_sk)), (a_l, (arW G 6 f_l)), (a_pt, (arI G 200 k_pt))], rfl, ⟨k_ln, k_se, k_lh, k_br, k_we, k_me, k_ce, k_wy, k_ho, k_ov, k_pt, k_as, k_sk, i_7, i_13, i_15, rfl⟩, by rw [ht]; exact hP.sub [10, 11, 0, 1, 2, 3, 12, 13, 4, 5, 6, 7, 8, 9] rfl, hD.sub [10, 11, 0, 1, 2, 3, 12, 13, 4, 5, 6, 7, 8, 9] (by decide) rfl⟩, hS.F ht⟩) hS.2.2 dX5_run_227
        ·
          have i_18 : k_ov.toInt = 0 := by have z := g5_neN (a := k_ov.toInt) (b := 0) (by rfl) (by decide) c_18; omega
          refine lv_aload_n hx hb dX5_run_93 rfl (lv_at hl 2 rfl) ?_
          refine va_get (D := G.1) (ci := 5) (v := .int k_ce) (C := RX5) (T := TX5) (N := 13) hx hb hts inG_X5 hown hK hP 10 rfl rfl 9 (by decide) (hts _ fl_X5_26) (fun _ h9 => h9) rfl dX5_run_94 ?_
          refine lv_aload_n hx hb dX5_run_97 rfl (lv_at hl 2 rfl) ?_
          refine va_get (D := G.1) (ci := 5) (v := .int k_wy) (C := RX5) (T := TX5) (N := 13) hx hb hts inG_X5 hown hK hP 10 rfl rfl 10 (by decide) (hts _ fl_X5_30) (fun _ h9 => h9) rfl dX5_run_98 ?_
          obtain ⟨hPc, hDc, hFc⟩ := g5_sub3 (wc := []) hP hD hS hA [] (by decide) rfl
          refine va_calli (va_runSN (As := [.int k_ce, .int k_wy]) (rest := []) ⟨hx, hb, hml, hown, hts⟩ (k_beside l G H.size k_ce k_wy i_10) ⟨va_cnB 2 hts gW_X11_beside rfl rfl rfl (hN.1 _ g5_nw_X5_70) (hts _ ini_X11) hs_X11_beside ⟨Nat.le_of_ble_eq_true rfl, Nat.le_of_ble_eq_true rfl⟩, hts _ st_X11_beside, trivial⟩ (g5_preS hPc hK hDc hN hT hS hFc) rfl rfl hl.1 rfl (lv_room (Nat.le_of_ble_eq_true rfl)) dX5_run_101 ⟨Nat.le_of_ble_eq_true rfl, Nat.le_of_ble_eq_true rfl⟩) hS (fun q _ h => hFc q h) hFc (fun r u t H1 locs ht hvm hw hB hz1 hk1 hS => ?_)
          obtain ⟨hP1, hD1⟩ := hB
          rw [ht] at hP1
          obtain ⟨z21, i_19, i_20, y22, rfl⟩ := hw
          have i_19 : z21.toInt = bs k_ce.toInt k_wy.toInt := i_19
          have i_20 : -1 ≤ z21.toInt ∧ z21.toInt ≤ 63 := i_20
          have hP := g5_same hP hk1
          generalize H1 = H at hP hS ⊢
          refine g5_ti (v := z21) y22 ?_
          refine lv_istore (lv' := [(8, .int z21), (7, .int k_i), (5, .long (e_gb ||| z4)), (0, .ref a_k), (1, .int p_c), (2, .int p_w), (3, .int p_h), (4, .int p_u)]) hx hb dX5_run_104 hl (by decide) rfl (fun ls hl => ?_)
          refine lv_iload hx hb dX5_run_106 (lv_at hl 0 rfl) ?_
          refine lv_iconst (v := (-1)) hx hb dX5_run_108 (by decide) ?_
          refine lv_icmp_eq (tgt := 127) hx hb dX5_run_109 (by decide) (fun c_23 => ?_) (fun c_23 => ?_)
          ·
            have i_23 : z21.toInt = (-1) := by have z := g5_eq (a := z21.toInt) (b := (-1)) (by rfl) (by decide) c_23; omega
            exact W.vret hx hb hr (fun t ht hW => ⟨⟨[(a_k, (oc5 a_h a_j a_pt k_ln k_se k_lh k_br k_we k_me k_ce k_wy k_ho k_ov)), (a_h, (oc1 e_wa e_le e_st e_fo e_lc a_l a_g a_b a_s a_p a_w e_gb a_bb)), (a_g, (oc6 6 5 a_gn e_g)), (a_gn, (arI G 30 f_g)), (a_b, (oc6 5 24 a_bn e_b)), (a_bn, (arI G 120 f_b)), (a_p, (oc6 8 5 a_pn e_p)), (a_pn, (arI G 40 f_p)), (a_bb, (arJ G 24 f_bb)), (a_j, (oc2 a_as a_sk)), (a_as, (arI G 8 k_as)), (a_sk, (arJ G 50 k_sk)), (a_l, (arW G 6 f_l)), (a_pt, (arI G 200 k_pt))], rfl, ⟨k_ln, k_se, k_lh, k_br, k_we, k_me, k_ce, k_wy, k_ho, k_ov, k_pt, k_as, k_sk, i_7, i_13, i_15, rfl⟩, by rw [ht]; exact hP.sub [10, 11, 0, 1, 2, 3, 12, 13, 4, 5, 6, 7, 8, 9] rfl, hD.sub [10, 11, 0, 1, 2, 3, 12, 13, 4, 5, 6, 7, 8, 9] (by decide) rfl⟩, hS.F ht⟩) hS.2.2 dX5_run_127
          ·
            have n_23 : gNe (z21.toInt) ((-1)) := by have z := g5_eqN (a := z21.toInt) (b := (-1)) (by rfl) (by decide) c_23; unfold gNe; omega
            have i_23 : z21.toInt ≥ 0 := by have z := g5_eqN (a := z21.toInt) (b := (-1)) (by rfl) (by decide) c_23; omega
            refine lv_aload_n hx hb dX5_run_112 rfl (lv_at hl 3 rfl) ?_
            refine va_get (D := G.1) (ci := 5) (v := .ref a_h) (C := RX5) (T := TX5) (N := 13) hx hb hts inG_X5 hown hK hP 10 rfl rfl 0 (by decide) (hts _ fl_X5_22) (fun _ h9 => h9) rfl dX5_run_113 ?_
            refine va_get (D := G.1) (ci := 1) (v := .long e_wa) (C := RX1) (T := TX1) (N := 13) hx hb hts inG_X1 hown hK hP 11 rfl rfl 0 (by decide) (hts _ fl_X5_74) (fun _ h9 => h9) rfl dX5_run_116 ?_
            refine lv_iload hx hb dX5_run_119 (lv_at hl 0 rfl) ?_
            obtain ⟨hPc, hDc, hFc⟩ := g5_sub3 (wc := []) hP hD hS hA [] (by decide) rfl
            refine va_calli (va_runSN (As := [.long e_wa, .int z21]) (rest := []) ⟨hx, hb, hml, hown, hts⟩ (k_isOn l G H.size z21 e_wa ⟨by omega, by omega⟩) ⟨va_cnB 2 hts gW_X11_isOn rfl rfl rfl (hN.1 _ g5_nw_X5_77) (hts _ ini_X11) hs_X11_isOn ⟨Nat.le_of_ble_eq_true rfl, Nat.le_of_ble_eq_true rfl⟩, hts _ st_X11_isOn, trivial⟩ (g5_preS hPc hK hDc hN hT hS hFc) rfl rfl hl.1 rfl (lv_room (Nat.le_of_ble_eq_true rfl)) dX5_run_121 ⟨Nat.le_of_ble_eq_true rfl, Nat.le_of_ble_eq_true rfl⟩) hS (fun q _ h => hFc q h) hFc (fun r u t H1 locs ht hvm hw hB hz1 hk1 hS => ?_)
            obtain ⟨hP1, hD1⟩ := hB
            rw [ht] at hP1
            rcases hw with ⟨i_24, rfl, rfl⟩ | ⟨i_25, rfl, rfl⟩
            ·
              have i_24 : onB e_wa z21.toInt = false := i_24
              have hP := g5_same hP hk1
              generalize H1 = H at hP hS ⊢
              refine lv_if_eq (tgt := 128) hx hb dX5_run_124 (by decide) (fun c_26 => ?_) (fun c_26 => ?_)
              ·
                refine lv_aload_n hx hb dX5_run_128 rfl (lv_at hl 3 rfl) ?_
                refine lv_iload hx hb dX5_run_129 (lv_at hl 0 rfl) ?_
                refine va_put (D := G.1) (ci := 5) (v := .int z21) (ty := .int) (C := RX5) (T := TX5) (N := 13) hx hb hts inG_X5 tyX5 tyX5_ok nmX5 hown hK hP hD hS 10 rfl rfl 9 (by decide) (hts _ fl_X5_26) (fun _ h9 => h9) rfl (by decide +kernel) rfl rfl (Nat.le_of_ble_eq_true rfl) dX5_run_131 (fun H locs hP hD hS => ?_)
                refine g5_rs [(a_g, (oc6 6 5 a_gn e_g)), (a_gn, (arI G 30 f_g)), (a_b, (oc6 5 24 a_bn e_b)), (a_bn, (arI G 120 f_b)), (a_bb, (arJ G 24 f_bb)), (a_j, (oc2 a_as a_sk)), (a_as, (arI G 8 k_as)), (a_sk, (arJ G 50 k_sk)), (a_l, (arW G 6 f_l)), (a_pt, (arI G 200 k_pt)), (a_k, (oc5 a_h a_j a_pt k_ln k_se k_lh k_br k_we k_me z21 k_wy k_ho k_ov)), (a_h, (oc1 e_wa e_le e_st e_fo e_lc a_l a_g a_b a_s a_p a_w e_gb a_bb)), (a_p, (oc6 8 5 a_pn e_p)), (a_pn, (arI G 40 f_p))] hP hD (fun hP hD => ?_)
                refine lv_aload_n hx hb dX5_run_134 rfl (lv_at hl 3 rfl) ?_
                refine lv_aload_n hx hb dX5_run_135 rfl (lv_at hl 3 rfl) ?_
                refine va_get (D := G.1) (ci := 5) (v := .int k_ho) (C := RX5) (T := TX5) (N := 13) hx hb hts inG_X5 hown hK hP 10 rfl rfl 11 (by decide) (hts _ fl_X5_33) (fun _ h9 => h9) rfl dX5_run_136 ?_
                refine va_put (D := G.1) (ci := 5) (v := .int k_ho) (ty := .int) (C := RX5) (T := TX5) (N := 13) hx hb hts inG_X5 tyX5 tyX5_ok nmX5 hown hK hP hD hS 10 rfl rfl 5 (by decide) (hts _ fl_X5_42) (fun _ h9 => h9) rfl (by decide +kernel) rfl rfl (Nat.le_of_ble_eq_true rfl) dX5_run_139 (fun H locs hP hD hS => ?_)
                refine g5_rs [(a_g, (oc6 6 5 a_gn e_g)), (a_gn, (arI G 30 f_g)), (a_b, (oc6 5 24 a_bn e_b)), (a_bn, (arI G 120 f_b)), (a_bb, (arJ G 24 f_bb)), (a_j, (oc2 a_as a_sk)), (a_as, (arI G 8 k_as)), (a_sk, (arJ G 50 k_sk)), (a_l, (arW G 6 f_l)), (a_pt, (arI G 200 k_pt)), (a_k, (oc5 a_h a_j a_pt k_ln k_se k_ho k_br k_we k_me z21 k_wy k_ho k_ov)), (a_h, (oc1 e_wa e_le e_st e_fo e_lc a_l a_g a_b a_s a_p a_w e_gb a_bb)), (a_p, (oc6 8 5 a_pn e_p)), (a_pn, (arI G 40 f_p))] hP hD (fun hP hD => ?_)
                refine lv_aload_n hx hb dX5_run_142 rfl (lv_at hl 3 rfl) ?_
                refine va_get (D := G.1) (ci := 5) (v := .ref a_pt) (C := RX5) (T := TX5) (N := 13) hx hb hts inG_X5 hown hK hP 10 rfl rfl 2 (by decide) (hts _ fl_X5_18) (fun _ h9 => h9) rfl dX5_run_143 ?_
                refine lv_iload hx hb dX5_run_146 (lv_at hl 1 rfl) ?_
                refine lv_aload_n hx hb dX5_run_148 rfl (lv_at hl 3 rfl) ?_
                refine va_get (D := G.1) (ci := 5) (v := .int k_ho) (C := RX5) (T := TX5) (N := 13) hx hb hts inG_X5 hown hK hP 10 rfl rfl 11 (by decide) (hts _ fl_X5_33) (fun _ h9 => h9) rfl dX5_run_149 ?_
                refine lv_bipush (v := 64) hx hb dX5_run_152 (by decide) ?_
                refine lv_imul hx hb dX5_run_154 ?_
                have t_27 : (k_ho * 64).toInt = k_ho.toInt * 64 := g5_imul (a := k_ho.toInt) (b := 64) (by rfl) (by decide) (by omega) (by omega)
                refine lv_aload_n hx hb dX5_run_155 rfl (lv_at hl 3 rfl) ?_
                refine va_get (D := G.1) (ci := 5) (v := .int z21) (C := RX5) (T := TX5) (N := 13) hx hb hts inG_X5 hown hK hP 10 rfl rfl 9 (by decide) (hts _ fl_X5_26) (fun _ h9 => h9) rfl dX5_run_156 ?_
                refine lv_iadd hx hb dX5_run_159 ?_
                have t_28 : ((k_ho * 64) + z21).toInt = (k_ho * 64).toInt + z21.toInt := g5_iadd (a := (k_ho * 64).toInt) (b := z21.toInt) (by rfl) (by rfl) (by omega) (by omega)
                refine va_iast hx hb hK hP hD hS 9 0 rfl rfl (i := k_i) (x := ((k_ho * 64) + z21)) (vp_in_iff.mpr ⟨by omega, by omega⟩) dX5_run_160 (fun H locs hP hD hS => ?_)
                refine g5_rs [(a_g, (oc6 6 5 a_gn e_g)), (a_gn, (arI G 30 f_g)), (a_b, (oc6 5 24 a_bn e_b)), (a_bn, (arI G 120 f_b)), (a_bb, (arJ G 24 f_bb)), (a_j, (oc2 a_as a_sk)), (a_as, (arI G 8 k_as)), (a_sk, (arJ G 50 k_sk)), (a_l, (arW G 6 f_l)), (a_pt, (arI G 200 (upd k_pt k_i.toNatClampNeg ((k_ho * 64) + z21)))), (a_k, (oc5 a_h a_j a_pt k_ln k_se k_ho k_br k_we k_me z21 k_wy k_ho k_ov)), (a_h, (oc1 e_wa e_le e_st e_fo e_lc a_l a_g a_b a_s a_p a_w e_gb a_bb)), (a_p, (oc6 8 5 a_pn e_p)), (a_pn, (arI G 40 f_p))] hP hD (fun hP hD => ?_)
                refine lv_aload_n hx hb dX5_run_161 rfl (lv_at hl 3 rfl) ?_
                refine lv_iload hx hb dX5_run_162 (lv_at hl 1 rfl) ?_
                refine lv_iconst (v := 1) hx hb dX5_run_164 (by decide) ?_
                refine lv_iadd hx hb dX5_run_165 ?_
                have t_29 : (k_i + 1).toInt = k_i.toInt + 1 := g5_iadd (a := k_i.toInt) (b := 1) (by rfl) (by decide) (by omega) (by omega)
                refine va_put (D := G.1) (ci := 5) (v := .int (k_i + 1)) (ty := .int) (C := RX5) (T := TX5) (N := 13) hx hb hts inG_X5 tyX5 tyX5_ok nmX5 hown hK hP hD hS 10 rfl rfl 3 (by decide) (hts _ fl_X5_36) (fun _ h9 => h9) rfl (by decide +kernel) rfl rfl (Nat.le_of_ble_eq_true rfl) dX5_run_166 (fun H locs hP hD hS => ?_)
                refine g5_rs [(a_g, (oc6 6 5 a_gn e_g)), (a_gn, (arI G 30 f_g)), (a_b, (oc6 5 24 a_bn e_b)), (a_bn, (arI G 120 f_b)), (a_bb, (arJ G 24 f_bb)), (a_j, (oc2 a_as a_sk)), (a_as, (arI G 8 k_as)), (a_sk, (arJ G 50 k_sk)), (a_l, (arW G 6 f_l)), (a_pt, (arI G 200 (upd k_pt k_i.toNatClampNeg ((k_ho * 64) + z21)))), (a_k, (oc5 a_h a_j a_pt (k_i + 1) k_se k_ho k_br k_we k_me z21 k_wy k_ho k_ov)), (a_h, (oc1 e_wa e_le e_st e_fo e_lc a_l a_g a_b a_s a_p a_w e_gb a_bb)), (a_p, (oc6 8 5 a_pn e_p)), (a_pn, (arI G 40 f_p))] hP hD (fun hP hD => ?_)
                refine lv_aload_n hx hb dX5_run_169 rfl (lv_at hl 3 rfl) ?_
                refine va_get (D := G.1) (ci := 5) (v := .ref a_h) (C := RX5) (T := TX5) (N := 13) hx hb hts inG_X5 hown hK hP 10 rfl rfl 0 (by decide) (hts _ fl_X5_22) (fun _ h9 => h9) rfl dX5_run_170 ?_
                refine va_get (D := G.1) (ci := 1) (v := .ref a_bb) (C := RX1) (T := TX1) (N := 13) hx hb hts inG_X1 hown hK hP 11 rfl rfl 12 (by decide) (hts _ fl_X5_81) (fun _ h9 => h9) rfl dX5_run_173 ?_
                refine lv_aload_n hx hb dX5_run_176 rfl (lv_at hl 3 rfl) ?_
                refine va_get (D := G.1) (ci := 5) (v := .int k_ho) (C := RX5) (T := TX5) (N := 13) hx hb hts inG_X5 hown hK hP 10 rfl rfl 11 (by decide) (hts _ fl_X5_33) (fun _ h9 => h9) rfl dX5_run_177 ?_
                refine va_lald hx hb hK hP 4 1 rfl rfl (i := k_ho) (vp_in_iff.mpr ⟨by omega, by omega⟩) dX5_run_180 ?_
                refine lv_lload hx hb dX5_run_181 (lv_at hl 2 rfl) ?_
                refine lv_lor hx hb dX5_run_183 ?_
                refine lv_aload_n hx hb dX5_run_184 rfl (lv_at hl 3 rfl) ?_
                refine va_get (D := G.1) (ci := 5) (v := .int z21) (C := RX5) (T := TX5) (N := 13) hx hb hts inG_X5 hown hK hP 10 rfl rfl 9 (by decide) (hts _ fl_X5_26) (fun _ h9 => h9) rfl dX5_run_185 ?_
                obtain ⟨hPc, hDc, hFc⟩ := g5_sub3 (wc := []) hP hD hS hA [] (by decide) rfl
                refine va_calli (va_runSN (As := [.long ((f_bb k_ho.toNatClampNeg) ||| (e_gb ||| z4)), .int z21]) (rest := []) ⟨hx, hb, hml, hown, hts⟩ (k_isOn l G H.size z21 ((f_bb k_ho.toNatClampNeg) ||| (e_gb ||| z4)) ⟨by omega, by omega⟩) ⟨va_cnB 2 hts gW_X11_isOn rfl rfl rfl (hN.1 _ g5_nw_X5_77) (hts _ ini_X11) hs_X11_isOn ⟨Nat.le_of_ble_eq_true rfl, Nat.le_of_ble_eq_true rfl⟩, hts _ st_X11_isOn, trivial⟩ (g5_preS hPc hK hDc hN hT hS hFc) rfl rfl hl.1 rfl (lv_room (Nat.le_of_ble_eq_true rfl)) dX5_run_188 ⟨Nat.le_of_ble_eq_true rfl, Nat.le_of_ble_eq_true rfl⟩) hS (fun q _ h => hFc q h) hFc (fun r u t H1 locs ht hvm hw hB hz1 hk1 hS => ?_)
                obtain ⟨hP1, hD1⟩ := hB
                rw [ht] at hP1
                rcases hw with ⟨i_30, rfl, rfl⟩ | ⟨i_31, rfl, rfl⟩
                ·
                  have i_30 : onB ((f_bb k_ho.toNatClampNeg) ||| (e_gb ||| z4)) z21.toInt = false := i_30
                  have hP := g5_same hP hk1
                  generalize H1 = H at hP hS ⊢
                  refine lv_if_eq (tgt := 221) hx hb dX5_run_191 (by decide) (fun c_32 => ?_) (fun c_32 => ?_)
                  ·
                    refine lv_iinc (v := (k_i + 1)) (lv' := [(7, .int (k_i + 1)), (8, .int z21), (5, .long (e_gb ||| z4)), (0, .ref a_k), (1, .int p_c), (2, .int p_w), (3, .int p_h), (4, .int p_u)]) hx hb dX5_run_221 hl (k := 1) rfl rfl (by decide) rfl (fun ls hl => ?_)
                    have t_33 : (k_i + 1).toInt = k_i.toInt + 1 := g5_iadd (a := k_i.toInt) (b := 1) rfl (by decide) (by omega) (by omega)
                    refine lv_goto (tgt := 78) hx hb dX5_run_224 (by decide) ?_
                    exact ih_78_16 ((k_i + 1), (k_i + 1), k_se, k_ho, k_br, k_we, k_me, z21, k_wy, k_ho, k_ov, (upd k_pt k_i.toNatClampNeg ((k_ho * 64) + z21)), k_as, k_sk) ls H locs (show Int.toNat (200 - (k_i + 1).toInt) < Int.toNat (200 - k_i.toInt) from g_up (show k_i.toInt < (k_i + 1).toInt by omega) (show k_i.toInt < 200 by omega)) ⟨lv_sub hl [0, 2, 3, 4, 5, 6, 7] rfl, hP, hD, hS, ⟨by omega, by omega⟩, ⟨by omega, by omega⟩, ⟨by omega, by omega⟩, i_9, ⟨by omega, by omega⟩, i_11, i_12, i_13, by omega, g_rows (k := k_i) (fun j hj => i_15 j (by omega)) (by omega) (by omega) (by omega)⟩
                  ·
                    exact absurd c_32 (by decide)
                ·
                  have i_31 : onB ((f_bb k_ho.toNatClampNeg) ||| (e_gb ||| z4)) z21.toInt = true := i_31
                  have hP := g5_same hP hk1
                  generalize H1 = H at hP hS ⊢
                  refine lv_if_eq (tgt := 221) hx hb dX5_run_191 (by decide) (fun c_34 => ?_) (fun c_34 => ?_)
                  ·
                    exact absurd c_34 (by decide)
                  ·
                    refine lv_aload_n hx hb dX5_run_194 rfl (lv_at hl 3 rfl) ?_
                    obtain ⟨hPc, hDc, hFc⟩ := g5_sub3 (wc := [(a_k, (oc5 a_h a_j a_pt (k_i + 1) k_se k_ho k_br k_we k_me z21 k_wy k_ho k_ov)), (a_h, (oc1 e_wa e_le e_st e_fo e_lc a_l a_g a_b a_s a_p a_w e_gb a_bb)), (a_b, (oc6 5 24 a_bn e_b)), (a_bn, (arI G 120 f_b)), (a_j, (oc2 a_as a_sk)), (a_as, (arI G 8 k_as)), (a_sk, (arJ G 50 k_sk)), (a_l, (arW G 6 f_l))]) hP hD hS hA [10, 11, 2, 3, 5, 6, 7, 8] (by decide) rfl
                    refine va_callv (va_runV (As := []) (rest := []) ⟨hx, hb, hml, hown, hts⟩ (k_meetBodiesN l G a_k a_h a_b a_bn a_j a_as a_sk a_l a_pt a_g a_s a_p a_w a_bb H.size (k_i + 1) k_se k_ho k_br k_we k_me z21 k_wy k_ho k_ov e_le e_st e_fo e_lc e_b e_wa e_gb f_b k_as k_sk f_l i_9 ⟨by omega, by omega⟩ i_11 i_12 i_13 h_e_b (e_f)) (cwV 0 hts gV_X5_85 rfl rfl rfl hv_X5_meetBodies ⟨Nat.le_of_ble_eq_true rfl, Nat.le_of_ble_eq_true rfl⟩) (g5_preV hPc hK hDc hN hT hS hFc (ci := 5) (q0 := 0) rfl rfl) rfl rfl hl.1 rfl (lv_room (Nat.le_of_ble_eq_true rfl)) dX5_run_195 ⟨Nat.le_of_ble_eq_true rfl, Nat.le_of_ble_eq_true rfl⟩) hS (fun q _ h => hFc q h) hFc (fun u t H1 locs ht hvm hw hB hz1 hk1 hS => ?_)
                    obtain ⟨hP1, hD1⟩ := hB
                    rw [ht] at hP1
                    obtain ⟨z36, z37, z38, z39, i_35, rfl⟩ := hw
                    have i_35 : 0 ≤ z37.toInt ∧ z37.toInt ≤ 1 := i_35
                    obtain ⟨hP, hD⟩ := va_join (wr := [(a_g, (oc6 6 5 a_gn e_g)), (a_gn, (arI G 30 f_g)), (a_bb, (arJ G 24 f_bb)), (a_pt, (arI G 200 (upd k_pt k_i.toNatClampNeg ((k_ho * 64) + z21)))), (a_p, (oc6 8 5 a_pn e_p)), (a_pn, (arI G 40 f_p))]) hP hD [10, 11, 2, 3, 5, 6, 7, 8] [0, 1, 4, 9, 12, 13] rfl rfl (by decide) (by decide) hk1 hFc hP1 hD1
                    generalize H1 = H at hP hS ⊢
                    refine g5_rs [(a_g, (oc6 6 5 a_gn e_g)), (a_gn, (arI G 30 f_g)), (a_bb, (arJ G 24 f_bb)), (a_pt, (arI G 200 (upd k_pt k_i.toNatClampNeg ((k_ho * 64) + z21)))), (a_p, (oc6 8 5 a_pn e_p)), (a_pn, (arI G 40 f_p)), (a_k, (oc5 a_h a_j a_pt (k_i + 1) z36 k_ho k_br k_we k_me z21 k_wy k_ho z37)), (a_h, (oc1 e_wa e_le e_st e_fo e_lc a_l a_g a_b a_s a_p a_w e_gb a_bb)), (a_b, (oc6 5 24 a_bn e_b)), (a_bn, (arI G 120 f_b)), (a_j, (oc2 a_as a_sk)), (a_as, (arI G 8 z38)), (a_sk, (arJ G 50 z39)), (a_l, (arW G 6 f_l))] hP hD (fun hP hD => ?_)
                    refine lv_aload_n hx hb dX5_run_198 rfl (lv_at hl 3 rfl) ?_
                    refine va_get (D := G.1) (ci := 5) (v := .int z37) (C := RX5) (T := TX5) (N := 13) hx hb hts inG_X5 hown hK hP 6 rfl rfl 12 (by decide) (hts _ fl_X5_56) (fun _ h9 => h9) rfl dX5_run_199 ?_
                    refine lv_if_ne (tgt := 221) hx hb dX5_run_202 (by decide) (fun c_40 => ?_) (fun c_40 => ?_)
                    ·
                      have n_40 : gNe (z37.toInt) (0) := by have z := g5_ne (a := z37.toInt) (b := 0) (by rfl) (by decide) c_40; unfold gNe; omega
                      have i_40 : z37.toInt ≥ 1 := by have z := g5_ne (a := z37.toInt) (b := 0) (by rfl) (by decide) c_40; omega
                      refine lv_iinc (v := (k_i + 1)) (lv' := [(7, .int (k_i + 1)), (8, .int z21), (5, .long (e_gb ||| z4)), (0, .ref a_k), (1, .int p_c), (2, .int p_w), (3, .int p_h), (4, .int p_u)]) hx hb dX5_run_221 hl (k := 1) rfl rfl (by decide) rfl (fun ls hl => ?_)
                      have t_41 : (k_i + 1).toInt = k_i.toInt + 1 := g5_iadd (a := k_i.toInt) (b := 1) rfl (by decide) (by omega) (by omega)
                      refine lv_goto (tgt := 78) hx hb dX5_run_224 (by decide) ?_
                      exact ih_78_16 ((k_i + 1), (k_i + 1), z36, k_ho, k_br, k_we, k_me, z21, k_wy, k_ho, z37, (upd k_pt k_i.toNatClampNeg ((k_ho * 64) + z21)), z38, z39) ls H locs (show Int.toNat (200 - (k_i + 1).toInt) < Int.toNat (200 - k_i.toInt) from g_up (show k_i.toInt < (k_i + 1).toInt by omega) (show k_i.toInt < 200 by omega)) ⟨lv_sub hl [0, 2, 3, 4, 5, 6, 7] rfl, hP.sub [0, 1, 8, 9, 2, 10, 11, 12, 13, 3, 6, 7, 4, 5] rfl, hD.sub [0, 1, 8, 9, 2, 10, 11, 12, 13, 3, 6, 7, 4, 5] (by decide) rfl, hS, ⟨by omega, by omega⟩, ⟨by omega, by omega⟩, ⟨by omega, by omega⟩, i_9, ⟨by omega, by omega⟩, i_11, i_12, i_35, by omega, g_rows (k := k_i) (fun j hj => i_15 j (by omega)) (by omega) (by omega) (by omega)⟩
                    ·
                      have i_40 : z37.toInt = 0 := by have z := g5_neN (a := z37.toInt) (b := 0) (by rfl) (by decide) c_40; omega
                      refine lv_lload hx hb dX5_run_205 (lv_at hl 2 rfl) ?_
                      refine lv_aload_n hx hb dX5_run_207 rfl (lv_at hl 3 rfl) ?_
                      refine va_get (D := G.1) (ci := 5) (v := .int z21) (C := RX5) (T := TX5) (N := 13) hx hb hts inG_X5 hown hK hP 6 rfl rfl 9 (by decide) (hts _ fl_X5_26) (fun _ h9 => h9) rfl dX5_run_208 ?_
                      obtain ⟨hPc, hDc, hFc⟩ := g5_sub3 (wc := []) hP hD hS hA [] (by decide) rfl
                      refine va_calli (va_runSN (As := [.long (e_gb ||| z4), .int z21]) (rest := []) ⟨hx, hb, hml, hown, hts⟩ (k_isOn l G H.size z21 (e_gb ||| z4) ⟨by omega, by omega⟩) ⟨va_cnB 2 hts gW_X11_isOn rfl rfl rfl (hN.1 _ g5_nw_X5_77) (hts _ ini_X11) hs_X11_isOn ⟨Nat.le_of_ble_eq_true rfl, Nat.le_of_ble_eq_true rfl⟩, hts _ st_X11_isOn, trivial⟩ (g5_preS hPc hK hDc hN hT hS hFc) rfl rfl hl.1 rfl (lv_room (Nat.le_of_ble_eq_true rfl)) dX5_run_211 ⟨Nat.le_of_ble_eq_true rfl, Nat.le_of_ble_eq_true rfl⟩) hS (fun q _ h => hFc q h) hFc (fun r u t H1 locs ht hvm hw hB hz1 hk1 hS => ?_)
                      obtain ⟨hP1, hD1⟩ := hB
                      rw [ht] at hP1
                      rcases hw with ⟨i_42, rfl, rfl⟩ | ⟨i_43, rfl, rfl⟩
                      ·
                        have i_42 : onB (e_gb ||| z4) z21.toInt = false := i_42
                        have hP := g5_same hP hk1
                        generalize H1 = H at hP hS ⊢
                        refine lv_if_eq (tgt := 221) hx hb dX5_run_214 (by decide) (fun c_44 => ?_) (fun c_44 => ?_)
                        ·
                          refine lv_iinc (v := (k_i + 1)) (lv' := [(7, .int (k_i + 1)), (8, .int z21), (5, .long (e_gb ||| z4)), (0, .ref a_k), (1, .int p_c), (2, .int p_w), (3, .int p_h), (4, .int p_u)]) hx hb dX5_run_221 hl (k := 1) rfl rfl (by decide) rfl (fun ls hl => ?_)
                          have t_45 : (k_i + 1).toInt = k_i.toInt + 1 := g5_iadd (a := k_i.toInt) (b := 1) rfl (by decide) (by omega) (by omega)
                          refine lv_goto (tgt := 78) hx hb dX5_run_224 (by decide) ?_
                          exact ih_78_16 ((k_i + 1), (k_i + 1), z36, k_ho, k_br, k_we, k_me, z21, k_wy, k_ho, z37, (upd k_pt k_i.toNatClampNeg ((k_ho * 64) + z21)), z38, z39) ls H locs (show Int.toNat (200 - (k_i + 1).toInt) < Int.toNat (200 - k_i.toInt) from g_up (show k_i.toInt < (k_i + 1).toInt by omega) (show k_i.toInt < 200 by omega)) ⟨lv_sub hl [0, 2, 3, 4, 5, 6, 7] rfl, hP.sub [0, 1, 8, 9, 2, 10, 11, 12, 13, 3, 6, 7, 4, 5] rfl, hD.sub [0, 1, 8, 9, 2, 10, 11, 12, 13, 3, 6, 7, 4, 5] (by decide) rfl, hS, ⟨by omega, by omega⟩, ⟨by omega, by omega⟩, ⟨by omega, by omega⟩, i_9, ⟨by omega, by omega⟩, i_11, i_12, i_35, by omega, g_rows (k := k_i) (fun j hj => i_15 j (by omega)) (by omega) (by omega) (by omega)⟩
                        ·
                          exact absurd c_44 (by decide)
                      ·
                        have i_43 : onB (e_gb ||| z4) z21.toInt = true := i_43
                        have hP := g5_same hP hk1
                        generalize H1 = H at hP hS ⊢
                        refine lv_if_eq (tgt := 221) hx hb dX5_run_214 (by decide) (fun c_46 => ?_) (fun c_46 => ?_)
                        ·
                          exact absurd c_46 (by decide)
                        ·
                          have hin_47 : inR f_g e_g.toInt z21.toInt ∨ inR f_p e_p.toInt z21.toInt := g_inor e_gi i_3 (by omega) (by omega) i_43
                          refine lv_aload_n hx hb dX5_run_217 rfl (lv_at hl 3 rfl) ?_
                          obtain ⟨hPc, hDc, hFc⟩ := g5_sub3 (wc := [(a_k, (oc5 a_h a_j a_pt (k_i + 1) z36 k_ho k_br k_we k_me z21 k_wy k_ho z37)), (a_h, (oc1 e_wa e_le e_st e_fo e_lc a_l a_g a_b a_s a_p a_w e_gb a_bb)), (a_g, (oc6 6 5 a_gn e_g)), (a_gn, (arI G 30 f_g)), (a_p, (oc6 8 5 a_pn e_p)), (a_pn, (arI G 40 f_p)), (a_j, (oc2 a_as a_sk)), (a_as, (arI G 8 z38)), (a_sk, (arJ G 50 z39)), (a_l, (arW G 6 f_l))]) hP hD hS hA [6, 7, 0, 1, 4, 5, 10, 11, 12, 13] (by decide) rfl
                          refine va_callv (va_runV (As := []) (rest := []) ⟨hx, hb, hml, hown, hts⟩ (k_meetGlassN l G a_k a_h a_g a_gn a_p a_pn a_j a_as a_sk a_l a_pt a_b a_s a_w a_bb H.size (k_i + 1) z36 k_ho k_br k_we k_me z21 k_wy k_ho z37 e_le e_st e_fo e_lc e_g e_p e_wa e_gb f_g f_p z38 z39 f_l i_9 ⟨by omega, by omega⟩ i_11 i_12 i_35 h_e_g h_e_p (e_gk) (e_pk) (hin_47) (e_f)) (cwV 0 hts gV_X5_88 rfl rfl rfl hv_X5_meetGlass ⟨Nat.le_of_ble_eq_true rfl, Nat.le_of_ble_eq_true rfl⟩) (g5_preV hPc hK hDc hN hT hS hFc (ci := 5) (q0 := 0) rfl rfl) rfl rfl hl.1 rfl (lv_room (Nat.le_of_ble_eq_true rfl)) dX5_run_218 ⟨Nat.le_of_ble_eq_true rfl, Nat.le_of_ble_eq_true rfl⟩) hS (fun q _ h => hFc q h) hFc (fun u t H1 locs ht hvm hw hB hz1 hk1 hS => ?_)
                          obtain ⟨hP1, hD1⟩ := hB
                          rw [ht] at hP1
                          obtain ⟨z52, z53, z54, z55, z56, z57, z58, z59, i_48, i_49, i_50, i_51, rfl⟩ := hw
                          have i_48 : 0 ≤ z52.toInt ∧ z52.toInt ≤ 1000000 := i_48
                          have i_49 : 0 ≤ z55.toInt ∧ z55.toInt ≤ 3 := i_49
                          have i_50 : 0 ≤ z56.toInt ∧ z56.toInt ≤ 23 := i_50
                          have i_51 : 0 ≤ z57.toInt ∧ z57.toInt ≤ 1 := i_51
                          obtain ⟨hP, hD⟩ := va_join (wr := [(a_bb, (arJ G 24 f_bb)), (a_pt, (arI G 200 (upd k_pt k_i.toNatClampNeg ((k_ho * 64) + z21)))), (a_b, (oc6 5 24 a_bn e_b)), (a_bn, (arI G 120 f_b))]) hP hD [6, 7, 0, 1, 4, 5, 10, 11, 12, 13] [2, 3, 8, 9] rfl rfl (by decide) (by decide) hk1 hFc hP1 hD1
                          generalize H1 = H at hP hS ⊢
                          refine g5_rs [(a_bb, (arJ G 24 f_bb)), (a_pt, (arI G 200 (upd k_pt k_i.toNatClampNeg ((k_ho * 64) + z21)))), (a_b, (oc6 5 24 a_bn e_b)), (a_bn, (arI G 120 f_b)), (a_k, (oc5 a_h a_j a_pt (k_i + 1) z36 k_ho z52 z53 z54 z21 z55 z56 z57)), (a_h, (oc1 e_wa e_le e_st e_fo e_lc a_l a_g a_b a_s a_p a_w e_gb a_bb)), (a_g, (oc6 6 5 a_gn e_g)), (a_gn, (arI G 30 f_g)), (a_p, (oc6 8 5 a_pn e_p)), (a_pn, (arI G 40 f_p)), (a_j, (oc2 a_as a_sk)), (a_as, (arI G 8 z58)), (a_sk, (arJ G 50 z59)), (a_l, (arW G 6 f_l))] hP hD (fun hP hD => ?_)
                          refine lv_iinc (v := (k_i + 1)) (lv' := [(7, .int (k_i + 1)), (8, .int z21), (5, .long (e_gb ||| z4)), (0, .ref a_k), (1, .int p_c), (2, .int p_w), (3, .int p_h), (4, .int p_u)]) hx hb dX5_run_221 hl (k := 1) rfl rfl (by decide) rfl (fun ls hl => ?_)
                          have t_60 : (k_i + 1).toInt = k_i.toInt + 1 := g5_iadd (a := k_i.toInt) (b := 1) rfl (by decide) (by omega) (by omega)
                          refine lv_goto (tgt := 78) hx hb dX5_run_224 (by decide) ?_
                          exact ih_78_16 ((k_i + 1), (k_i + 1), z36, k_ho, z52, z53, z54, z21, z55, z56, z57, (upd k_pt k_i.toNatClampNeg ((k_ho * 64) + z21)), z58, z59) ls H locs (show Int.toNat (200 - (k_i + 1).toInt) < Int.toNat (200 - k_i.toInt) from g_up (show k_i.toInt < (k_i + 1).toInt by omega) (show k_i.toInt < 200 by omega)) ⟨lv_sub hl [0, 2, 3, 4, 5, 6, 7] rfl, hP.sub [6, 7, 2, 3, 0, 10, 11, 12, 13, 1, 4, 5, 8, 9] rfl, hD.sub [6, 7, 2, 3, 0, 10, 11, 12, 13, 1, 4, 5, 8, 9] (by decide) rfl, hS, ⟨by omega, by omega⟩, ⟨by omega, by omega⟩, ⟨by omega, by omega⟩, i_48, ⟨by omega, by omega⟩, i_49, i_50, i_51, by omega, g_rows (k := k_i) (fun j hj => i_15 j (by omega)) (by omega) (by omega) (by omega)⟩
              ·
                exact absurd c_26 (by decide)
            ·
              have i_25 : onB e_wa z21.toInt = true := i_25
              have hP := g5_same hP hk1
              generalize H1 = H at hP hS ⊢
              refine lv_if_eq (tgt := 128) hx hb dX5_run_124 (by decide) (fun c_61 => ?_) (fun c_61 => ?_)
              ·
                exact absurd c_61 (by decide)
              ·
                exact W.vret hx hb hr (fun t ht hW => ⟨⟨[(a_k, (oc5 a_h a_j a_pt k_ln k_se k_lh k_br k_we k_me k_ce k_wy k_ho k_ov)), (a_h, (oc1 e_wa e_le e_st e_fo e_lc a_l a_g a_b a_s a_p a_w e_gb a_bb)), (a_g, (oc6 6 5 a_gn e_g)), (a_gn, (arI G 30 f_g)), (a_b, (oc6 5 24 a_bn e_b)), (a_bn, (arI G 120 f_b)), (a_p, (oc6 8 5 a_pn e_p)), (a_pn, (arI G 40 f_p)), (a_bb, (arJ G 24 f_bb)), (a_j, (oc2 a_as a_sk)), (a_as, (arI G 8 k_as)), (a_sk, (arJ G 50 k_sk)), (a_l, (arW G 6 f_l)), (a_pt, (arI G 200 k_pt))], rfl, ⟨k_ln, k_se, k_lh, k_br, k_we, k_me, k_ce, k_wy, k_ho, k_ov, k_pt, k_as, k_sk, i_7, i_13, i_15, rfl⟩, by rw [ht]; exact hP.sub [10, 11, 0, 1, 2, 3, 12, 13, 4, 5, 6, 7, 8, 9] rfl, hD.sub [10, 11, 0, 1, 2, 3, 12, 13, 4, 5, 6, 7, 8, 9] (by decide) rfl⟩, hS.F ht⟩) hS.2.2 dX5_run_127
    ·
      exact absurd c_2 (by decide)
  ·
    have hP := g5_same hP hk1
    generalize H1 = H at hP hS ⊢
    refine lv_if_ne (tgt := 55) hx hb dX5_run_48 (by decide) (fun c_62 => ?_) (fun c_62 => ?_)
    ·
      exact absurd c_62 (by decide)
    ·
      refine lv_iconst (v := 1) hx hb dX5_run_51 (by decide) ?_
      refine lv_goto (tgt := 56) hx hb dX5_run_52 (by decide) ?_
      refine va_put (D := G.1) (ci := 5) (v := .int 1) (ty := .boolean) (C := RX5) (T := TX5) (N := 13) hx hb hts inG_X5 tyX5 tyX5_ok nmX5 hown hK hP hD hS 0 rfl rfl 12 (by decide) (hts _ fl_X5_56) (fun _ h9 => h9) rfl (by decide +kernel) rfl rfl (Nat.le_of_ble_eq_true rfl) dX5_run_56 (fun H locs hP hD hS => ?_)
      refine g5_rs [(a_k, (oc5 a_h a_j a_pt 0 (-1) (-1) 1000000 0 e_me p_c p_w p_h 1)), (a_h, (oc1 e_wa e_le e_st e_fo e_lc a_l a_g a_b a_s a_p a_w e_gb a_bb)), (a_g, (oc6 6 5 a_gn e_g)), (a_gn, (arI G 30 f_g)), (a_b, (oc6 5 24 a_bn e_b)), (a_bn, (arI G 120 f_b)), (a_p, (oc6 8 5 a_pn e_p)), (a_pn, (arI G 40 f_p)), (a_bb, (arJ G 24 f_bb)), (a_j, (oc2 a_as a_sk)), (a_as, (arI G 8 f_as)), (a_sk, (arJ G 50 f_sk)), (a_l, (arW G 6 f_l)), (a_pt, (arI G 200 f_pt))] hP hD (fun hP hD => ?_)
      refine lv_aload_n hx hb dX5_run_59 rfl (lv_at hl 0 rfl) ?_
      refine va_get (D := G.1) (ci := 5) (v := .ref a_h) (C := RX5) (T := TX5) (N := 13) hx hb hts inG_X5 hown hK hP 0 rfl rfl 0 (by decide) (hts _ fl_X5_22) (fun _ h9 => h9) rfl dX5_run_60 ?_
      refine va_get (D := G.1) (ci := 1) (v := .long e_gb) (C := RX1) (T := TX1) (N := 13) hx hb hts inG_X1 hown hK hP 1 rfl rfl 11 (by decide) (hts _ fl_X5_60) (fun _ h9 => h9) rfl dX5_run_63 ?_
      refine lv_aload_n hx hb dX5_run_66 rfl (lv_at hl 0 rfl) ?_
      refine lv_iload hx hb dX5_run_67 (lv_at hl 4 rfl) ?_
      obtain ⟨hPc, hDc, hFc⟩ := g5_sub3 (wc := [(a_k, (oc5 a_h a_j a_pt 0 (-1) (-1) 1000000 0 e_me p_c p_w p_h 1)), (a_h, (oc1 e_wa e_le e_st e_fo e_lc a_l a_g a_b a_s a_p a_w e_gb a_bb)), (a_p, (oc6 8 5 a_pn e_p)), (a_pn, (arI G 40 f_p))]) hP hD hS hA [0, 1, 6, 7] (by decide) rfl
      refine va_calll (va_runV (As := [.int p_u]) (rest := [.long e_gb]) ⟨hx, hb, hml, hown, hts⟩ (k_hung l G a_k a_h a_p a_pn a_j a_pt a_l a_g a_b a_s a_w a_bb H.size e_le e_st e_fo e_lc e_p 0 (-1) (-1) 1000000 0 e_me p_c p_w p_h 1 p_u e_wa e_gb f_p h_e_p ⟨by decide, by decide⟩ (gOK_cell e_pk)) (cwV 1 hts gV_X5_66 rfl rfl rfl hv_X5_hungBoard ⟨Nat.le_of_ble_eq_true rfl, Nat.le_of_ble_eq_true rfl⟩) (g5_preV hPc hK hDc hN hT hS hFc (ci := 5) (q0 := 0) rfl rfl) rfl rfl hl.1 rfl (lv_room (Nat.le_of_ble_eq_true rfl)) dX5_run_69 ⟨Nat.le_of_ble_eq_true rfl, Nat.le_of_ble_eq_true rfl⟩) hS (fun q _ h => hFc q h) hFc (fun r u t H1 locs ht hvm hw hB hz1 hk1 hS => ?_)
      obtain ⟨hP1, hD1⟩ := hB
      rw [ht] at hP1
      obtain ⟨z64, i_63, y65, rfl⟩ := hw
      have i_63 : inT z64 f_p e_p.toInt := i_63
      obtain ⟨hP, hD⟩ := va_join (wr := [(a_g, (oc6 6 5 a_gn e_g)), (a_gn, (arI G 30 f_g)), (a_b, (oc6 5 24 a_bn e_b)), (a_bn, (arI G 120 f_b)), (a_bb, (arJ G 24 f_bb)), (a_j, (oc2 a_as a_sk)), (a_as, (arI G 8 f_as)), (a_sk, (arJ G 50 f_sk)), (a_l, (arW G 6 f_l)), (a_pt, (arI G 200 f_pt))]) hP hD [0, 1, 6, 7] [2, 3, 4, 5, 8, 9, 10, 11, 12, 13] rfl rfl (by decide) (by decide) hk1 hFc hP1 hD1
      generalize H1 = H at hP hS ⊢
      refine g5_rs [(a_g, (oc6 6 5 a_gn e_g)), (a_gn, (arI G 30 f_g)), (a_b, (oc6 5 24 a_bn e_b)), (a_bn, (arI G 120 f_b)), (a_bb, (arJ G 24 f_bb)), (a_j, (oc2 a_as a_sk)), (a_as, (arI G 8 f_as)), (a_sk, (arJ G 50 f_sk)), (a_l, (arW G 6 f_l)), (a_pt, (arI G 200 f_pt)), (a_k, (oc5 a_h a_j a_pt 0 (-1) (-1) 1000000 0 e_me p_c p_w p_h 1)), (a_h, (oc1 e_wa e_le e_st e_fo e_lc a_l a_g a_b a_s a_p a_w e_gb a_bb)), (a_p, (oc6 8 5 a_pn e_p)), (a_pn, (arI G 40 f_p))] hP hD (fun hP hD => ?_)
      refine g5_tl (v := z64) y65 ?_
      refine lv_lor hx hb dX5_run_72 ?_
      refine lv_lstore (lv' := [(5, .long (e_gb ||| z64)), (0, .ref a_k), (1, .int p_c), (2, .int p_w), (3, .int p_h), (4, .int p_u)]) hx hb dX5_run_73 hl (by decide) rfl (fun ls hl => ?_)
      refine lv_iconst (v := 0) hx hb dX5_run_75 (by decide) ?_
      refine lv_istore (lv' := [(7, .int 0), (5, .long (e_gb ||| z64)), (0, .ref a_k), (1, .int p_c), (2, .int p_w), (3, .int p_h), (4, .int p_u)]) hx hb dX5_run_76 hl (by decide) rfl (fun ls hl => ?_)
      refine lv_iload hx hb dX5_run_78 (lv_at hl 0 rfl) ?_
      refine lv_sipush (v := 200) hx hb dX5_run_80 (by decide) ?_
      refine lv_icmp_ge (tgt := 227) hx hb dX5_run_83 (by decide) (fun c_66 => ?_) (fun c_66 => ?_)
      ·
        exact absurd c_66 (by decide)
      ·
        refine lv_aload_n hx hb dX5_run_86 rfl (lv_at hl 2 rfl) ?_
        refine va_get (D := G.1) (ci := 5) (v := .int 1) (C := RX5) (T := TX5) (N := 13) hx hb hts inG_X5 hown hK hP 10 rfl rfl 12 (by decide) (hts _ fl_X5_56) (fun _ h9 => h9) rfl dX5_run_87 ?_
        refine lv_if_ne (tgt := 227) hx hb dX5_run_90 (by decide) (fun c_67 => ?_) (fun c_67 => ?_)
        ·
          exact W.vret hx hb hr (fun t ht hW => ⟨⟨[(a_k, (oc5 a_h a_j a_pt 0 (-1) (-1) 1000000 0 e_me p_c p_w p_h 1)), (a_h, (oc1 e_wa e_le e_st e_fo e_lc a_l a_g a_b a_s a_p a_w e_gb a_bb)), (a_g, (oc6 6 5 a_gn e_g)), (a_gn, (arI G 30 f_g)), (a_b, (oc6 5 24 a_bn e_b)), (a_bn, (arI G 120 f_b)), (a_p, (oc6 8 5 a_pn e_p)), (a_pn, (arI G 40 f_p)), (a_bb, (arJ G 24 f_bb)), (a_j, (oc2 a_as a_sk)), (a_as, (arI G 8 f_as)), (a_sk, (arJ G 50 f_sk)), (a_l, (arW G 6 f_l)), (a_pt, (arI G 200 f_pt))], rfl, ⟨0, (-1), (-1), 1000000, 0, e_me, p_c, p_w, p_h, 1, f_pt, f_as, f_sk, ⟨by have zc_o_ln : (0 : Int32).toInt = 0 := (by decide); omega, by have zc_o_ln : (0 : Int32).toInt = 0 := (by decide); omega⟩, ⟨by have zc_o_ov : (1 : Int32).toInt = 1 := (by decide); omega, by have zc_o_ov : (1 : Int32).toInt = 1 := (by decide); omega⟩, fun j h => absurd h (by have z : (0 : Int32).toInt = 0 := (by decide); omega), rfl⟩, by rw [ht]; exact hP.sub [10, 11, 0, 1, 2, 3, 12, 13, 4, 5, 6, 7, 8, 9] rfl, hD.sub [10, 11, 0, 1, 2, 3, 12, 13, 4, 5, 6, 7, 8, 9] (by decide) rfl⟩, hS.F ht⟩) hS.2.2 dX5_run_227
        ·
          exact absurd c_67 (by decide)
