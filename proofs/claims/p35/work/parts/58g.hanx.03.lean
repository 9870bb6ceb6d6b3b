set_option maxHeartbeats 4000000 in
set_option maxRecDepth 100000 in
theorem k_runHN (l : Launch) (G : g5_G) (a_k a_h a_g a_gn a_b a_bn a_p a_pn a_bb a_j a_as a_sk a_l a_pt a_s a_w : Nat) (sz : Nat) (e_le : Int32) (e_st : Int32) (e_fo : Int32) (e_lc : Int32) (e_g : Int32) (e_b : Int32) (e_p : Int32) (e_ln : Int32) (e_se : Int32) (e_lh : Int32) (e_br : Int32) (e_we : Int32) (e_me : Int32) (e_ce : Int32) (e_wy : Int32) (e_ho : Int32) (e_ov : Int32) (p_c : Int32) (p_w : Int32) (p_h : Int32) (p_u : Int32) (e_wa : Int64) (e_gb : Int64) (f_g : Nat → Int32) (f_b : Nat → Int32) (f_p : Nat → Int32) (f_bb : Nat → Int64) (f_as : Nat → Int32) (f_sk : Nat → Int64) (f_l : Nat → Option Nat) (f_pt : Nat → Int32) (f_ro : Nat → Int32) (g_w : Option (List CLT)) (h_e_g : 0 ≤ e_g.toInt ∧ e_g.toInt ≤ 6) (h_e_b : 0 ≤ e_b.toInt ∧ e_b.toInt ≤ 5) (h_e_p : 0 ≤ e_p.toInt ∧ e_p.toInt ≤ 8) (h_e_ov : 0 ≤ e_ov.toInt ∧ e_ov.toInt ≤ 1) (e_gk : gOK f_g e_g.toInt) (e_pk : gOK f_p e_p.toInt) (e_qh : QH e_wa e_le e_st f_ro) (e_qg : QG e_g f_g e_gb f_ro) (e_qb : QB e_b f_b f_bb f_ro) (e_qp : QP e_p f_p f_ro) (e_ic : (0 ≤ p_c.toInt ∧ p_c.toInt ≤ 63) ∧ (0 ≤ p_w.toInt ∧ p_w.toInt ≤ 3) ∧ (0 ≤ p_h.toInt ∧ p_h.toInt ≤ 23)) (e_f : e_fo.toInt < 0 ∨ e_lc.toInt ≤ e_fo.toInt) (e_w : g_w = none) : Met l yX5_run (wsG yX5_run cX5_run 9 none) ({ frames := 3, cells := 0, slots := 0, locals := 73 }) (va_Pc [.ref a_k, .int p_c, .int p_w, .int p_h, .int p_u] (g5_P G [(a_k, (oc5 a_h a_j a_pt e_ln e_se e_lh e_br e_we e_me e_ce e_wy e_ho e_ov)), (a_h, (oc1 e_wa e_le e_st e_fo e_lc a_l a_g a_b a_s a_p a_w e_gb a_bb)), (a_g, (oc6 6 5 a_gn e_g)), (a_gn, (arI G 30 f_g)), (a_b, (oc6 5 24 a_bn e_b)), (a_bn, (arI G 120 f_b)), (a_p, (oc6 8 5 a_pn e_p)), (a_pn, (arI G 40 f_p)), (a_bb, (arJ G 24 f_bb)), (a_j, (oc2 a_as a_sk)), (a_as, (arI G 8 f_as)), (a_sk, (arJ G 50 f_sk)), (a_l, (arW G 6 f_l)), (a_pt, (arI G 200 f_pt))] sz)) (va_Qv (fun (u : va_W) => (∃ (o_ln : Int32) (o_se : Int32) (o_lh : Int32) (o_br : Int32) (o_we : Int32) (o_me : Int32) (o_ce : Int32) (o_wy : Int32) (o_ho : Int32) (o_ov : Int32) (o_pt : Nat → Int32) (o_as : Nat → Int32) (o_sk : Nat → Int64), (0 ≤ o_ln.toInt ∧ o_ln.toInt ≤ 200) ∧ (0 ≤ o_ov.toInt ∧ o_ov.toInt ≤ 1) ∧ (∀ j : Nat, (j : Int) < o_ln.toInt → 0 ≤ (o_pt j).toInt ∧ (o_pt j).toInt ≤ 1535) ∧ (LKR f_ro g_w p_u p_c p_w p_h o_se o_ln o_br o_we o_pt) ∧ (u = [(a_k, (oc5 a_h a_j a_pt o_ln o_se o_lh o_br o_we o_me o_ce o_wy o_ho o_ov)), (a_h, (oc1 e_wa e_le e_st e_fo e_lc a_l a_g a_b a_s a_p a_w e_gb a_bb)), (a_g, (oc6 6 5 a_gn e_g)), (a_gn, (arI G 30 f_g)), (a_b, (oc6 5 24 a_bn e_b)), (a_bn, (arI G 120 f_b)), (a_p, (oc6 8 5 a_pn e_p)), (a_pn, (arI G 40 f_p)), (a_bb, (arJ G 24 f_bb)), (a_j, (oc2 a_as a_sk)), (a_as, (arI G 8 o_as)), (a_sk, (arJ G 50 o_sk)), (a_l, (arW G 6 f_l)), (a_pt, (arI G 200 o_pt))]))) (g5_B G (va_A [(a_k, (oc5 a_h a_j a_pt e_ln e_se e_lh e_br e_we e_me e_ce e_wy e_ho e_ov)), (a_h, (oc1 e_wa e_le e_st e_fo e_lc a_l a_g a_b a_s a_p a_w e_gb a_bb)), (a_g, (oc6 6 5 a_gn e_g)), (a_gn, (arI G 30 f_g)), (a_b, (oc6 5 24 a_bn e_b)), (a_bn, (arI G 120 f_b)), (a_p, (oc6 8 5 a_pn e_p)), (a_pn, (arI G 40 f_p)), (a_bb, (arJ G 24 f_bb)), (a_j, (oc2 a_as a_sk)), (a_as, (arI G 8 f_as)), (a_sk, (arJ G 50 f_sk)), (a_l, (arW G 6 f_l)), (a_pt, (arI G 200 f_pt))] sz)) (va_A [(a_k, (oc5 a_h a_j a_pt e_ln e_se e_lh e_br e_we e_me e_ce e_wy e_ho e_ov)), (a_h, (oc1 e_wa e_le e_st e_fo e_lc a_l a_g a_b a_s a_p a_w e_gb a_bb)), (a_g, (oc6 6 5 a_gn e_g)), (a_gn, (arI G 30 f_g)), (a_b, (oc6 5 24 a_bn e_b)), (a_bn, (arI G 120 f_b)), (a_p, (oc6 8 5 a_pn e_p)), (a_pn, (arI G 40 f_p)), (a_bb, (arJ G 24 f_bb)), (a_j, (oc2 a_as a_sk)), (a_as, (arI G 8 f_as)), (a_sk, (arJ G 50 f_sk)), (a_l, (arW G 6 f_l)), (a_pt, (arI G 200 f_pt))] sz)) 0 0 (va_A [(a_k, (oc5 a_h a_j a_pt e_ln e_se e_lh e_br e_we e_me e_ce e_wy e_ho e_ov)), (a_h, (oc1 e_wa e_le e_st e_fo e_lc a_l a_g a_b a_s a_p a_w e_gb a_bb)), (a_g, (oc6 6 5 a_gn e_g)), (a_gn, (arI G 30 f_g)), (a_b, (oc6 5 24 a_bn e_b)), (a_bn, (arI G 120 f_b)), (a_p, (oc6 8 5 a_pn e_p)), (a_pn, (arI G 40 f_p)), (a_bb, (arJ G 24 f_bb)), (a_j, (oc2 a_as a_sk)), (a_as, (arI G 8 f_as)), (a_sk, (arJ G 50 f_sk)), (a_l, (arW G 6 f_l)), (a_pt, (arI G 200 f_pt))] sz) := by
  refine Met.ofW (cc := cX5_run) (maxL := 9) (ret := none) (by decide +kernel) rfl ?_
  intro p e s m args below meth c s₁ B hml hv
  obtain ⟨rfl, hsz, hP, hK, hD0, hN, hT⟩ := hv
  have hx := B.exec
  have hb := B.bytes
  have hr := B.returns
  have hts : ∀ w ∈ tblG, w.before _ s = true := fun w h => atoms_spec (ws := (wsG yX5_run cX5_run 9 none)) B.pre w (List.mem_cons_of_mem _ h)
  have hown : s.vm.findClass RX5 = some m.cls := findClass_of_methodNamed B.named
  have hlocks := B.notSynchronized
  subst hsz
  have hD := hD0.self (sz := s.heap.size)
  generalize hAe : va_A [(a_k, (oc5 a_h a_j a_pt e_ln e_se e_lh e_br e_we e_me e_ce e_wy e_ho e_ov)), (a_h, (oc1 e_wa e_le e_st e_fo e_lc a_l a_g a_b a_s a_p a_w e_gb a_bb)), (a_g, (oc6 6 5 a_gn e_g)), (a_gn, (arI G 30 f_g)), (a_b, (oc6 5 24 a_bn e_b)), (a_bn, (arI G 120 f_b)), (a_p, (oc6 8 5 a_pn e_p)), (a_pn, (arI G 40 f_p)), (a_bb, (arJ G 24 f_bb)), (a_j, (oc2 a_as a_sk)), (a_as, (arI G 8 f_as)), (a_sk, (arJ G 50 f_sk)), (a_l, (arW G 6 f_l)), (a_pt, (arI G 200 f_pt))] s.heap.size = A at hD hT ⊢
  have hA : ∀ q : Nat, s.heap.size ≤ q → A q := fun q h => by rw [← hAe]; exact Or.inr h
  have hS : va_S A s.heap s.heap [] := va_S.rf
  replace hP : va_P G.1 vwCl [(a_k, (oc5 a_h a_j a_pt e_ln e_se e_lh e_br e_we e_me e_ce e_wy e_ho e_ov)), (a_h, (oc1 e_wa e_le e_st e_fo e_lc a_l a_g a_b a_s a_p a_w e_gb a_bb)), (a_g, (oc6 6 5 a_gn e_g)), (a_gn, (arI G 30 f_g)), (a_b, (oc6 5 24 a_bn e_b)), (a_bn, (arI G 120 f_b)), (a_p, (oc6 8 5 a_pn e_p)), (a_pn, (arI G 40 f_p)), (a_bb, (arJ G 24 f_bb)), (a_j, (oc2 a_as a_sk)), (a_as, (arI G 8 f_as)), (a_sk, (arJ G 50 f_sk)), (a_l, (arW G 6 f_l)), (a_pt, (arI G 200 f_pt))] s.heap := hP
  have hl := lv_entry ([.ref a_k, .int p_c, .int p_w, .int p_h, .int p_u]) (n := 9) (Nat.le_of_ble_eq_true rfl)
  rw [lg_entry_eq]
  generalize (lg_sl ([.ref a_k, .int p_c, .int p_w, .int p_h, .int p_u]) ++ List.replicate (9 - (lg_sl ([.ref a_k, .int p_c, .int p_w, .int p_h, .int p_u])).length) Slot.unset).toArray = ls at hl ⊢
  replace hl : lv_has ls 9 [(0, .ref a_k), (1, .int p_c), (2, .int p_w), (3, .int p_h), (4, .int p_u)] := hl
  obtain ⟨⟨e_c1, e_c2⟩, ⟨e_c3, e_c4⟩, ⟨e_c5, e_c6⟩⟩ := id e_ic
  have e_f1 : f_ro 1 = e_b := e_qb.2.1
  have e_ht := e_qb.2.2.1
  have e_f4 : f_ro 4 = e_le := e_qh.2.1
  refine lv_aload_n hx hb dX5_run_0 rfl (lv_at hl 0 rfl) ?_
  refine lv_iload_n hx hb dX5_run_1 rfl (lv_at hl 1 rfl) ?_
  refine va_put (D := G.1) (ci := 5) (v := .int p_c) (ty := .int) (C := RX5) (T := TX5) (N := 13) hx hb hts inG_X5 tyX5 tyX5_ok nmX5 hown hK hP hD hS 0 rfl rfl 9 (by decide +kernel) (hts _ fl_X5_26) (fun _ h9 => h9) rfl (by decide +kernel) rfl rfl (Nat.le_of_ble_eq_true rfl) dX5_run_2 ?_
  clear hP hD hS
  intro H locs hP hD hS
  refine g5_rs [(a_k, (oc5 a_h a_j a_pt e_ln e_se e_lh e_br e_we e_me p_c e_wy e_ho e_ov)), (a_h, (oc1 e_wa e_le e_st e_fo e_lc a_l a_g a_b a_s a_p a_w e_gb a_bb)), (a_g, (oc6 6 5 a_gn e_g)), (a_gn, (arI G 30 f_g)), (a_b, (oc6 5 24 a_bn e_b)), (a_bn, (arI G 120 f_b)), (a_p, (oc6 8 5 a_pn e_p)), (a_pn, (arI G 40 f_p)), (a_bb, (arJ G 24 f_bb)), (a_j, (oc2 a_as a_sk)), (a_as, (arI G 8 f_as)), (a_sk, (arJ G 50 f_sk)), (a_l, (arW G 6 f_l)), (a_pt, (arI G 200 f_pt))] hP hD ?_
  clear hP hD
  intro hP hD
  refine lv_aload_n hx hb dX5_run_5 rfl (lv_at hl 0 rfl) ?_
  refine W.eq (g2 := F0 m 6 ls [.ref a_k]) rfl ?_
  refine lv_iload_n hx hb dX5_run_6 rfl (lv_at hl 2 rfl) ?_
  refine va_put (D := G.1) (ci := 5) (v := .int p_w) (ty := .int) (C := RX5) (T := TX5) (N := 13) hx hb hts inG_X5 tyX5 tyX5_ok nmX5 hown hK hP hD hS 0 rfl rfl 10 (by decide +kernel) (hts _ fl_X5_30) (fun _ h9 => h9) rfl (by decide +kernel) rfl rfl (Nat.le_of_ble_eq_true rfl) dX5_run_7 ?_
  clear hP hD hS
  intro H locs hP hD hS
  refine g5_rs [(a_k, (oc5 a_h a_j a_pt e_ln e_se e_lh e_br e_we e_me p_c p_w e_ho e_ov)), (a_h, (oc1 e_wa e_le e_st e_fo e_lc a_l a_g a_b a_s a_p a_w e_gb a_bb)), (a_g, (oc6 6 5 a_gn e_g)), (a_gn, (arI G 30 f_g)), (a_b, (oc6 5 24 a_bn e_b)), (a_bn, (arI G 120 f_b)), (a_p, (oc6 8 5 a_pn e_p)), (a_pn, (arI G 40 f_p)), (a_bb, (arJ G 24 f_bb)), (a_j, (oc2 a_as a_sk)), (a_as, (arI G 8 f_as)), (a_sk, (arJ G 50 f_sk)), (a_l, (arW G 6 f_l)), (a_pt, (arI G 200 f_pt))] hP hD ?_
  clear hP hD
  intro hP hD
  refine lv_aload_n hx hb dX5_run_10 rfl (lv_at hl 0 rfl) ?_
  refine lv_iload_n hx hb dX5_run_11 rfl (lv_at hl 3 rfl) ?_
  refine va_put (D := G.1) (ci := 5) (v := .int p_h) (ty := .int) (C := RX5) (T := TX5) (N := 13) hx hb hts inG_X5 tyX5 tyX5_ok nmX5 hown hK hP hD hS 0 rfl rfl 11 (by decide +kernel) (hts _ fl_X5_33) (fun _ h9 => h9) rfl (by decide +kernel) rfl rfl (Nat.le_of_ble_eq_true rfl) dX5_run_12 ?_
  clear hP hD hS
  intro H locs hP hD hS
  refine g5_rs [(a_k, (oc5 a_h a_j a_pt e_ln e_se e_lh e_br e_we e_me p_c p_w p_h e_ov)), (a_h, (oc1 e_wa e_le e_st e_fo e_lc a_l a_g a_b a_s a_p a_w e_gb a_bb)), (a_g, (oc6 6 5 a_gn e_g)), (a_gn, (arI G 30 f_g)), (a_b, (oc6 5 24 a_bn e_b)), (a_bn, (arI G 120 f_b)), (a_p, (oc6 8 5 a_pn e_p)), (a_pn, (arI G 40 f_p)), (a_bb, (arJ G 24 f_bb)), (a_j, (oc2 a_as a_sk)), (a_as, (arI G 8 f_as)), (a_sk, (arJ G 50 f_sk)), (a_l, (arW G 6 f_l)), (a_pt, (arI G 200 f_pt))] hP hD ?_
  clear hP hD
  intro hP hD
  refine W.eq (g2 := F0 m 15 ls []) rfl ?_
  refine lv_aload_n hx hb dX5_run_15 rfl (lv_at hl 0 rfl) ?_
  refine lv_iconst (v := 0) hx hb dX5_run_16 (by decide +kernel) ?_
  refine va_put (D := G.1) (ci := 5) (v := .int 0) (ty := .int) (C := RX5) (T := TX5) (N := 13) hx hb hts inG_X5 tyX5 tyX5_ok nmX5 hown hK hP hD hS 0 rfl rfl 3 (by decide +kernel) (hts _ fl_X5_36) (fun _ h9 => h9) rfl (by decide +kernel) rfl rfl (Nat.le_of_ble_eq_true rfl) dX5_run_17 ?_
  clear hP hD hS
  intro H locs hP hD hS
  refine g5_rs [(a_k, (oc5 a_h a_j a_pt 0 e_se e_lh e_br e_we e_me p_c p_w p_h e_ov)), (a_h, (oc1 e_wa e_le e_st e_fo e_lc a_l a_g a_b a_s a_p a_w e_gb a_bb)), (a_g, (oc6 6 5 a_gn e_g)), (a_gn, (arI G 30 f_g)), (a_b, (oc6 5 24 a_bn e_b)), (a_bn, (arI G 120 f_b)), (a_p, (oc6 8 5 a_pn e_p)), (a_pn, (arI G 40 f_p)), (a_bb, (arJ G 24 f_bb)), (a_j, (oc2 a_as a_sk)), (a_as, (arI G 8 f_as)), (a_sk, (arJ G 50 f_sk)), (a_l, (arW G 6 f_l)), (a_pt, (arI G 200 f_pt))] hP hD ?_
  clear hP hD
  intro hP hD
  refine lv_aload_n hx hb dX5_run_20 rfl (lv_at hl 0 rfl) ?_
  refine lv_iconst (v := (-1)) hx hb dX5_run_21 (by decide +kernel) ?_
  refine W.eq (g2 := F0 m 22 ls [.int (-1), .ref a_k]) rfl ?_
  refine va_put (D := G.1) (ci := 5) (v := .int (-1)) (ty := .int) (C := RX5) (T := TX5) (N := 13) hx hb hts inG_X5 tyX5 tyX5_ok nmX5 hown hK hP hD hS 0 rfl rfl 4 (by decide +kernel) (hts _ fl_X5_39) (fun _ h9 => h9) rfl (by decide +kernel) rfl rfl (Nat.le_of_ble_eq_true rfl) dX5_run_22 ?_
  clear hP hD hS
  intro H locs hP hD hS
  refine g5_rs [(a_k, (oc5 a_h a_j a_pt 0 (-1) e_lh e_br e_we e_me p_c p_w p_h e_ov)), (a_h, (oc1 e_wa e_le e_st e_fo e_lc a_l a_g a_b a_s a_p a_w e_gb a_bb)), (a_g, (oc6 6 5 a_gn e_g)), (a_gn, (arI G 30 f_g)), (a_b, (oc6 5 24 a_bn e_b)), (a_bn, (arI G 120 f_b)), (a_p, (oc6 8 5 a_pn e_p)), (a_pn, (arI G 40 f_p)), (a_bb, (arJ G 24 f_bb)), (a_j, (oc2 a_as a_sk)), (a_as, (arI G 8 f_as)), (a_sk, (arJ G 50 f_sk)), (a_l, (arW G 6 f_l)), (a_pt, (arI G 200 f_pt))] hP hD ?_
  clear hP hD
  intro hP hD
  refine lv_aload_n hx hb dX5_run_25 rfl (lv_at hl 0 rfl) ?_
  refine lv_iconst (v := (-1)) hx hb dX5_run_26 (by decide +kernel) ?_
  refine va_put (D := G.1) (ci := 5) (v := .int (-1)) (ty := .int) (C := RX5) (T := TX5) (N := 13) hx hb hts inG_X5 tyX5 tyX5_ok nmX5 hown hK hP hD hS 0 rfl rfl 5 (by decide +kernel) (hts _ fl_X5_42) (fun _ h9 => h9) rfl (by decide +kernel) rfl rfl (Nat.le_of_ble_eq_true rfl) dX5_run_27 ?_
  clear hP hD hS
  intro H locs hP hD hS
  refine g5_rs [(a_k, (oc5 a_h a_j a_pt 0 (-1) (-1) e_br e_we e_me p_c p_w p_h e_ov)), (a_h, (oc1 e_wa e_le e_st e_fo e_lc a_l a_g a_b a_s a_p a_w e_gb a_bb)), (a_g, (oc6 6 5 a_gn e_g)), (a_gn, (arI G 30 f_g)), (a_b, (oc6 5 24 a_bn e_b)), (a_bn, (arI G 120 f_b)), (a_p, (oc6 8 5 a_pn e_p)), (a_pn, (arI G 40 f_p)), (a_bb, (arJ G 24 f_bb)), (a_j, (oc2 a_as a_sk)), (a_as, (arI G 8 f_as)), (a_sk, (arJ G 50 f_sk)), (a_l, (arW G 6 f_l)), (a_pt, (arI G 200 f_pt))] hP hD ?_
  clear hP hD
  intro hP hD
  refine lv_aload_n hx hb dX5_run_30 rfl (lv_at hl 0 rfl) ?_
  refine W.eq (g2 := F0 m 31 ls [.ref a_k]) rfl ?_
  refine lv_ldc (v := 1000000) hx hb hown (hts _ ki_X5_45) dX5_run_31 ?_
  refine va_put (D := G.1) (ci := 5) (v := .int 1000000) (ty := .int) (C := RX5) (T := TX5) (N := 13) hx hb hts inG_X5 tyX5 tyX5_ok nmX5 hown hK hP hD hS 0 rfl rfl 6 (by decide +kernel) (hts _ fl_X5_46) (fun _ h9 => h9) rfl (by decide +kernel) rfl rfl (Nat.le_of_ble_eq_true rfl) dX5_run_33 ?_
  clear hP hD hS
  intro H locs hP hD hS
  refine g5_rs [(a_k, (oc5 a_h a_j a_pt 0 (-1) (-1) 1000000 e_we e_me p_c p_w p_h e_ov)), (a_h, (oc1 e_wa e_le e_st e_fo e_lc a_l a_g a_b a_s a_p a_w e_gb a_bb)), (a_g, (oc6 6 5 a_gn e_g)), (a_gn, (arI G 30 f_g)), (a_b, (oc6 5 24 a_bn e_b)), (a_bn, (arI G 120 f_b)), (a_p, (oc6 8 5 a_pn e_p)), (a_pn, (arI G 40 f_p)), (a_bb, (arJ G 24 f_bb)), (a_j, (oc2 a_as a_sk)), (a_as, (arI G 8 f_as)), (a_sk, (arJ G 50 f_sk)), (a_l, (arW G 6 f_l)), (a_pt, (arI G 200 f_pt))] hP hD ?_
  clear hP hD
  intro hP hD
  refine lv_aload_n hx hb dX5_run_36 rfl (lv_at hl 0 rfl) ?_
  refine lv_iconst (v := 0) hx hb dX5_run_37 (by decide +kernel) ?_
  refine va_put (D := G.1) (ci := 5) (v := .int 0) (ty := .int) (C := RX5) (T := TX5) (N := 13) hx hb hts inG_X5 tyX5 tyX5_ok nmX5 hown hK hP hD hS 0 rfl rfl 7 (by decide +kernel) (hts _ fl_X5_49) (fun _ h9 => h9) rfl (by decide +kernel) rfl rfl (Nat.le_of_ble_eq_true rfl) dX5_run_38 ?_
  clear hP hD hS
  intro H locs hP hD hS
  refine g5_rs [(a_k, (oc5 a_h a_j a_pt 0 (-1) (-1) 1000000 0 e_me p_c p_w p_h e_ov)), (a_h, (oc1 e_wa e_le e_st e_fo e_lc a_l a_g a_b a_s a_p a_w e_gb a_bb)), (a_g, (oc6 6 5 a_gn e_g)), (a_gn, (arI G 30 f_g)), (a_b, (oc6 5 24 a_bn e_b)), (a_bn, (arI G 120 f_b)), (a_p, (oc6 8 5 a_pn e_p)), (a_pn, (arI G 40 f_p)), (a_bb, (arJ G 24 f_bb)), (a_j, (oc2 a_as a_sk)), (a_as, (arI G 8 f_as)), (a_sk, (arJ G 50 f_sk)), (a_l, (arW G 6 f_l)), (a_pt, (arI G 200 f_pt))] hP hD ?_
  clear hP hD
  intro hP hD
  refine W.eq (g2 := F0 m 41 ls []) rfl ?_
  refine lv_aload_n hx hb dX5_run_41 rfl (lv_at hl 0 rfl) ?_
  refine lv_iload_n hx hb dX5_run_42 rfl (lv_at hl 1 rfl) ?_
  refine lv_iload_n hx hb dX5_run_43 rfl (lv_at hl 2 rfl) ?_
  refine lv_iload_n hx hb dX5_run_44 rfl (lv_at hl 3 rfl) ?_
  obtain ⟨hPc, hDc, hFc⟩ := g5_sub3 (wc := []) hP hD hS hA [] (by decide +kernel) rfl
  refine va_calli (va_runSN (As := [.int p_c, .int p_w, .int p_h]) (rest := [.ref a_k]) ⟨hx, hb, hml, hown, hts⟩ (x_isLookX l G H.size p_c p_w p_h) ⟨va_cnB 3 hts gW_X11_isLook rfl rfl rfl (hN.1 _ g5_nw_X5_52) (hts _ ini_X11) hs_X11_isLook ⟨Nat.le_of_ble_eq_true rfl, Nat.le_of_ble_eq_true rfl⟩, hts _ st_X11_isLook, trivial⟩ (g5_preS hPc hK hDc hN hT hS hFc) rfl rfl hl.1 rfl (lv_room (Nat.le_of_ble_eq_true rfl)) dX5_run_45 ⟨Nat.le_of_ble_eq_true rfl, Nat.le_of_ble_eq_true rfl⟩) hS (fun q _ h => hFc q h) hFc (fun r u t H locs ht hvm hw hB hz1 hk1 hS => ?_)
  obtain ⟨hP1, hD1⟩ := hB
  have hP1 := g5_ht ht hP1
  rcases hw with ⟨(i_1 : okL p_c p_w p_h), (i_2 : 0 ≤ p_c.toInt ∧ p_c.toInt ≤ 63), (i_3 : 0 ≤ p_w.toInt ∧ p_w.toInt ≤ 3), (i_4 : 0 ≤ p_h.toInt ∧ p_h.toInt ≤ 23), rfl, rfl⟩ | ⟨(i_5 : ¬ okL p_c p_w p_h), rfl, rfl⟩
  ·
    have hJ9 := g5_same hP hk1
    clear hP hPc hDc hFc ht hvm hz1 hk1 hP1 hD1
    have hP := hJ9
    clear hJ9
    refine lv_if_ne (tgt := 55) hx hb dX5_run_48 (by decide +kernel) (fun c_6 => ?_) (fun c_6 => ?_)
    ·
      refine lv_iconst (v := 0) hx hb dX5_run_55 (by decide +kernel) ?_
      refine va_put (D := G.1) (ci := 5) (v := .int 0) (ty := .boolean) (C := RX5) (T := TX5) (N := 13) hx hb hts inG_X5 tyX5 tyX5_ok nmX5 hown hK hP hD hS 0 rfl rfl 12 (by decide +kernel) (hts _ fl_X5_56) (fun _ h9 => h9) rfl (by decide +kernel) rfl rfl (Nat.le_of_ble_eq_true rfl) dX5_run_56 ?_
      clear hP hD hS
      intro H locs hP hD hS
      refine g5_rs [(a_k, (oc5 a_h a_j a_pt 0 (-1) (-1) 1000000 0 e_me p_c p_w p_h 0)), (a_h, (oc1 e_wa e_le e_st e_fo e_lc a_l a_g a_b a_s a_p a_w e_gb a_bb)), (a_g, (oc6 6 5 a_gn e_g)), (a_gn, (arI G 30 f_g)), (a_b, (oc6 5 24 a_bn e_b)), (a_bn, (arI G 120 f_b)), (a_p, (oc6 8 5 a_pn e_p)), (a_pn, (arI G 40 f_p)), (a_bb, (arJ G 24 f_bb)), (a_j, (oc2 a_as a_sk)), (a_as, (arI G 8 f_as)), (a_sk, (arJ G 50 f_sk)), (a_l, (arW G 6 f_l)), (a_pt, (arI G 200 f_pt))] hP hD ?_
      clear hP hD
      intro hP hD
      refine lv_aload_n hx hb dX5_run_59 rfl (lv_at hl 0 rfl) ?_
      refine va_get (D := G.1) (ci := 5) (v := .ref a_h) (C := RX5) (T := TX5) (N := 13) hx hb hts inG_X5 hown hK hP 0 rfl rfl 0 (by decide +kernel) (hts _ fl_X5_22) (fun _ h9 => h9) rfl dX5_run_60 ?_
      refine W.eq (g2 := F0 m 63 ls [.ref a_h]) rfl ?_
      refine va_get (D := G.1) (ci := 1) (v := .long e_gb) (C := RX1) (T := TX1) (N := 13) hx hb hts inG_X1 hown hK hP 1 rfl rfl 11 (by decide +kernel) (hts _ fl_X5_60) (fun _ h9 => h9) rfl dX5_run_63 ?_
      refine lv_aload_n hx hb dX5_run_66 rfl (lv_at hl 0 rfl) ?_
      refine lv_iload hx hb dX5_run_67 (lv_at hl 4 rfl) ?_
      obtain ⟨hPc, hDc, hFc⟩ := g5_sub3 (wc := [(a_k, (oc5 a_h a_j a_pt 0 (-1) (-1) 1000000 0 e_me p_c p_w p_h 0)), (a_h, (oc1 e_wa e_le e_st e_fo e_lc a_l a_g a_b a_s a_p a_w e_gb a_bb)), (a_p, (oc6 8 5 a_pn e_p)), (a_pn, (arI G 40 f_p))]) hP hD hS hA [0, 1, 6, 7] (by decide +kernel) rfl
      refine va_calll (va_runV (As := [.int p_u]) (rest := [.long e_gb]) ⟨hx, hb, hml, hown, hts⟩ (k_hungX l G a_k a_h a_p a_pn a_j a_pt a_l a_g a_b a_s a_w a_bb H.size e_le e_st e_fo e_lc e_p 0 (-1) (-1) 1000000 0 e_me p_c p_w p_h 0 p_u e_wa e_gb f_p h_e_p ⟨by decide, by decide⟩ (gOK_cell e_pk)) (cwV 1 hts gV_X5_66 rfl rfl rfl hv_X5_hungBoard ⟨Nat.le_of_ble_eq_true rfl, Nat.le_of_ble_eq_true rfl⟩) (g5_preV hPc hK hDc hN hT hS hFc (ci := 5) (q0 := 0) rfl rfl) rfl rfl hl.1 rfl (lv_room (Nat.le_of_ble_eq_true rfl)) dX5_run_69 ⟨Nat.le_of_ble_eq_true rfl, Nat.le_of_ble_eq_true rfl⟩) hS (fun q _ h => hFc q h) hFc (fun r u t H locs ht hvm hw hB hz1 hk1 hS => ?_)
      obtain ⟨hP1, hD1⟩ := hB
      have hP1 := g5_ht ht hP1
      obtain ⟨z8, (i_7 : HUB z8 f_p e_p.toInt p_u e_p.toInt), y9, rfl⟩ := hw
      have hJ9 := va_join (wr := [(a_g, (oc6 6 5 a_gn e_g)), (a_gn, (arI G 30 f_g)), (a_b, (oc6 5 24 a_bn e_b)), (a_bn, (arI G 120 f_b)), (a_bb, (arJ G 24 f_bb)), (a_j, (oc2 a_as a_sk)), (a_as, (arI G 8 f_as)), (a_sk, (arJ G 50 f_sk)), (a_l, (arW G 6 f_l)), (a_pt, (arI G 200 f_pt))]) hP hD [0, 1, 6, 7] [2, 3, 4, 5, 8, 9, 10, 11, 12, 13] rfl rfl (by decide +kernel) (by decide +kernel) hk1 hFc hP1 hD1
      clear hP hD hPc hDc hFc ht hvm hz1 hk1 hP1 hD1
      obtain ⟨hP, hD⟩ := hJ9
      refine g5_rs [(a_g, (oc6 6 5 a_gn e_g)), (a_gn, (arI G 30 f_g)), (a_b, (oc6 5 24 a_bn e_b)), (a_bn, (arI G 120 f_b)), (a_bb, (arJ G 24 f_bb)), (a_j, (oc2 a_as a_sk)), (a_as, (arI G 8 f_as)), (a_sk, (arJ G 50 f_sk)), (a_l, (arW G 6 f_l)), (a_pt, (arI G 200 f_pt)), (a_k, (oc5 a_h a_j a_pt 0 (-1) (-1) 1000000 0 e_me p_c p_w p_h 0)), (a_h, (oc1 e_wa e_le e_st e_fo e_lc a_l a_g a_b a_s a_p a_w e_gb a_bb)), (a_p, (oc6 8 5 a_pn e_p)), (a_pn, (arI G 40 f_p))] hP hD ?_
      clear hP hD
      intro hP hD
      refine g5_tl (v := z8) y9 ?_
      refine lv_lor hx hb dX5_run_72 ?_
      refine W.eq (g2 := F0 m 73 ls [.long (e_gb ||| z8)]) rfl ?_
      refine lv_lstore (lv' := [(5, .long (e_gb ||| z8)), (0, .ref a_k), (1, .int p_c), (2, .int p_w), (3, .int p_h), (4, .int p_u)]) hx hb dX5_run_73 hl (by decide +kernel) rfl ?_
      clear hl
      intro ls hl
      refine lv_iconst (v := 0) hx hb dX5_run_75 (by decide +kernel) ?_
      refine lv_istore (lv' := [(7, .int 0), (5, .long (e_gb ||| z8)), (0, .ref a_k), (1, .int p_c), (2, .int p_w), (3, .int p_h), (4, .int p_u)]) hx hb dX5_run_76 hl (by decide +kernel) rfl ?_
      clear hl
      intro ls hl
      refine g5_loop (α := (Int32) × (Int32) × (Int32) × (Int32) × (Int32) × (Int32) × (Int32) × (Int32) × (Int32) × (Int32) × (Nat → Int32) × (Nat → Int32) × (Nat → Int64)) (fun (q : (Int32) × (Int32) × (Int32) × (Int32) × (Int32) × (Int32) × (Int32) × (Int32) × (Int32) × (Int32) × (Nat → Int32) × (Nat → Int32) × (Nat → Int64)) (ls : Array Slot) (H : Heap) (locs : List Loc) => match q with | (k_i, k_ln, k_se, k_lh, k_br, k_we, k_me, k_ce, k_wy, k_ho, k_pt, k_as, k_sk) => lv_has ls 9 [(7, .int k_i), (5, .long (e_gb ||| z8)), (0, .ref a_k), (1, .int p_c), (2, .int p_w), (3, .int p_h), (4, .int p_u)] ∧ va_P G.1 vwCl [(a_g, (oc6 6 5 a_gn e_g)), (a_gn, (arI G 30 f_g)), (a_b, (oc6 5 24 a_bn e_b)), (a_bn, (arI G 120 f_b)), (a_bb, (arJ G 24 f_bb)), (a_j, (oc2 a_as a_sk)), (a_as, (arI G 8 k_as)), (a_sk, (arJ G 50 k_sk)), (a_l, (arW G 6 f_l)), (a_pt, (arI G 200 k_pt)), (a_k, (oc5 a_h a_j a_pt k_ln k_se k_lh k_br k_we k_me k_ce k_wy k_ho 0)), (a_h, (oc1 e_wa e_le e_st e_fo e_lc a_l a_g a_b a_s a_p a_w e_gb a_bb)), (a_p, (oc6 8 5 a_pn e_p)), (a_pn, (arI G 40 f_p))] H ∧ va_D A [(a_g, (oc6 6 5 a_gn e_g)), (a_gn, (arI G 30 f_g)), (a_b, (oc6 5 24 a_bn e_b)), (a_bn, (arI G 120 f_b)), (a_bb, (arJ G 24 f_bb)), (a_j, (oc2 a_as a_sk)), (a_as, (arI G 8 k_as)), (a_sk, (arJ G 50 k_sk)), (a_l, (arW G 6 f_l)), (a_pt, (arI G 200 k_pt)), (a_k, (oc5 a_h a_j a_pt k_ln k_se k_lh k_br k_we k_me k_ce k_wy k_ho 0)), (a_h, (oc1 e_wa e_le e_st e_fo e_lc a_l a_g a_b a_s a_p a_w e_gb a_bb)), (a_p, (oc6 8 5 a_pn e_p)), (a_pn, (arI G 40 f_p))] ∧ va_S A s.heap H locs ∧ (0 ≤ k_i.toInt ∧ k_i.toInt ≤ 200) ∧ (0 ≤ k_ln.toInt ∧ k_ln.toInt ≤ 200) ∧ ((-1) ≤ k_lh.toInt ∧ k_lh.toInt ≤ 23) ∧ (0 ≤ k_br.toInt ∧ k_br.toInt ≤ 1000000) ∧ (0 ≤ k_ce.toInt ∧ k_ce.toInt ≤ 63) ∧ (0 ≤ k_wy.toInt ∧ k_wy.toInt ≤ 3) ∧ (0 ≤ k_ho.toInt ∧ k_ho.toInt ≤ 23) ∧ (k_ln.toInt = k_i.toInt) ∧ (k_se = -1) ∧ (∀ j : Nat, (j : Int) < k_ln.toInt → 0 ≤ (k_pt j).toInt ∧ (k_pt j).toInt ≤ 1535) ∧ (LKA f_ro g_w p_u p_c p_w p_h k_i.toInt.toNat k_ce k_wy k_ho k_br k_we k_pt)) (fun (q : (Int32) × (Int32) × (Int32) × (Int32) × (Int32) × (Int32) × (Int32) × (Int32) × (Int32) × (Int32) × (Nat → Int32) × (Nat → Int32) × (Nat → Int64)) => match q with | (k_i, k_ln, k_se, k_lh, k_br, k_we, k_me, k_ce, k_wy, k_ho, k_pt, k_as, k_sk) => Int.toNat (200 - k_i.toInt)) (0, 0, (-1), (-1), 1000000, 0, e_me, p_c, p_w, p_h, f_pt, f_as, f_sk) ⟨lv_sub hl [0, 1, 2, 3, 4, 5, 6] rfl, hP, hD, hS, ⟨by decide, by decide⟩, ⟨by decide, by decide⟩, ⟨by decide, by decide⟩, ⟨by decide, by decide⟩, i_2, i_3, i_4, (by decide +kernel), rfl, fun j h => absurd h (by have z : (0 : Int32).toInt = 0 := (by decide +kernel); omega), by show LKA f_ro g_w p_u p_c p_w p_h 0 _ _ _ _ _ _; exact lka_0⟩ ?_
      rintro ⟨k_i, k_ln, k_se, k_lh, k_br, k_we, k_me, k_ce, k_wy, k_ho, k_pt, k_as, k_sk⟩ ls H locs ⟨hl, hP, hD, hS, (i_10 : 0 ≤ k_i.toInt ∧ k_i.toInt ≤ 200), (i_11 : 0 ≤ k_ln.toInt ∧ k_ln.toInt ≤ 200), (i_12 : (-1) ≤ k_lh.toInt ∧ k_lh.toInt ≤ 23), (i_13 : 0 ≤ k_br.toInt ∧ k_br.toInt ≤ 1000000), (i_14 : 0 ≤ k_ce.toInt ∧ k_ce.toInt ≤ 63), (i_15 : 0 ≤ k_wy.toInt ∧ k_wy.toInt ≤ 3), (i_16 : 0 ≤ k_ho.toInt ∧ k_ho.toInt ≤ 23), (i_17 : k_ln.toInt = k_i.toInt), (i_18 : k_se = -1), (i_19 : ∀ j : Nat, (j : Int) < k_ln.toInt → 0 ≤ (k_pt j).toInt ∧ (k_pt j).toInt ≤ 1535), (i_20 : LKA f_ro g_w p_u p_c p_w p_h k_i.toInt.toNat k_ce k_wy k_ho k_br k_we k_pt)⟩ ih_78_21
      replace hl : lv_has ls 9 [(7, .int k_i), (5, .long (e_gb ||| z8)), (0, .ref a_k), (1, .int p_c), (2, .int p_w), (3, .int p_h), (4, .int p_u)] := hl
      refine g5_rs [(a_g, (oc6 6 5 a_gn e_g)), (a_gn, (arI G 30 f_g)), (a_b, (oc6 5 24 a_bn e_b)), (a_bn, (arI G 120 f_b)), (a_bb, (arJ G 24 f_bb)), (a_j, (oc2 a_as a_sk)), (a_as, (arI G 8 k_as)), (a_sk, (arJ G 50 k_sk)), (a_l, (arW G 6 f_l)), (a_pt, (arI G 200 k_pt)), (a_k, (oc5 a_h a_j a_pt k_ln k_se k_lh k_br k_we k_me k_ce k_wy k_ho 0)), (a_h, (oc1 e_wa e_le e_st e_fo e_lc a_l a_g a_b a_s a_p a_w e_gb a_bb)), (a_p, (oc6 8 5 a_pn e_p)), (a_pn, (arI G 40 f_p))] hP hD ?_
      clear hP hD
      intro hP hD
      refine lv_iload hx hb dX5_run_78 (lv_at hl 0 rfl) ?_
      refine lv_sipush (v := 200) hx hb dX5_run_80 (by decide +kernel) ?_
      refine lv_icmp_ge (tgt := 227) hx hb dX5_run_83 (by decide +kernel) (fun c_22 => ?_) (fun c_22 => ?_)
      ·
        have i_22 : k_i.toInt ≥ 200 := g5_ge (a := k_i.toInt) (b := 200) rfl (by decide +kernel) c_22
        exact W.vret hx hb hr (fun t ht hW => ⟨⟨[(a_k, (oc5 a_h a_j a_pt k_ln k_se k_lh k_br k_we k_me k_ce k_wy k_ho 0)), (a_h, (oc1 e_wa e_le e_st e_fo e_lc a_l a_g a_b a_s a_p a_w e_gb a_bb)), (a_g, (oc6 6 5 a_gn e_g)), (a_gn, (arI G 30 f_g)), (a_b, (oc6 5 24 a_bn e_b)), (a_bn, (arI G 120 f_b)), (a_p, (oc6 8 5 a_pn e_p)), (a_pn, (arI G 40 f_p)), (a_bb, (arJ G 24 f_bb)), (a_j, (oc2 a_as a_sk)), (a_as, (arI G 8 k_as)), (a_sk, (arJ G 50 k_sk)), (a_l, (arW G 6 f_l)), (a_pt, (arI G 200 k_pt))], rfl, ⟨k_ln, k_se, k_lh, k_br, k_we, k_me, k_ce, k_wy, k_ho, 0, k_pt, k_as, k_sk, i_11, ⟨by have zc_o_ov : (0 : Int32).toInt = 0 := (by decide +kernel); omega, by have zc_o_ov : (0 : Int32).toInt = 0 := (by decide +kernel); omega⟩, i_19, lka_end i_20 (by omega) (by omega) (by assumption), rfl⟩, by rw [ht]; exact hP.sub [10, 11, 0, 1, 2, 3, 12, 13, 4, 5, 6, 7, 8, 9] rfl, hD.sub [10, 11, 0, 1, 2, 3, 12, 13, 4, 5, 6, 7, 8, 9] (by decide +kernel) rfl⟩, hS.F ht⟩) hS.2.2 dX5_run_227
      ·
        have i_22 : k_i.toInt < 200 := g5_geN (a := k_i.toInt) (b := 200) rfl (by decide +kernel) c_22
        refine lv_aload_n hx hb dX5_run_86 rfl (lv_at hl 2 rfl) ?_
        refine va_get (D := G.1) (ci := 5) (v := .int 0) (C := RX5) (T := TX5) (N := 13) hx hb hts inG_X5 hown hK hP 10 rfl rfl 12 (by decide +kernel) (hts _ fl_X5_56) (fun _ h9 => h9) rfl dX5_run_87 ?_
        refine lv_if_ne (tgt := 227) hx hb dX5_run_90 (by decide +kernel) (fun c_23 => ?_) (fun c_23 => ?_)
        ·
          exact absurd c_23 (by decide +kernel)
        ·
          refine lv_aload_n hx hb dX5_run_93 rfl (lv_at hl 2 rfl) ?_
          refine va_get (D := G.1) (ci := 5) (v := .int k_ce) (C := RX5) (T := TX5) (N := 13) hx hb hts inG_X5 hown hK hP 10 rfl rfl 9 (by decide +kernel) (hts _ fl_X5_26) (fun _ h9 => h9) rfl dX5_run_94 ?_
          refine lv_aload_n hx hb dX5_run_97 rfl (lv_at hl 2 rfl) ?_
          refine va_get (D := G.1) (ci := 5) (v := .int k_wy) (C := RX5) (T := TX5) (N := 13) hx hb hts inG_X5 hown hK hP 10 rfl rfl 10 (by decide +kernel) (hts _ fl_X5_30) (fun _ h9 => h9) rfl dX5_run_98 ?_
          refine W.eq (g2 := F0 m 101 ls [.int k_wy, .int k_ce]) rfl ?_
          obtain ⟨hPc, hDc, hFc⟩ := g5_sub3 (wc := []) hP hD hS hA [] (by decide +kernel) rfl
          refine va_calli (va_runSN (As := [.int k_ce, .int k_wy]) (rest := []) ⟨hx, hb, hml, hown, hts⟩ (k_beside l G H.size k_ce k_wy i_14) ⟨va_cnB 2 hts gW_X11_beside rfl rfl rfl (hN.1 _ g5_nw_X5_70) (hts _ ini_X11) hs_X11_beside ⟨Nat.le_of_ble_eq_true rfl, Nat.le_of_ble_eq_true rfl⟩, hts _ st_X11_beside, trivial⟩ (g5_preS hPc hK hDc hN hT hS hFc) rfl rfl hl.1 rfl (lv_room (Nat.le_of_ble_eq_true rfl)) dX5_run_101 ⟨Nat.le_of_ble_eq_true rfl, Nat.le_of_ble_eq_true rfl⟩) hS (fun q _ h => hFc q h) hFc (fun r u t H locs ht hvm hw hB hz1 hk1 hS => ?_)
          obtain ⟨hP1, hD1⟩ := hB
          have hP1 := g5_ht ht hP1
          obtain ⟨z26, (i_24 : z26.toInt = bs k_ce.toInt k_wy.toInt), (i_25 : -1 ≤ z26.toInt ∧ z26.toInt ≤ 63), y27, rfl⟩ := hw
          have hJ9 := g5_same hP hk1
          clear hP hPc hDc hFc ht hvm hz1 hk1 hP1 hD1
          have hP := hJ9
          clear hJ9
          refine g5_ti (v := z26) y27 ?_
          refine lv_istore (lv' := [(8, .int z26), (7, .int k_i), (5, .long (e_gb ||| z8)), (0, .ref a_k), (1, .int p_c), (2, .int p_w), (3, .int p_h), (4, .int p_u)]) hx hb dX5_run_104 hl (by decide +kernel) rfl ?_
          clear hl
          intro ls hl
          refine lv_iload hx hb dX5_run_106 (lv_at hl 0 rfl) ?_
          refine lv_iconst (v := (-1)) hx hb dX5_run_108 (by decide +kernel) ?_
          refine lv_icmp_eq (tgt := 127) hx hb dX5_run_109 (by decide +kernel) (fun c_28 => ?_) (fun c_28 => ?_)
          ·
            have i_28 : z26.toInt = (-1) := g5_eq (a := z26.toInt) (b := (-1)) rfl (by decide +kernel) c_28
            exact W.vret hx hb hr (fun t ht hW => ⟨⟨[(a_k, (oc5 a_h a_j a_pt k_ln k_se k_lh k_br k_we k_me k_ce k_wy k_ho 0)), (a_h, (oc1 e_wa e_le e_st e_fo e_lc a_l a_g a_b a_s a_p a_w e_gb a_bb)), (a_g, (oc6 6 5 a_gn e_g)), (a_gn, (arI G 30 f_g)), (a_b, (oc6 5 24 a_bn e_b)), (a_bn, (arI G 120 f_b)), (a_p, (oc6 8 5 a_pn e_p)), (a_pn, (arI G 40 f_p)), (a_bb, (arJ G 24 f_bb)), (a_j, (oc2 a_as a_sk)), (a_as, (arI G 8 k_as)), (a_sk, (arJ G 50 k_sk)), (a_l, (arW G 6 f_l)), (a_pt, (arI G 200 k_pt))], rfl, ⟨k_ln, k_se, k_lh, k_br, k_we, k_me, k_ce, k_wy, k_ho, 0, k_pt, k_as, k_sk, i_11, ⟨by have zc_o_ov : (0 : Int32).toInt = 0 := (by decide +kernel); omega, by have zc_o_ov : (0 : Int32).toInt = 0 := (by decide +kernel); omega⟩, i_19, lka_wall i_20 (by omega) (by omega) (by assumption) (Or.inl (by rw [← i_24]; omega)), rfl⟩, by rw [ht]; exact hP.sub [10, 11, 0, 1, 2, 3, 12, 13, 4, 5, 6, 7, 8, 9] rfl, hD.sub [10, 11, 0, 1, 2, 3, 12, 13, 4, 5, 6, 7, 8, 9] (by decide +kernel) rfl⟩, hS.F ht⟩) hS.2.2 dX5_run_127
          ·
            have n_28 : gNe (z26.toInt) ((-1)) := g5_eqN (a := z26.toInt) (b := (-1)) rfl (by decide +kernel) c_28
            have i_28 : z26.toInt ≥ 0 := by have z := g5_eqN (a := z26.toInt) (b := (-1)) (by rfl) (by decide +kernel) c_28; omega
            refine lv_aload_n hx hb dX5_run_112 rfl (lv_at hl 3 rfl) ?_
            refine va_get (D := G.1) (ci := 5) (v := .ref a_h) (C := RX5) (T := TX5) (N := 13) hx hb hts inG_X5 hown hK hP 10 rfl rfl 0 (by decide +kernel) (hts _ fl_X5_22) (fun _ h9 => h9) rfl dX5_run_113 ?_
            refine va_get (D := G.1) (ci := 1) (v := .long e_wa) (C := RX1) (T := TX1) (N := 13) hx hb hts inG_X1 hown hK hP 11 rfl rfl 0 (by decide +kernel) (hts _ fl_X5_74) (fun _ h9 => h9) rfl dX5_run_116 ?_
            refine lv_iload hx hb dX5_run_119 (lv_at hl 0 rfl) ?_
            refine W.eq (g2 := F0 m 121 ls [.int z26, .long e_wa]) rfl ?_
            obtain ⟨hPc, hDc, hFc⟩ := g5_sub3 (wc := []) hP hD hS hA [] (by decide +kernel) rfl
            refine va_calli (va_runSN (As := [.long e_wa, .int z26]) (rest := []) ⟨hx, hb, hml, hown, hts⟩ (k_isOn l G H.size z26 e_wa ⟨by omega, by omega⟩) ⟨va_cnB 2 hts gW_X11_isOn rfl rfl rfl (hN.1 _ g5_nw_X5_77) (hts _ ini_X11) hs_X11_isOn ⟨Nat.le_of_ble_eq_true rfl, Nat.le_of_ble_eq_true rfl⟩, hts _ st_X11_isOn, trivial⟩ (g5_preS hPc hK hDc hN hT hS hFc) rfl rfl hl.1 rfl (lv_room (Nat.le_of_ble_eq_true rfl)) dX5_run_121 ⟨Nat.le_of_ble_eq_true rfl, Nat.le_of_ble_eq_true rfl⟩) hS (fun q _ h => hFc q h) hFc (fun r u t H locs ht hvm hw hB hz1 hk1 hS => ?_)
            obtain ⟨hP1, hD1⟩ := hB
            have hP1 := g5_ht ht hP1
            rcases hw with ⟨(i_29 : onB e_wa z26.toInt = false), rfl, rfl⟩ | ⟨(i_30 : onB e_wa z26.toInt = true), rfl, rfl⟩
            ·
              have hJ9 := g5_same hP hk1
              clear hP hPc hDc hFc ht hvm hz1 hk1 hP1 hD1
              have hP := hJ9
              clear hJ9
              refine lv_if_eq (tgt := 128) hx hb dX5_run_124 (by decide +kernel) (fun c_31 => ?_) (fun c_31 => ?_)
              ·
                refine lv_aload_n hx hb dX5_run_128 rfl (lv_at hl 3 rfl) ?_
                refine lv_iload hx hb dX5_run_129 (lv_at hl 0 rfl) ?_
                refine va_put (D := G.1) (ci := 5) (v := .int z26) (ty := .int) (C := RX5) (T := TX5) (N := 13) hx hb hts inG_X5 tyX5 tyX5_ok nmX5 hown hK hP hD hS 10 rfl rfl 9 (by decide +kernel) (hts _ fl_X5_26) (fun _ h9 => h9) rfl (by decide +kernel) rfl rfl (Nat.le_of_ble_eq_true rfl) dX5_run_131 ?_
                clear hP hD hS
                intro H locs hP hD hS
                refine g5_rs [(a_g, (oc6 6 5 a_gn e_g)), (a_gn, (arI G 30 f_g)), (a_b, (oc6 5 24 a_bn e_b)), (a_bn, (arI G 120 f_b)), (a_bb, (arJ G 24 f_bb)), (a_j, (oc2 a_as a_sk)), (a_as, (arI G 8 k_as)), (a_sk, (arJ G 50 k_sk)), (a_l, (arW G 6 f_l)), (a_pt, (arI G 200 k_pt)), (a_k, (oc5 a_h a_j a_pt k_ln k_se k_lh k_br k_we k_me z26 k_wy k_ho 0)), (a_h, (oc1 e_wa e_le e_st e_fo e_lc a_l a_g a_b a_s a_p a_w e_gb a_bb)), (a_p, (oc6 8 5 a_pn e_p)), (a_pn, (arI G 40 f_p))] hP hD ?_
                clear hP hD
                intro hP hD
                refine lv_aload_n hx hb dX5_run_134 rfl (lv_at hl 3 rfl) ?_
                refine W.eq (g2 := F0 m 135 ls [.ref a_k]) rfl ?_
                refine lv_aload_n hx hb dX5_run_135 rfl (lv_at hl 3 rfl) ?_
                refine va_get (D := G.1) (ci := 5) (v := .int k_ho) (C := RX5) (T := TX5) (N := 13) hx hb hts inG_X5 hown hK hP 10 rfl rfl 11 (by decide +kernel) (hts _ fl_X5_33) (fun _ h9 => h9) rfl dX5_run_136 ?_
                refine va_put (D := G.1) (ci := 5) (v := .int k_ho) (ty := .int) (C := RX5) (T := TX5) (N := 13) hx hb hts inG_X5 tyX5 tyX5_ok nmX5 hown hK hP hD hS 10 rfl rfl 5 (by decide +kernel) (hts _ fl_X5_42) (fun _ h9 => h9) rfl (by decide +kernel) rfl rfl (Nat.le_of_ble_eq_true rfl) dX5_run_139 ?_
                clear hP hD hS
                intro H locs hP hD hS
                refine g5_rs [(a_g, (oc6 6 5 a_gn e_g)), (a_gn, (arI G 30 f_g)), (a_b, (oc6 5 24 a_bn e_b)), (a_bn, (arI G 120 f_b)), (a_bb, (arJ G 24 f_bb)), (a_j, (oc2 a_as a_sk)), (a_as, (arI G 8 k_as)), (a_sk, (arJ G 50 k_sk)), (a_l, (arW G 6 f_l)), (a_pt, (arI G 200 k_pt)), (a_k, (oc5 a_h a_j a_pt k_ln k_se k_ho k_br k_we k_me z26 k_wy k_ho 0)), (a_h, (oc1 e_wa e_le e_st e_fo e_lc a_l a_g a_b a_s a_p a_w e_gb a_bb)), (a_p, (oc6 8 5 a_pn e_p)), (a_pn, (arI G 40 f_p))] hP hD ?_
                clear hP hD
                intro hP hD
                refine lv_aload_n hx hb dX5_run_142 rfl (lv_at hl 3 rfl) ?_
                refine va_get (D := G.1) (ci := 5) (v := .ref a_pt) (C := RX5) (T := TX5) (N := 13) hx hb hts inG_X5 hown hK hP 10 rfl rfl 2 (by decide +kernel) (hts _ fl_X5_18) (fun _ h9 => h9) rfl dX5_run_143 ?_
                refine W.eq (g2 := F0 m 146 ls [.ref a_pt]) rfl ?_
                refine lv_iload hx hb dX5_run_146 (lv_at hl 1 rfl) ?_
                refine lv_aload_n hx hb dX5_run_148 rfl (lv_at hl 3 rfl) ?_
                refine va_get (D := G.1) (ci := 5) (v := .int k_ho) (C := RX5) (T := TX5) (N := 13) hx hb hts inG_X5 hown hK hP 10 rfl rfl 11 (by decide +kernel) (hts _ fl_X5_33) (fun _ h9 => h9) rfl dX5_run_149 ?_
                refine lv_bipush (v := 64) hx hb dX5_run_152 (by decide +kernel) ?_
                refine lv_imul hx hb dX5_run_154 ?_
                have t_32 : (k_ho * 64).toInt = k_ho.toInt * 64 := g5_imul (a := k_ho.toInt) (b := 64) (by rfl) (by decide +kernel) (by omega) (by omega)
                refine W.eq (g2 := F0 m 155 ls [.int (k_ho * 64), .int k_i, .ref a_pt]) rfl ?_
                refine lv_aload_n hx hb dX5_run_155 rfl (lv_at hl 3 rfl) ?_
                refine va_get (D := G.1) (ci := 5) (v := .int z26) (C := RX5) (T := TX5) (N := 13) hx hb hts inG_X5 hown hK hP 10 rfl rfl 9 (by decide +kernel) (hts _ fl_X5_26) (fun _ h9 => h9) rfl dX5_run_156 ?_
                refine lv_iadd hx hb dX5_run_159 ?_
                have t_33 : ((k_ho * 64) + z26).toInt = (k_ho * 64).toInt + z26.toInt := g5_iadd (a := (k_ho * 64).toInt) (b := z26.toInt) (by rfl) (by rfl) (by omega) (by omega)
                refine va_iast hx hb hK hP hD hS 9 0 rfl rfl (i := k_i) (x := ((k_ho * 64) + z26)) (vp_in_iff.mpr ⟨by omega, by omega⟩) dX5_run_160 ?_
                clear hP hD hS
                intro H locs hP hD hS
                refine g5_rs [(a_g, (oc6 6 5 a_gn e_g)), (a_gn, (arI G 30 f_g)), (a_b, (oc6 5 24 a_bn e_b)), (a_bn, (arI G 120 f_b)), (a_bb, (arJ G 24 f_bb)), (a_j, (oc2 a_as a_sk)), (a_as, (arI G 8 k_as)), (a_sk, (arJ G 50 k_sk)), (a_l, (arW G 6 f_l)), (a_pt, (arI G 200 (upd k_pt k_i.toNatClampNeg ((k_ho * 64) + z26)))), (a_k, (oc5 a_h a_j a_pt k_ln k_se k_ho k_br k_we k_me z26 k_wy k_ho 0)), (a_h, (oc1 e_wa e_le e_st e_fo e_lc a_l a_g a_b a_s a_p a_w e_gb a_bb)), (a_p, (oc6 8 5 a_pn e_p)), (a_pn, (arI G 40 f_p))] hP hD ?_
                clear hP hD
                intro hP hD
                refine lv_aload_n hx hb dX5_run_161 rfl (lv_at hl 3 rfl) ?_
                refine W.eq (g2 := F0 m 162 ls [.ref a_k]) rfl ?_
                refine lv_iload hx hb dX5_run_162 (lv_at hl 1 rfl) ?_
                refine lv_iconst (v := 1) hx hb dX5_run_164 (by decide +kernel) ?_
                refine lv_iadd hx hb dX5_run_165 ?_
                have t_34 : (k_i + 1).toInt = k_i.toInt + 1 := g5_iadd (a := k_i.toInt) (b := 1) (by rfl) (by decide +kernel) (by omega) (by omega)
                refine va_put (D := G.1) (ci := 5) (v := .int (k_i + 1)) (ty := .int) (C := RX5) (T := TX5) (N := 13) hx hb hts inG_X5 tyX5 tyX5_ok nmX5 hown hK hP hD hS 10 rfl rfl 3 (by decide +kernel) (hts _ fl_X5_36) (fun _ h9 => h9) rfl (by decide +kernel) rfl rfl (Nat.le_of_ble_eq_true rfl) dX5_run_166 ?_
                clear hP hD hS
                intro H locs hP hD hS
                refine g5_rs [(a_g, (oc6 6 5 a_gn e_g)), (a_gn, (arI G 30 f_g)), (a_b, (oc6 5 24 a_bn e_b)), (a_bn, (arI G 120 f_b)), (a_bb, (arJ G 24 f_bb)), (a_j, (oc2 a_as a_sk)), (a_as, (arI G 8 k_as)), (a_sk, (arJ G 50 k_sk)), (a_l, (arW G 6 f_l)), (a_pt, (arI G 200 (upd k_pt k_i.toNatClampNeg ((k_ho * 64) + z26)))), (a_k, (oc5 a_h a_j a_pt (k_i + 1) k_se k_ho k_br k_we k_me z26 k_wy k_ho 0)), (a_h, (oc1 e_wa e_le e_st e_fo e_lc a_l a_g a_b a_s a_p a_w e_gb a_bb)), (a_p, (oc6 8 5 a_pn e_p)), (a_pn, (arI G 40 f_p))] hP hD ?_
                clear hP hD
                intro hP hD
                refine lv_aload_n hx hb dX5_run_169 rfl (lv_at hl 3 rfl) ?_
                refine W.eq (g2 := F0 m 170 ls [.ref a_k]) rfl ?_
                refine va_get (D := G.1) (ci := 5) (v := .ref a_h) (C := RX5) (T := TX5) (N := 13) hx hb hts inG_X5 hown hK hP 10 rfl rfl 0 (by decide +kernel) (hts _ fl_X5_22) (fun _ h9 => h9) rfl dX5_run_170 ?_
                refine va_get (D := G.1) (ci := 1) (v := .ref a_bb) (C := RX1) (T := TX1) (N := 13) hx hb hts inG_X1 hown hK hP 11 rfl rfl 12 (by decide +kernel) (hts _ fl_X5_81) (fun _ h9 => h9) rfl dX5_run_173 ?_
                refine lv_aload_n hx hb dX5_run_176 rfl (lv_at hl 3 rfl) ?_
                refine va_get (D := G.1) (ci := 5) (v := .int k_ho) (C := RX5) (T := TX5) (N := 13) hx hb hts inG_X5 hown hK hP 10 rfl rfl 11 (by decide +kernel) (hts _ fl_X5_33) (fun _ h9 => h9) rfl dX5_run_177 ?_
                refine va_lald hx hb hK hP 4 1 rfl rfl (i := k_ho) (vp_in_iff.mpr ⟨by omega, by omega⟩) dX5_run_180 ?_
                refine W.eq (g2 := F0 m 181 ls [.long (f_bb k_ho.toNatClampNeg)]) rfl ?_
                refine lv_lload hx hb dX5_run_181 (lv_at hl 2 rfl) ?_
                refine lv_lor hx hb dX5_run_183 ?_
                refine lv_aload_n hx hb dX5_run_184 rfl (lv_at hl 3 rfl) ?_
                refine va_get (D := G.1) (ci := 5) (v := .int z26) (C := RX5) (T := TX5) (N := 13) hx hb hts inG_X5 hown hK hP 10 rfl rfl 9 (by decide +kernel) (hts _ fl_X5_26) (fun _ h9 => h9) rfl dX5_run_185 ?_
                obtain ⟨hPc, hDc, hFc⟩ := g5_sub3 (wc := []) hP hD hS hA [] (by decide +kernel) rfl
                refine va_calli (va_runSN (As := [.long ((f_bb k_ho.toNatClampNeg) ||| (e_gb ||| z8)), .int z26]) (rest := []) ⟨hx, hb, hml, hown, hts⟩ (k_isOn l G H.size z26 ((f_bb k_ho.toNatClampNeg) ||| (e_gb ||| z8)) ⟨by omega, by omega⟩) ⟨va_cnB 2 hts gW_X11_isOn rfl rfl rfl (hN.1 _ g5_nw_X5_77) (hts _ ini_X11) hs_X11_isOn ⟨Nat.le_of_ble_eq_true rfl, Nat.le_of_ble_eq_true rfl⟩, hts _ st_X11_isOn, trivial⟩ (g5_preS hPc hK hDc hN hT hS hFc) rfl rfl hl.1 rfl (lv_room (Nat.le_of_ble_eq_true rfl)) dX5_run_188 ⟨Nat.le_of_ble_eq_true rfl, Nat.le_of_ble_eq_true rfl⟩) hS (fun q _ h => hFc q h) hFc (fun r u t H locs ht hvm hw hB hz1 hk1 hS => ?_)
                obtain ⟨hP1, hD1⟩ := hB
                have hP1 := g5_ht ht hP1
                rcases hw with ⟨(i_35 : onB ((f_bb k_ho.toNatClampNeg) ||| (e_gb ||| z8)) z26.toInt = false), rfl, rfl⟩ | ⟨(i_36 : onB ((f_bb k_ho.toNatClampNeg) ||| (e_gb ||| z8)) z26.toInt = true), rfl, rfl⟩
                ·
                  have hJ9 := g5_same hP hk1
                  clear hP hPc hDc hFc ht hvm hz1 hk1 hP1 hD1
                  have hP := hJ9
                  clear hJ9
                  obtain ⟨hbb_n, hgs_n⟩ := onB_orF i_35
                  obtain ⟨hgb_n, hsb_n⟩ := onB_orF hgs_n
                  have hng := gl_bit e_qg (ce := z26) (by omega) hgb_n
                  have hns := sp_bit e_qp (ce := z26) i_7 (by omega) hsb_n
                  refine lv_if_eq (tgt := 221) hx hb dX5_run_191 (by decide +kernel) (fun c_37 => ?_) (fun c_37 => ?_)
                  ·
                    refine lv_iinc (v := (k_i + 1)) (lv' := [(7, .int (k_i + 1)), (8, .int z26), (5, .long (e_gb ||| z8)), (0, .ref a_k), (1, .int p_c), (2, .int p_w), (3, .int p_h), (4, .int p_u)]) hx hb dX5_run_221 hl (k := 1) rfl rfl (by decide +kernel) rfl ?_
                    clear hl
                    intro ls hl
                    have t_38 : (k_i + 1).toInt = k_i.toInt + 1 := g5_iadd (a := k_i.toInt) (b := 1) rfl (by decide +kernel) (by omega) (by omega)
                    refine lv_goto (tgt := 78) hx hb dX5_run_224 (by decide +kernel) ?_
                    exact ih_78_21 ((k_i + 1), (k_i + 1), k_se, k_ho, k_br, k_we, k_me, z26, k_wy, k_ho, (upd k_pt k_i.toNatClampNeg ((k_ho * 64) + z26)), k_as, k_sk) ls H locs (show Int.toNat (200 - (k_i + 1).toInt) < Int.toNat (200 - k_i.toInt) from g_up (show k_i.toInt < (k_i + 1).toInt by omega) (show k_i.toInt < 200 by omega)) ⟨lv_sub hl [0, 2, 3, 4, 5, 6, 7] rfl, hP, hD, hS, ⟨by omega, by omega⟩, ⟨by omega, by omega⟩, ⟨by omega, by omega⟩, i_13, ⟨by omega, by omega⟩, i_15, i_16, by omega, by assumption, g_rows (k := k_i) (fun j hj => i_19 j (by omega)) (by omega) (by omega) (by omega), lka_go (n := (k_i + 1)) i_20 (by rw [← i_24]; exact fun q9 => q9.elim (fun q8 => by unfold gNe at *; omega) (wl_n e_qh (by omega) (Or.inr i_29))) i_24 (by omega) rfl (by omega) (bd_bit e_qb (by omega) (by omega) hbb_n) (met_n hng hns) (by omega)⟩
                  ·
                    exact absurd c_37 (by decide +kernel)
                ·
                  have hJ9 := g5_same hP hk1
                  clear hP hPc hDc hFc ht hvm hz1 hk1 hP1 hD1
                  have hP := hJ9
                  clear hJ9
                  refine lv_if_eq (tgt := 221) hx hb dX5_run_191 (by decide +kernel) (fun c_39 => ?_) (fun c_39 => ?_)
                  ·
                    exact absurd c_39 (by decide +kernel)
                  ·
                    refine lv_aload_n hx hb dX5_run_194 rfl (lv_at hl 3 rfl) ?_
                    obtain ⟨hPc, hDc, hFc⟩ := g5_sub3 (wc := [(a_k, (oc5 a_h a_j a_pt (k_i + 1) k_se k_ho k_br k_we k_me z26 k_wy k_ho 0)), (a_h, (oc1 e_wa e_le e_st e_fo e_lc a_l a_g a_b a_s a_p a_w e_gb a_bb)), (a_b, (oc6 5 24 a_bn e_b)), (a_bn, (arI G 120 f_b)), (a_j, (oc2 a_as a_sk)), (a_as, (arI G 8 k_as)), (a_sk, (arJ G 50 k_sk)), (a_l, (arW G 6 f_l))]) hP hD hS hA [10, 11, 2, 3, 5, 6, 7, 8] (by decide +kernel) rfl
                    refine va_callv (va_runV (As := []) (rest := []) ⟨hx, hb, hml, hown, hts⟩ (k_meetBodiesXN l G a_k a_h a_b a_bn a_j a_as a_sk a_l a_pt a_g a_s a_p a_w a_bb H.size (k_i + 1) k_se k_ho k_br k_we k_me z26 k_wy k_ho 0 e_le e_st e_fo e_lc e_b e_wa e_gb f_b k_as k_sk f_l f_ro g_w i_13 ⟨by omega, by omega⟩ i_15 i_16 ⟨by decide, by decide⟩ h_e_b (e_f) (e_w) (e_f1) (e_ht)) (cwV 0 hts gV_X5_85 rfl rfl rfl hv_X5_meetBodies ⟨Nat.le_of_ble_eq_true rfl, Nat.le_of_ble_eq_true rfl⟩) (g5_preV hPc hK hDc hN hT hS hFc (ci := 5) (q0 := 0) rfl rfl) rfl rfl hl.1 rfl (lv_room (Nat.le_of_ble_eq_true rfl)) dX5_run_195 ⟨Nat.le_of_ble_eq_true rfl, Nat.le_of_ble_eq_true rfl⟩) hS (fun q _ h => hFc q h) hFc (fun u t H locs ht hvm hw hB hz1 hk1 hS => ?_)
                    obtain ⟨hP1, hD1⟩ := hB
                    have hP1 := g5_ht ht hP1
                    rcases hw with ⟨z42, z43, z44, (i_40 : 0 ≤ z42.toInt ∧ z42.toInt ≤ 4), (i_41 : z42 = seenF f_ro g_w z26 k_ho k_wy (k_i + 1) k_br), rfl⟩ | ⟨z46, z47, (i_45 : seenF f_ro g_w z26 k_ho k_wy (k_i + 1) k_br = -1), rfl⟩
                    ·
                      have hJ9 := va_join (wr := [(a_g, (oc6 6 5 a_gn e_g)), (a_gn, (arI G 30 f_g)), (a_bb, (arJ G 24 f_bb)), (a_pt, (arI G 200 (upd k_pt k_i.toNatClampNeg ((k_ho * 64) + z26)))), (a_p, (oc6 8 5 a_pn e_p)), (a_pn, (arI G 40 f_p))]) hP hD [10, 11, 2, 3, 5, 6, 7, 8] [0, 1, 4, 9, 12, 13] rfl rfl (by decide +kernel) (by decide +kernel) hk1 hFc hP1 hD1
                      clear hP hD hPc hDc hFc ht hvm hz1 hk1 hP1 hD1
                      obtain ⟨hP, hD⟩ := hJ9
                      refine g5_rs [(a_g, (oc6 6 5 a_gn e_g)), (a_gn, (arI G 30 f_g)), (a_bb, (arJ G 24 f_bb)), (a_pt, (arI G 200 (upd k_pt k_i.toNatClampNeg ((k_ho * 64) + z26)))), (a_p, (oc6 8 5 a_pn e_p)), (a_pn, (arI G 40 f_p)), (a_k, (oc5 a_h a_j a_pt (k_i + 1) z42 k_ho k_br k_we k_me z26 k_wy k_ho 1)), (a_h, (oc1 e_wa e_le e_st e_fo e_lc a_l a_g a_b a_s a_p a_w e_gb a_bb)), (a_b, (oc6 5 24 a_bn e_b)), (a_bn, (arI G 120 f_b)), (a_j, (oc2 a_as a_sk)), (a_as, (arI G 8 z43)), (a_sk, (arJ G 50 z44)), (a_l, (arW G 6 f_l))] hP hD ?_
                      clear hP hD
                      intro hP hD
                      refine lv_aload_n hx hb dX5_run_198 rfl (lv_at hl 3 rfl) ?_
                      refine va_get (D := G.1) (ci := 5) (v := .int 1) (C := RX5) (T := TX5) (N := 13) hx hb hts inG_X5 hown hK hP 6 rfl rfl 12 (by decide +kernel) (hts _ fl_X5_56) (fun _ h9 => h9) rfl dX5_run_199 ?_
                      refine lv_if_ne (tgt := 221) hx hb dX5_run_202 (by decide +kernel) (fun c_48 => ?_) (fun c_48 => ?_)
                      ·
                        refine lv_iinc (v := (k_i + 1)) (lv' := [(7, .int (k_i + 1)), (8, .int z26), (5, .long (e_gb ||| z8)), (0, .ref a_k), (1, .int p_c), (2, .int p_w), (3, .int p_h), (4, .int p_u)]) hx hb dX5_run_221 hl (k := 1) rfl rfl (by decide +kernel) rfl ?_
                        clear hl
                        intro ls hl
                        have t_49 : (k_i + 1).toInt = k_i.toInt + 1 := g5_iadd (a := k_i.toInt) (b := 1) rfl (by decide +kernel) (by omega) (by omega)
                        refine lv_goto (tgt := 78) hx hb dX5_run_224 (by decide +kernel) ?_
                        refine lv_iload hx hb dX5_run_78 (lv_at hl 0 rfl) ?_
                        refine lv_sipush (v := 200) hx hb dX5_run_80 (by decide +kernel) ?_
                        refine W.eq (g2 := F0 m 83 ls [.int 200, .int (k_i + 1)]) rfl ?_
                        refine lv_icmp_ge (tgt := 227) hx hb dX5_run_83 (by decide +kernel) (fun c_50 => ?_) (fun c_50 => ?_)
                        ·
                          have i_50 : (k_i.toInt + 1) ≥ 200 := by have z := g5_ge (a := (k_i + 1).toInt) (b := 200) (by rfl) (by decide +kernel) c_50; omega
                          exact W.vret hx hb hr (fun t ht hW => ⟨⟨[(a_k, (oc5 a_h a_j a_pt (k_i + 1) z42 k_ho k_br k_we k_me z26 k_wy k_ho 1)), (a_h, (oc1 e_wa e_le e_st e_fo e_lc a_l a_g a_b a_s a_p a_w e_gb a_bb)), (a_g, (oc6 6 5 a_gn e_g)), (a_gn, (arI G 30 f_g)), (a_b, (oc6 5 24 a_bn e_b)), (a_bn, (arI G 120 f_b)), (a_p, (oc6 8 5 a_pn e_p)), (a_pn, (arI G 40 f_p)), (a_bb, (arJ G 24 f_bb)), (a_j, (oc2 a_as a_sk)), (a_as, (arI G 8 z43)), (a_sk, (arJ G 50 z44)), (a_l, (arW G 6 f_l)), (a_pt, (arI G 200 (upd k_pt k_i.toNatClampNeg ((k_ho * 64) + z26))))], rfl, ⟨(k_i + 1), z42, k_ho, k_br, k_we, k_me, z26, k_wy, k_ho, 1, (upd k_pt k_i.toNatClampNeg ((k_ho * 64) + z26)), z43, z44, ⟨by omega, by omega⟩, ⟨by have zc_o_ov : (1 : Int32).toInt = 1 := (by decide +kernel); omega, by have zc_o_ov : (1 : Int32).toInt = 1 := (by decide +kernel); omega⟩, g_rows (k := k_i) (fun j hj => i_19 j (by omega)) (by omega) (by omega) (by omega), lka_body (n := (k_i + 1)) i_20 (by omega) (by rw [← i_24]; exact fun q9 => q9.elim (fun q8 => by unfold gNe at *; omega) (wl_n e_qh (by omega) (Or.inr i_29))) i_24 (by omega) rfl (by omega) i_41 (by omega), rfl⟩, by rw [ht]; exact hP.sub [6, 7, 0, 1, 8, 9, 4, 5, 2, 10, 11, 12, 13, 3] rfl, hD.sub [6, 7, 0, 1, 8, 9, 4, 5, 2, 10, 11, 12, 13, 3] (by decide +kernel) rfl⟩, hS.F ht⟩) hS.2.2 dX5_run_227
                        ·
                          have i_50 : (k_i.toInt + 1) < 200 := by have z := g5_geN (a := (k_i + 1).toInt) (b := 200) (by rfl) (by decide +kernel) c_50; omega
                          refine lv_aload_n hx hb dX5_run_86 rfl (lv_at hl 3 rfl) ?_
                          refine va_get (D := G.1) (ci := 5) (v := .int 1) (C := RX5) (T := TX5) (N := 13) hx hb hts inG_X5 hown hK hP 6 rfl rfl 12 (by decide +kernel) (hts _ fl_X5_56) (fun _ h9 => h9) rfl dX5_run_87 ?_
                          refine lv_if_ne (tgt := 227) hx hb dX5_run_90 (by decide +kernel) (fun c_51 => ?_) (fun c_51 => ?_)
                          ·
                            exact W.vret hx hb hr (fun t ht hW => ⟨⟨[(a_k, (oc5 a_h a_j a_pt (k_i + 1) z42 k_ho k_br k_we k_me z26 k_wy k_ho 1)), (a_h, (oc1 e_wa e_le e_st e_fo e_lc a_l a_g a_b a_s a_p a_w e_gb a_bb)), (a_g, (oc6 6 5 a_gn e_g)), (a_gn, (arI G 30 f_g)), (a_b, (oc6 5 24 a_bn e_b)), (a_bn, (arI G 120 f_b)), (a_p, (oc6 8 5 a_pn e_p)), (a_pn, (arI G 40 f_p)), (a_bb, (arJ G 24 f_bb)), (a_j, (oc2 a_as a_sk)), (a_as, (arI G 8 z43)), (a_sk, (arJ G 50 z44)), (a_l, (arW G 6 f_l)), (a_pt, (arI G 200 (upd k_pt k_i.toNatClampNeg ((k_ho * 64) + z26))))], rfl, ⟨(k_i + 1), z42, k_ho, k_br, k_we, k_me, z26, k_wy, k_ho, 1, (upd k_pt k_i.toNatClampNeg ((k_ho * 64) + z26)), z43, z44, ⟨by omega, by omega⟩, ⟨by have zc_o_ov : (1 : Int32).toInt = 1 := (by decide +kernel); omega, by have zc_o_ov : (1 : Int32).toInt = 1 := (by decide +kernel); omega⟩, g_rows (k := k_i) (fun j hj => i_19 j (by omega)) (by omega) (by omega) (by omega), lka_body (n := (k_i + 1)) i_20 (by omega) (by rw [← i_24]; exact fun q9 => q9.elim (fun q8 => by unfold gNe at *; omega) (wl_n e_qh (by omega) (Or.inr i_29))) i_24 (by omega) rfl (by omega) i_41 (by omega), rfl⟩, by rw [ht]; exact hP.sub [6, 7, 0, 1, 8, 9, 4, 5, 2, 10, 11, 12, 13, 3] rfl, hD.sub [6, 7, 0, 1, 8, 9, 4, 5, 2, 10, 11, 12, 13, 3] (by decide +kernel) rfl⟩, hS.F ht⟩) hS.2.2 dX5_run_227
                          ·
                            exact absurd c_51 (by decide +kernel)
                      ·
                        exact absurd c_48 (by decide +kernel)
                    ·
                      have hJ9 := va_join (wr := [(a_g, (oc6 6 5 a_gn e_g)), (a_gn, (arI G 30 f_g)), (a_bb, (arJ G 24 f_bb)), (a_pt, (arI G 200 (upd k_pt k_i.toNatClampNeg ((k_ho * 64) + z26)))), (a_p, (oc6 8 5 a_pn e_p)), (a_pn, (arI G 40 f_p))]) hP hD [10, 11, 2, 3, 5, 6, 7, 8] [0, 1, 4, 9, 12, 13] rfl rfl (by decide +kernel) (by decide +kernel) hk1 hFc hP1 hD1
                      clear hP hD hPc hDc hFc ht hvm hz1 hk1 hP1 hD1
                      obtain ⟨hP, hD⟩ := hJ9
                      refine g5_rs [(a_g, (oc6 6 5 a_gn e_g)), (a_gn, (arI G 30 f_g)), (a_bb, (arJ G 24 f_bb)), (a_pt, (arI G 200 (upd k_pt k_i.toNatClampNeg ((k_ho * 64) + z26)))), (a_p, (oc6 8 5 a_pn e_p)), (a_pn, (arI G 40 f_p)), (a_k, (oc5 a_h a_j a_pt (k_i + 1) k_se k_ho k_br k_we k_me z26 k_wy k_ho 0)), (a_h, (oc1 e_wa e_le e_st e_fo e_lc a_l a_g a_b a_s a_p a_w e_gb a_bb)), (a_b, (oc6 5 24 a_bn e_b)), (a_bn, (arI G 120 f_b)), (a_j, (oc2 a_as a_sk)), (a_as, (arI G 8 z46)), (a_sk, (arJ G 50 z47)), (a_l, (arW G 6 f_l))] hP hD ?_
                      clear hP hD
                      intro hP hD
                      refine lv_aload_n hx hb dX5_run_198 rfl (lv_at hl 3 rfl) ?_
                      refine va_get (D := G.1) (ci := 5) (v := .int 0) (C := RX5) (T := TX5) (N := 13) hx hb hts inG_X5 hown hK hP 6 rfl rfl 12 (by decide +kernel) (hts _ fl_X5_56) (fun _ h9 => h9) rfl dX5_run_199 ?_
                      refine lv_if_ne (tgt := 221) hx hb dX5_run_202 (by decide +kernel) (fun c_52 => ?_) (fun c_52 => ?_)
                      ·
                        exact absurd c_52 (by decide +kernel)
                      ·
                        refine lv_lload hx hb dX5_run_205 (lv_at hl 2 rfl) ?_
                        refine lv_aload_n hx hb dX5_run_207 rfl (lv_at hl 3 rfl) ?_
                        refine va_get (D := G.1) (ci := 5) (v := .int z26) (C := RX5) (T := TX5) (N := 13) hx hb hts inG_X5 hown hK hP 6 rfl rfl 9 (by decide +kernel) (hts _ fl_X5_26) (fun _ h9 => h9) rfl dX5_run_208 ?_
                        obtain ⟨hPc, hDc, hFc⟩ := g5_sub3 (wc := []) hP hD hS hA [] (by decide +kernel) rfl
                        refine va_calli (va_runSN (As := [.long (e_gb ||| z8), .int z26]) (rest := []) ⟨hx, hb, hml, hown, hts⟩ (k_isOn l G H.size z26 (e_gb ||| z8) ⟨by omega, by omega⟩) ⟨va_cnB 2 hts gW_X11_isOn rfl rfl rfl (hN.1 _ g5_nw_X5_77) (hts _ ini_X11) hs_X11_isOn ⟨Nat.le_of_ble_eq_true rfl, Nat.le_of_ble_eq_true rfl⟩, hts _ st_X11_isOn, trivial⟩ (g5_preS hPc hK hDc hN hT hS hFc) rfl rfl hl.1 rfl (lv_room (Nat.le_of_ble_eq_true rfl)) dX5_run_211 ⟨Nat.le_of_ble_eq_true rfl, Nat.le_of_ble_eq_true rfl⟩) hS (fun q _ h => hFc q h) hFc (fun r u t H locs ht hvm hw hB hz1 hk1 hS => ?_)
                        obtain ⟨hP1, hD1⟩ := hB
                        have hP1 := g5_ht ht hP1
                        rcases hw with ⟨(i_53 : onB (e_gb ||| z8) z26.toInt = false), rfl, rfl⟩ | ⟨(i_54 : onB (e_gb ||| z8) z26.toInt = true), rfl, rfl⟩
                        ·
                          have hJ9 := g5_same hP hk1
                          clear hP hPc hDc hFc ht hvm hz1 hk1 hP1 hD1
                          have hP := hJ9
                          clear hJ9
                          obtain ⟨hgb_n, hsb_n⟩ := onB_orF i_53
                          have hng := gl_bit e_qg (ce := z26) (by omega) hgb_n
                          have hns := sp_bit e_qp (ce := z26) i_7 (by omega) hsb_n
                          refine lv_if_eq (tgt := 221) hx hb dX5_run_214 (by decide +kernel) (fun c_55 => ?_) (fun c_55 => ?_)
                          ·
                            refine lv_iinc (v := (k_i + 1)) (lv' := [(7, .int (k_i + 1)), (8, .int z26), (5, .long (e_gb ||| z8)), (0, .ref a_k), (1, .int p_c), (2, .int p_w), (3, .int p_h), (4, .int p_u)]) hx hb dX5_run_221 hl (k := 1) rfl rfl (by decide +kernel) rfl ?_
                            clear hl
                            intro ls hl
                            have t_56 : (k_i + 1).toInt = k_i.toInt + 1 := g5_iadd (a := k_i.toInt) (b := 1) rfl (by decide +kernel) (by omega) (by omega)
                            refine lv_goto (tgt := 78) hx hb dX5_run_224 (by decide +kernel) ?_
                            exact ih_78_21 ((k_i + 1), (k_i + 1), k_se, k_ho, k_br, k_we, k_me, z26, k_wy, k_ho, (upd k_pt k_i.toNatClampNeg ((k_ho * 64) + z26)), z46, z47) ls H locs (show Int.toNat (200 - (k_i + 1).toInt) < Int.toNat (200 - k_i.toInt) from g_up (show k_i.toInt < (k_i + 1).toInt by omega) (show k_i.toInt < 200 by omega)) ⟨lv_sub hl [0, 2, 3, 4, 5, 6, 7] rfl, hP.sub [0, 1, 8, 9, 2, 10, 11, 12, 13, 3, 6, 7, 4, 5] rfl, hD.sub [0, 1, 8, 9, 2, 10, 11, 12, 13, 3, 6, 7, 4, 5] (by decide +kernel) rfl, hS, ⟨by omega, by omega⟩, ⟨by omega, by omega⟩, ⟨by omega, by omega⟩, i_13, ⟨by omega, by omega⟩, i_15, i_16, by omega, by assumption, g_rows (k := k_i) (fun j hj => i_19 j (by omega)) (by omega) (by omega) (by omega), lka_go (n := (k_i + 1)) i_20 (by rw [← i_24]; exact fun q9 => q9.elim (fun q8 => by unfold gNe at *; omega) (wl_n e_qh (by omega) (Or.inr i_29))) i_24 (by omega) rfl (by omega) i_45 (met_n hng hns) (by omega)⟩
                          ·
                            exact absurd c_55 (by decide +kernel)
                        ·
                          have hJ9 := g5_same hP hk1
                          clear hP hPc hDc hFc ht hvm hz1 hk1 hP1 hD1
                          have hP := hJ9
                          clear hJ9
                          refine lv_if_eq (tgt := 221) hx hb dX5_run_214 (by decide +kernel) (fun c_57 => ?_) (fun c_57 => ?_)
                          ·
                            exact absurd c_57 (by decide +kernel)
                          ·
                            rcases g_or2 i_54 with hgy_58 | ⟨hgn_58, hsy_58⟩
                            ·
                              refine lv_aload_n hx hb dX5_run_217 rfl (lv_at hl 3 rfl) ?_
                              obtain ⟨hPc, hDc, hFc⟩ := g5_sub3 (wc := [(a_k, (oc5 a_h a_j a_pt (k_i + 1) k_se k_ho k_br k_we k_me z26 k_wy k_ho 0)), (a_h, (oc1 e_wa e_le e_st e_fo e_lc a_l a_g a_b a_s a_p a_w e_gb a_bb)), (a_g, (oc6 6 5 a_gn e_g)), (a_gn, (arI G 30 f_g)), (a_j, (oc2 a_as a_sk)), (a_as, (arI G 8 z46)), (a_sk, (arJ G 50 z47)), (a_l, (arW G 6 f_l))]) hP hD hS hA [6, 7, 0, 1, 10, 11, 12, 13] (by decide +kernel) rfl
                              refine va_callv (va_runV (As := []) (rest := []) ⟨hx, hb, hml, hown, hts⟩ (k_meetGlassXN l G a_k a_h a_g a_gn a_j a_as a_sk a_l a_pt a_b a_s a_p a_w a_bb H.size (k_i + 1) k_se k_ho k_br k_we k_me z26 k_wy k_ho 0 e_le e_st e_fo e_lc e_g e_wa e_gb f_g z46 z47 f_l f_ro g_w i_13 ⟨by omega, by omega⟩ i_15 i_16 ⟨by decide, by decide⟩ h_e_g (e_f) (e_w) (e_gk) (e_qg) (hgy_58) (e_f4)) (cwV 0 hts gV_X5_88 rfl rfl rfl hv_X5_meetGlass ⟨Nat.le_of_ble_eq_true rfl, Nat.le_of_ble_eq_true rfl⟩) (g5_preV hPc hK hDc hN hT hS hFc (ci := 5) (q0 := 0) rfl rfl) rfl rfl hl.1 rfl (lv_room (Nat.le_of_ble_eq_true rfl)) dX5_run_218 ⟨Nat.le_of_ble_eq_true rfl, Nat.le_of_ble_eq_true rfl⟩) hS (fun q _ h => hFc q h) hFc (fun u t H locs ht hvm hw hB hz1 hk1 hS => ?_)
                              obtain ⟨hP1, hD1⟩ := hB
                              have hP1 := g5_ht ht hP1
                              rcases hw with ⟨z61, z62, z63, z64, (i_59 : 0 ≤ z61.toInt ∧ z61.toInt ≤ 1000000), (i_60 : (meetF f_ro g_w 0 z26 k_wy k_ho k_br k_we (k_i + 1)).1 = false ∧ (meetF f_ro g_w 0 z26 k_wy k_ho k_br k_we (k_i + 1)).2.2.2.1 = z61 ∧ (meetF f_ro g_w 0 z26 k_wy k_ho k_br k_we (k_i + 1)).2.2.2.2 = k_we), rfl⟩ | ⟨z69, z70, z71, z72, z73, z74, z75, (i_65 : 0 ≤ z69.toInt ∧ z69.toInt ≤ 1000000), (i_66 : 0 ≤ z72.toInt ∧ z72.toInt ≤ 3), (i_67 : 0 ≤ z73.toInt ∧ z73.toInt ≤ 23), (i_68 : meetF f_ro g_w 0 z26 k_wy k_ho k_br k_we (k_i + 1) = (true, z72, z73, z69, z70)), rfl⟩
                              ·
                                have hJ9 := va_join (wr := [(a_bb, (arJ G 24 f_bb)), (a_pt, (arI G 200 (upd k_pt k_i.toNatClampNeg ((k_ho * 64) + z26)))), (a_p, (oc6 8 5 a_pn e_p)), (a_pn, (arI G 40 f_p)), (a_b, (oc6 5 24 a_bn e_b)), (a_bn, (arI G 120 f_b))]) hP hD [6, 7, 0, 1, 10, 11, 12, 13] [2, 3, 4, 5, 8, 9] rfl rfl (by decide +kernel) (by decide +kernel) hk1 hFc hP1 hD1
                                clear hP hD hPc hDc hFc ht hvm hz1 hk1 hP1 hD1
                                obtain ⟨hP, hD⟩ := hJ9
                                refine g5_rs [(a_bb, (arJ G 24 f_bb)), (a_pt, (arI G 200 (upd k_pt k_i.toNatClampNeg ((k_ho * 64) + z26)))), (a_p, (oc6 8 5 a_pn e_p)), (a_pn, (arI G 40 f_p)), (a_b, (oc6 5 24 a_bn e_b)), (a_bn, (arI G 120 f_b)), (a_k, (oc5 a_h a_j a_pt (k_i + 1) k_se k_ho z61 k_we z62 z26 k_wy k_ho 1)), (a_h, (oc1 e_wa e_le e_st e_fo e_lc a_l a_g a_b a_s a_p a_w e_gb a_bb)), (a_g, (oc6 6 5 a_gn e_g)), (a_gn, (arI G 30 f_g)), (a_j, (oc2 a_as a_sk)), (a_as, (arI G 8 z63)), (a_sk, (arJ G 50 z64)), (a_l, (arW G 6 f_l))] hP hD ?_
                                clear hP hD
                                intro hP hD
                                refine lv_iinc (v := (k_i + 1)) (lv' := [(7, .int (k_i + 1)), (8, .int z26), (5, .long (e_gb ||| z8)), (0, .ref a_k), (1, .int p_c), (2, .int p_w), (3, .int p_h), (4, .int p_u)]) hx hb dX5_run_221 hl (k := 1) rfl rfl (by decide +kernel) rfl ?_
                                clear hl
                                intro ls hl
                                have t_76 : (k_i + 1).toInt = k_i.toInt + 1 := g5_iadd (a := k_i.toInt) (b := 1) rfl (by decide +kernel) (by omega) (by omega)
                                refine lv_goto (tgt := 78) hx hb dX5_run_224 (by decide +kernel) ?_
                                refine lv_iload hx hb dX5_run_78 (lv_at hl 0 rfl) ?_
                                refine lv_sipush (v := 200) hx hb dX5_run_80 (by decide +kernel) ?_
                                refine W.eq (g2 := F0 m 83 ls [.int 200, .int (k_i + 1)]) rfl ?_
                                refine lv_icmp_ge (tgt := 227) hx hb dX5_run_83 (by decide +kernel) (fun c_77 => ?_) (fun c_77 => ?_)
                                ·
                                  have i_77 : (k_i.toInt + 1) ≥ 200 := by have z := g5_ge (a := (k_i + 1).toInt) (b := 200) (by rfl) (by decide +kernel) c_77; omega
                                  exact W.vret hx hb hr (fun t ht hW => ⟨⟨[(a_k, (oc5 a_h a_j a_pt (k_i + 1) k_se k_ho z61 k_we z62 z26 k_wy k_ho 1)), (a_h, (oc1 e_wa e_le e_st e_fo e_lc a_l a_g a_b a_s a_p a_w e_gb a_bb)), (a_g, (oc6 6 5 a_gn e_g)), (a_gn, (arI G 30 f_g)), (a_b, (oc6 5 24 a_bn e_b)), (a_bn, (arI G 120 f_b)), (a_p, (oc6 8 5 a_pn e_p)), (a_pn, (arI G 40 f_p)), (a_bb, (arJ G 24 f_bb)), (a_j, (oc2 a_as a_sk)), (a_as, (arI G 8 z63)), (a_sk, (arJ G 50 z64)), (a_l, (arW G 6 f_l)), (a_pt, (arI G 200 (upd k_pt k_i.toNatClampNeg ((k_ho * 64) + z26))))], rfl, ⟨(k_i + 1), k_se, k_ho, z61, k_we, z62, z26, k_wy, k_ho, 1, (upd k_pt k_i.toNatClampNeg ((k_ho * 64) + z26)), z63, z64, ⟨by omega, by omega⟩, ⟨by have zc_o_ov : (1 : Int32).toInt = 1 := (by decide +kernel); omega, by have zc_o_ov : (1 : Int32).toInt = 1 := (by decide +kernel); omega⟩, g_rows (k := k_i) (fun j hj => i_19 j (by omega)) (by omega) (by omega) (by omega), lka_stop (n := (k_i + 1)) i_20 (by omega) (by rw [← i_24]; exact fun q9 => q9.elim (fun q8 => by unfold gNe at *; omega) (wl_n e_qh (by omega) (Or.inr i_29))) i_24 (by omega) rfl (by omega) i_45 (by rw [met_hg (hg2 := 0) (gl_yes e_qg (by omega) hgy_58)]; exact i_60) (by assumption), rfl⟩, by rw [ht]; exact hP.sub [6, 7, 8, 9, 4, 5, 2, 3, 0, 10, 11, 12, 13, 1] rfl, hD.sub [6, 7, 8, 9, 4, 5, 2, 3, 0, 10, 11, 12, 13, 1] (by decide +kernel) rfl⟩, hS.F ht⟩) hS.2.2 dX5_run_227
                                ·
                                  have i_77 : (k_i.toInt + 1) < 200 := by have z := g5_geN (a := (k_i + 1).toInt) (b := 200) (by rfl) (by decide +kernel) c_77; omega
                                  refine lv_aload_n hx hb dX5_run_86 rfl (lv_at hl 3 rfl) ?_
                                  refine va_get (D := G.1) (ci := 5) (v := .int 1) (C := RX5) (T := TX5) (N := 13) hx hb hts inG_X5 hown hK hP 6 rfl rfl 12 (by decide +kernel) (hts _ fl_X5_56) (fun _ h9 => h9) rfl dX5_run_87 ?_
                                  refine lv_if_ne (tgt := 227) hx hb dX5_run_90 (by decide +kernel) (fun c_78 => ?_) (fun c_78 => ?_)
                                  ·
                                    exact W.vret hx hb hr (fun t ht hW => ⟨⟨[(a_k, (oc5 a_h a_j a_pt (k_i + 1) k_se k_ho z61 k_we z62 z26 k_wy k_ho 1)), (a_h, (oc1 e_wa e_le e_st e_fo e_lc a_l a_g a_b a_s a_p a_w e_gb a_bb)), (a_g, (oc6 6 5 a_gn e_g)), (a_gn, (arI G 30 f_g)), (a_b, (oc6 5 24 a_bn e_b)), (a_bn, (arI G 120 f_b)), (a_p, (oc6 8 5 a_pn e_p)), (a_pn, (arI G 40 f_p)), (a_bb, (arJ G 24 f_bb)), (a_j, (oc2 a_as a_sk)), (a_as, (arI G 8 z63)), (a_sk, (arJ G 50 z64)), (a_l, (arW G 6 f_l)), (a_pt, (arI G 200 (upd k_pt k_i.toNatClampNeg ((k_ho * 64) + z26))))], rfl, ⟨(k_i + 1), k_se, k_ho, z61, k_we, z62, z26, k_wy, k_ho, 1, (upd k_pt k_i.toNatClampNeg ((k_ho * 64) + z26)), z63, z64, ⟨by omega, by omega⟩, ⟨by have zc_o_ov : (1 : Int32).toInt = 1 := (by decide +kernel); omega, by have zc_o_ov : (1 : Int32).toInt = 1 := (by decide +kernel); omega⟩, g_rows (k := k_i) (fun j hj => i_19 j (by omega)) (by omega) (by omega) (by omega), lka_stop (n := (k_i + 1)) i_20 (by omega) (by rw [← i_24]; exact fun q9 => q9.elim (fun q8 => by unfold gNe at *; omega) (wl_n e_qh (by omega) (Or.inr i_29))) i_24 (by omega) rfl (by omega) i_45 (by rw [met_hg (hg2 := 0) (gl_yes e_qg (by omega) hgy_58)]; exact i_60) (by assumption), rfl⟩, by rw [ht]; exact hP.sub [6, 7, 8, 9, 4, 5, 2, 3, 0, 10, 11, 12, 13, 1] rfl, hD.sub [6, 7, 8, 9, 4, 5, 2, 3, 0, 10, 11, 12, 13, 1] (by decide +kernel) rfl⟩, hS.F ht⟩) hS.2.2 dX5_run_227
                                  ·
                                    exact absurd c_78 (by decide +kernel)
                              ·
                                have hJ9 := va_join (wr := [(a_bb, (arJ G 24 f_bb)), (a_pt, (arI G 200 (upd k_pt k_i.toNatClampNeg ((k_ho * 64) + z26)))), (a_p, (oc6 8 5 a_pn e_p)), (a_pn, (arI G 40 f_p)), (a_b, (oc6 5 24 a_bn e_b)), (a_bn, (arI G 120 f_b))]) hP hD [6, 7, 0, 1, 10, 11, 12, 13] [2, 3, 4, 5, 8, 9] rfl rfl (by decide +kernel) (by decide +kernel) hk1 hFc hP1 hD1
                                clear hP hD hPc hDc hFc ht hvm hz1 hk1 hP1 hD1
                                obtain ⟨hP, hD⟩ := hJ9
                                refine g5_rs [(a_bb, (arJ G 24 f_bb)), (a_pt, (arI G 200 (upd k_pt k_i.toNatClampNeg ((k_ho * 64) + z26)))), (a_p, (oc6 8 5 a_pn e_p)), (a_pn, (arI G 40 f_p)), (a_b, (oc6 5 24 a_bn e_b)), (a_bn, (arI G 120 f_b)), (a_k, (oc5 a_h a_j a_pt (k_i + 1) k_se k_ho z69 z70 z71 z26 z72 z73 0)), (a_h, (oc1 e_wa e_le e_st e_fo e_lc a_l a_g a_b a_s a_p a_w e_gb a_bb)), (a_g, (oc6 6 5 a_gn e_g)), (a_gn, (arI G 30 f_g)), (a_j, (oc2 a_as a_sk)), (a_as, (arI G 8 z74)), (a_sk, (arJ G 50 z75)), (a_l, (arW G 6 f_l))] hP hD ?_
                                clear hP hD
                                intro hP hD
                                refine lv_iinc (v := (k_i + 1)) (lv' := [(7, .int (k_i + 1)), (8, .int z26), (5, .long (e_gb ||| z8)), (0, .ref a_k), (1, .int p_c), (2, .int p_w), (3, .int p_h), (4, .int p_u)]) hx hb dX5_run_221 hl (k := 1) rfl rfl (by decide +kernel) rfl ?_
                                clear hl
                                intro ls hl
                                have t_79 : (k_i + 1).toInt = k_i.toInt + 1 := g5_iadd (a := k_i.toInt) (b := 1) rfl (by decide +kernel) (by omega) (by omega)
                                refine lv_goto (tgt := 78) hx hb dX5_run_224 (by decide +kernel) ?_
                                exact ih_78_21 ((k_i + 1), (k_i + 1), k_se, k_ho, z69, z70, z71, z26, z72, z73, (upd k_pt k_i.toNatClampNeg ((k_ho * 64) + z26)), z74, z75) ls H locs (show Int.toNat (200 - (k_i + 1).toInt) < Int.toNat (200 - k_i.toInt) from g_up (show k_i.toInt < (k_i + 1).toInt by omega) (show k_i.toInt < 200 by omega)) ⟨lv_sub hl [0, 2, 3, 4, 5, 6, 7] rfl, hP.sub [8, 9, 4, 5, 0, 10, 11, 12, 13, 1, 6, 7, 2, 3] rfl, hD.sub [8, 9, 4, 5, 0, 10, 11, 12, 13, 1, 6, 7, 2, 3] (by decide +kernel) rfl, hS, ⟨by omega, by omega⟩, ⟨by omega, by omega⟩, ⟨by omega, by omega⟩, i_65, ⟨by omega, by omega⟩, i_66, i_67, by omega, by assumption, g_rows (k := k_i) (fun j hj => i_19 j (by omega)) (by omega) (by omega) (by omega), lka_go (n := (k_i + 1)) i_20 (by rw [← i_24]; exact fun q9 => q9.elim (fun q8 => by unfold gNe at *; omega) (wl_n e_qh (by omega) (Or.inr i_29))) i_24 (by omega) rfl (by omega) i_45 ((met_hg (gl_yes e_qg (by omega) hgy_58)).trans i_68) (by omega)⟩
                            ·
                              refine lv_aload_n hx hb dX5_run_217 rfl (lv_at hl 3 rfl) ?_
                              obtain ⟨hPc, hDc, hFc⟩ := g5_sub3 (wc := [(a_k, (oc5 a_h a_j a_pt (k_i + 1) k_se k_ho k_br k_we k_me z26 k_wy k_ho 0)), (a_h, (oc1 e_wa e_le e_st e_fo e_lc a_l a_g a_b a_s a_p a_w e_gb a_bb)), (a_g, (oc6 6 5 a_gn e_g)), (a_gn, (arI G 30 f_g)), (a_p, (oc6 8 5 a_pn e_p)), (a_pn, (arI G 40 f_p)), (a_j, (oc2 a_as a_sk)), (a_as, (arI G 8 z46)), (a_sk, (arJ G 50 z47)), (a_l, (arW G 6 f_l))]) hP hD hS hA [6, 7, 0, 1, 4, 5, 10, 11, 12, 13] (by decide +kernel) rfl
                              refine va_callv (va_runV (As := []) (rest := []) ⟨hx, hb, hml, hown, hts⟩ (k_meetSpotXN l G a_k a_h a_g a_gn a_p a_pn a_j a_as a_sk a_l a_pt a_b a_s a_w a_bb H.size (k_i + 1) k_se k_ho k_br k_we k_me z26 k_wy k_ho 0 e_le e_st e_fo e_lc e_g e_p p_u e_wa e_gb z8 f_g f_p z46 z47 f_l f_ro g_w i_13 ⟨by omega, by omega⟩ i_15 i_16 ⟨by decide, by decide⟩ h_e_g h_e_p (e_f) (e_w) (e_pk) (e_qg) (e_qp) (hgn_58) (i_7) (hsy_58) (e_f4)) (cwV 0 hts gV_X5_88 rfl rfl rfl hv_X5_meetGlass ⟨Nat.le_of_ble_eq_true rfl, Nat.le_of_ble_eq_true rfl⟩) (g5_preV hPc hK hDc hN hT hS hFc (ci := 5) (q0 := 0) rfl rfl) rfl rfl hl.1 rfl (lv_room (Nat.le_of_ble_eq_true rfl)) dX5_run_218 ⟨Nat.le_of_ble_eq_true rfl, Nat.le_of_ble_eq_true rfl⟩) hS (fun q _ h => hFc q h) hFc (fun u t H locs ht hvm hw hB hz1 hk1 hS => ?_)
                              obtain ⟨hP1, hD1⟩ := hB
                              have hP1 := g5_ht ht hP1
                              rcases hw with ⟨z82, z83, z84, z85, (i_80 : 0 ≤ z82.toInt ∧ z82.toInt ≤ 1000000), (i_81 : (meetF f_ro g_w p_u z26 k_wy k_ho k_br k_we (k_i + 1)).1 = false ∧ (meetF f_ro g_w p_u z26 k_wy k_ho k_br k_we (k_i + 1)).2.2.2.1 = z82 ∧ (meetF f_ro g_w p_u z26 k_wy k_ho k_br k_we (k_i + 1)).2.2.2.2 = k_we), rfl⟩ | ⟨z90, z91, z92, z93, z94, z95, z96, (i_86 : 0 ≤ z90.toInt ∧ z90.toInt ≤ 1000000), (i_87 : 0 ≤ z93.toInt ∧ z93.toInt ≤ 3), (i_88 : 0 ≤ z94.toInt ∧ z94.toInt ≤ 23), (i_89 : meetF f_ro g_w p_u z26 k_wy k_ho k_br k_we (k_i + 1) = (true, z93, z94, z90, z91)), rfl⟩
                              ·
                                have hJ9 := va_join (wr := [(a_bb, (arJ G 24 f_bb)), (a_pt, (arI G 200 (upd k_pt k_i.toNatClampNeg ((k_ho * 64) + z26)))), (a_b, (oc6 5 24 a_bn e_b)), (a_bn, (arI G 120 f_b))]) hP hD [6, 7, 0, 1, 4, 5, 10, 11, 12, 13] [2, 3, 8, 9] rfl rfl (by decide +kernel) (by decide +kernel) hk1 hFc hP1 hD1
                                clear hP hD hPc hDc hFc ht hvm hz1 hk1 hP1 hD1
                                obtain ⟨hP, hD⟩ := hJ9
                                refine g5_rs [(a_bb, (arJ G 24 f_bb)), (a_pt, (arI G 200 (upd k_pt k_i.toNatClampNeg ((k_ho * 64) + z26)))), (a_b, (oc6 5 24 a_bn e_b)), (a_bn, (arI G 120 f_b)), (a_k, (oc5 a_h a_j a_pt (k_i + 1) k_se k_ho z82 k_we z83 z26 k_wy k_ho 1)), (a_h, (oc1 e_wa e_le e_st e_fo e_lc a_l a_g a_b a_s a_p a_w e_gb a_bb)), (a_g, (oc6 6 5 a_gn e_g)), (a_gn, (arI G 30 f_g)), (a_p, (oc6 8 5 a_pn e_p)), (a_pn, (arI G 40 f_p)), (a_j, (oc2 a_as a_sk)), (a_as, (arI G 8 z84)), (a_sk, (arJ G 50 z85)), (a_l, (arW G 6 f_l))] hP hD ?_
                                clear hP hD
                                intro hP hD
                                refine lv_iinc (v := (k_i + 1)) (lv' := [(7, .int (k_i + 1)), (8, .int z26), (5, .long (e_gb ||| z8)), (0, .ref a_k), (1, .int p_c), (2, .int p_w), (3, .int p_h), (4, .int p_u)]) hx hb dX5_run_221 hl (k := 1) rfl rfl (by decide +kernel) rfl ?_
                                clear hl
                                intro ls hl
                                have t_97 : (k_i + 1).toInt = k_i.toInt + 1 := g5_iadd (a := k_i.toInt) (b := 1) rfl (by decide +kernel) (by omega) (by omega)
                                refine lv_goto (tgt := 78) hx hb dX5_run_224 (by decide +kernel) ?_
                                refine lv_iload hx hb dX5_run_78 (lv_at hl 0 rfl) ?_
                                refine lv_sipush (v := 200) hx hb dX5_run_80 (by decide +kernel) ?_
                                refine W.eq (g2 := F0 m 83 ls [.int 200, .int (k_i + 1)]) rfl ?_
                                refine lv_icmp_ge (tgt := 227) hx hb dX5_run_83 (by decide +kernel) (fun c_98 => ?_) (fun c_98 => ?_)
                                ·
                                  have i_98 : (k_i.toInt + 1) ≥ 200 := by have z := g5_ge (a := (k_i + 1).toInt) (b := 200) (by rfl) (by decide +kernel) c_98; omega
                                  exact W.vret hx hb hr (fun t ht hW => ⟨⟨[(a_k, (oc5 a_h a_j a_pt (k_i + 1) k_se k_ho z82 k_we z83 z26 k_wy k_ho 1)), (a_h, (oc1 e_wa e_le e_st e_fo e_lc a_l a_g a_b a_s a_p a_w e_gb a_bb)), (a_g, (oc6 6 5 a_gn e_g)), (a_gn, (arI G 30 f_g)), (a_b, (oc6 5 24 a_bn e_b)), (a_bn, (arI G 120 f_b)), (a_p, (oc6 8 5 a_pn e_p)), (a_pn, (arI G 40 f_p)), (a_bb, (arJ G 24 f_bb)), (a_j, (oc2 a_as a_sk)), (a_as, (arI G 8 z84)), (a_sk, (arJ G 50 z85)), (a_l, (arW G 6 f_l)), (a_pt, (arI G 200 (upd k_pt k_i.toNatClampNeg ((k_ho * 64) + z26))))], rfl, ⟨(k_i + 1), k_se, k_ho, z82, k_we, z83, z26, k_wy, k_ho, 1, (upd k_pt k_i.toNatClampNeg ((k_ho * 64) + z26)), z84, z85, ⟨by omega, by omega⟩, ⟨by have zc_o_ov : (1 : Int32).toInt = 1 := (by decide +kernel); omega, by have zc_o_ov : (1 : Int32).toInt = 1 := (by decide +kernel); omega⟩, g_rows (k := k_i) (fun j hj => i_19 j (by omega)) (by omega) (by omega) (by omega), lka_stop (n := (k_i + 1)) i_20 (by omega) (by rw [← i_24]; exact fun q9 => q9.elim (fun q8 => by unfold gNe at *; omega) (wl_n e_qh (by omega) (Or.inr i_29))) i_24 (by omega) rfl (by omega) i_45 i_81 (by assumption), rfl⟩, by rw [ht]; exact hP.sub [4, 5, 6, 7, 2, 3, 8, 9, 0, 10, 11, 12, 13, 1] rfl, hD.sub [4, 5, 6, 7, 2, 3, 8, 9, 0, 10, 11, 12, 13, 1] (by decide +kernel) rfl⟩, hS.F ht⟩) hS.2.2 dX5_run_227
                                ·
                                  have i_98 : (k_i.toInt + 1) < 200 := by have z := g5_geN (a := (k_i + 1).toInt) (b := 200) (by rfl) (by decide +kernel) c_98; omega
                                  refine lv_aload_n hx hb dX5_run_86 rfl (lv_at hl 3 rfl) ?_
                                  refine va_get (D := G.1) (ci := 5) (v := .int 1) (C := RX5) (T := TX5) (N := 13) hx hb hts inG_X5 hown hK hP 4 rfl rfl 12 (by decide +kernel) (hts _ fl_X5_56) (fun _ h9 => h9) rfl dX5_run_87 ?_
                                  refine lv_if_ne (tgt := 227) hx hb dX5_run_90 (by decide +kernel) (fun c_99 => ?_) (fun c_99 => ?_)
                                  ·
                                    exact W.vret hx hb hr (fun t ht hW => ⟨⟨[(a_k, (oc5 a_h a_j a_pt (k_i + 1) k_se k_ho z82 k_we z83 z26 k_wy k_ho 1)), (a_h, (oc1 e_wa e_le e_st e_fo e_lc a_l a_g a_b a_s a_p a_w e_gb a_bb)), (a_g, (oc6 6 5 a_gn e_g)), (a_gn, (arI G 30 f_g)), (a_b, (oc6 5 24 a_bn e_b)), (a_bn, (arI G 120 f_b)), (a_p, (oc6 8 5 a_pn e_p)), (a_pn, (arI G 40 f_p)), (a_bb, (arJ G 24 f_bb)), (a_j, (oc2 a_as a_sk)), (a_as, (arI G 8 z84)), (a_sk, (arJ G 50 z85)), (a_l, (arW G 6 f_l)), (a_pt, (arI G 200 (upd k_pt k_i.toNatClampNeg ((k_ho * 64) + z26))))], rfl, ⟨(k_i + 1), k_se, k_ho, z82, k_we, z83, z26, k_wy, k_ho, 1, (upd k_pt k_i.toNatClampNeg ((k_ho * 64) + z26)), z84, z85, ⟨by omega, by omega⟩, ⟨by have zc_o_ov : (1 : Int32).toInt = 1 := (by decide +kernel); omega, by have zc_o_ov : (1 : Int32).toInt = 1 := (by decide +kernel); omega⟩, g_rows (k := k_i) (fun j hj => i_19 j (by omega)) (by omega) (by omega) (by omega), lka_stop (n := (k_i + 1)) i_20 (by omega) (by rw [← i_24]; exact fun q9 => q9.elim (fun q8 => by unfold gNe at *; omega) (wl_n e_qh (by omega) (Or.inr i_29))) i_24 (by omega) rfl (by omega) i_45 i_81 (by assumption), rfl⟩, by rw [ht]; exact hP.sub [4, 5, 6, 7, 2, 3, 8, 9, 0, 10, 11, 12, 13, 1] rfl, hD.sub [4, 5, 6, 7, 2, 3, 8, 9, 0, 10, 11, 12, 13, 1] (by decide +kernel) rfl⟩, hS.F ht⟩) hS.2.2 dX5_run_227
                                  ·
                                    exact absurd c_99 (by decide +kernel)
                              ·
                                have hJ9 := va_join (wr := [(a_bb, (arJ G 24 f_bb)), (a_pt, (arI G 200 (upd k_pt k_i.toNatClampNeg ((k_ho * 64) + z26)))), (a_b, (oc6 5 24 a_bn e_b)), (a_bn, (arI G 120 f_b))]) hP hD [6, 7, 0, 1, 4, 5, 10, 11, 12, 13] [2, 3, 8, 9] rfl rfl (by decide +kernel) (by decide +kernel) hk1 hFc hP1 hD1
                                clear hP hD hPc hDc hFc ht hvm hz1 hk1 hP1 hD1
                                obtain ⟨hP, hD⟩ := hJ9
                                refine g5_rs [(a_bb, (arJ G 24 f_bb)), (a_pt, (arI G 200 (upd k_pt k_i.toNatClampNeg ((k_ho * 64) + z26)))), (a_b, (oc6 5 24 a_bn e_b)), (a_bn, (arI G 120 f_b)), (a_k, (oc5 a_h a_j a_pt (k_i + 1) k_se k_ho z90 z91 z92 z26 z93 z94 0)), (a_h, (oc1 e_wa e_le e_st e_fo e_lc a_l a_g a_b a_s a_p a_w e_gb a_bb)), (a_g, (oc6 6 5 a_gn e_g)), (a_gn, (arI G 30 f_g)), (a_p, (oc6 8 5 a_pn e_p)), (a_pn, (arI G 40 f_p)), (a_j, (oc2 a_as a_sk)), (a_as, (arI G 8 z95)), (a_sk, (arJ G 50 z96)), (a_l, (arW G 6 f_l))] hP hD ?_
                                clear hP hD
                                intro hP hD
                                refine lv_iinc (v := (k_i + 1)) (lv' := [(7, .int (k_i + 1)), (8, .int z26), (5, .long (e_gb ||| z8)), (0, .ref a_k), (1, .int p_c), (2, .int p_w), (3, .int p_h), (4, .int p_u)]) hx hb dX5_run_221 hl (k := 1) rfl rfl (by decide +kernel) rfl ?_
                                clear hl
                                intro ls hl
                                have t_100 : (k_i + 1).toInt = k_i.toInt + 1 := g5_iadd (a := k_i.toInt) (b := 1) rfl (by decide +kernel) (by omega) (by omega)
                                refine lv_goto (tgt := 78) hx hb dX5_run_224 (by decide +kernel) ?_
                                exact ih_78_21 ((k_i + 1), (k_i + 1), k_se, k_ho, z90, z91, z92, z26, z93, z94, (upd k_pt k_i.toNatClampNeg ((k_ho * 64) + z26)), z95, z96) ls H locs (show Int.toNat (200 - (k_i + 1).toInt) < Int.toNat (200 - k_i.toInt) from g_up (show k_i.toInt < (k_i + 1).toInt by omega) (show k_i.toInt < 200 by omega)) ⟨lv_sub hl [0, 2, 3, 4, 5, 6, 7] rfl, hP.sub [6, 7, 2, 3, 0, 10, 11, 12, 13, 1, 4, 5, 8, 9] rfl, hD.sub [6, 7, 2, 3, 0, 10, 11, 12, 13, 1, 4, 5, 8, 9] (by decide +kernel) rfl, hS, ⟨by omega, by omega⟩, ⟨by omega, by omega⟩, ⟨by omega, by omega⟩, i_86, ⟨by omega, by omega⟩, i_87, i_88, by omega, by assumption, g_rows (k := k_i) (fun j hj => i_19 j (by omega)) (by omega) (by omega) (by omega), lka_go (n := (k_i + 1)) i_20 (by rw [← i_24]; exact fun q9 => q9.elim (fun q8 => by unfold gNe at *; omega) (wl_n e_qh (by omega) (Or.inr i_29))) i_24 (by omega) rfl (by omega) i_45 i_89 (by omega)⟩
              ·
                exact absurd c_31 (by decide +kernel)
            ·
              have hJ9 := g5_same hP hk1
              clear hP hPc hDc hFc ht hvm hz1 hk1 hP1 hD1
              have hP := hJ9
              clear hJ9
              refine lv_if_eq (tgt := 128) hx hb dX5_run_124 (by decide +kernel) (fun c_101 => ?_) (fun c_101 => ?_)
              ·
                exact absurd c_101 (by decide +kernel)
              ·
                exact W.vret hx hb hr (fun t ht hW => ⟨⟨[(a_k, (oc5 a_h a_j a_pt k_ln k_se k_lh k_br k_we k_me k_ce k_wy k_ho 0)), (a_h, (oc1 e_wa e_le e_st e_fo e_lc a_l a_g a_b a_s a_p a_w e_gb a_bb)), (a_g, (oc6 6 5 a_gn e_g)), (a_gn, (arI G 30 f_g)), (a_b, (oc6 5 24 a_bn e_b)), (a_bn, (arI G 120 f_b)), (a_p, (oc6 8 5 a_pn e_p)), (a_pn, (arI G 40 f_p)), (a_bb, (arJ G 24 f_bb)), (a_j, (oc2 a_as a_sk)), (a_as, (arI G 8 k_as)), (a_sk, (arJ G 50 k_sk)), (a_l, (arW G 6 f_l)), (a_pt, (arI G 200 k_pt))], rfl, ⟨k_ln, k_se, k_lh, k_br, k_we, k_me, k_ce, k_wy, k_ho, 0, k_pt, k_as, k_sk, i_11, ⟨by have zc_o_ov : (0 : Int32).toInt = 0 := (by decide +kernel); omega, by have zc_o_ov : (0 : Int32).toInt = 0 := (by decide +kernel); omega⟩, i_19, lka_wall i_20 (by omega) (by omega) (by assumption) (Or.inr (by rw [← i_24]; exact wl_y e_qh (by omega) ⟨by omega, i_30⟩)), rfl⟩, by rw [ht]; exact hP.sub [10, 11, 0, 1, 2, 3, 12, 13, 4, 5, 6, 7, 8, 9] rfl, hD.sub [10, 11, 0, 1, 2, 3, 12, 13, 4, 5, 6, 7, 8, 9] (by decide +kernel) rfl⟩, hS.F ht⟩) hS.2.2 dX5_run_127
    ·
      exact absurd c_6 (by decide +kernel)
  ·
    have hJ9 := g5_same hP hk1
    clear hP hPc hDc hFc ht hvm hz1 hk1 hP1 hD1
    have hP := hJ9
    clear hJ9
    refine lv_if_ne (tgt := 55) hx hb dX5_run_48 (by decide +kernel) (fun c_102 => ?_) (fun c_102 => ?_)
    ·
      exact absurd c_102 (by decide +kernel)
    ·
      exact absurd (show False by first | omega | (unfold okL at *; omega)) (fun h => h)
set_option maxHeartbeats 4000000 in
set_option maxRecDepth 100000 in
theorem k_runHL (l : Launch) (G : g5_G) (a_k a_h a_g a_gn a_b a_bn a_p a_pn a_bb a_j a_as a_sk a_l a_lo a_sr a_cd a_hd a_pt a_s a_w : Nat) (sz : Nat) (e_le : Int32) (e_st : Int32) (e_fo : Int32) (e_lc : Int32) (e_g : Int32) (e_b : Int32) (e_p : Int32) (e_cl : Int32) (e_ln : Int32) (e_se : Int32) (e_lh : Int32) (e_br : Int32) (e_we : Int32) (e_me : Int32) (e_ce : Int32) (e_wy : Int32) (e_ho : Int32) (e_ov : Int32) (p_c : Int32) (p_w : Int32) (p_h : Int32) (p_u : Int32) (e_wa : Int64) (e_gb : Int64) (f_g : Nat → Int32) (f_b : Nat → Int32) (f_p : Nat → Int32) (f_bb : Nat → Int64) (f_as : Nat → Int32) (f_sk : Nat → Int64) (f_l : Nat → Option Nat) (f_sr : Nat → Int32) (f_cd : Nat → Int32) (f_hd : Nat → Int32) (f_pt : Nat → Int32) (f_ro : Nat → Int32) (g_w : Option (List CLT)) (g_L : List CLT) (n_sr : Nat) (n_cd : Nat) (n_hd : Nat) (h_e_g : 0 ≤ e_g.toInt ∧ e_g.toInt ≤ 6) (h_e_b : 0 ≤ e_b.toInt ∧ e_b.toInt ≤ 5) (h_e_p : 0 ≤ e_p.toInt ∧ e_p.toInt ≤ 8) (h_e_cl : 0 ≤ e_cl.toInt ∧ e_cl.toInt ≤ 12) (h_e_ov : 0 ≤ e_ov.toInt ∧ e_ov.toInt ≤ 1) (e_gk : gOK f_g e_g.toInt) (e_pk : gOK f_p e_p.toInt) (e_qh : QH e_wa e_le e_st f_ro) (e_qg : QG e_g f_g e_gb f_ro) (e_qb : QB e_b f_b f_bb f_ro) (e_qp : QP e_p f_p f_ro) (e_ic : (0 ≤ p_c.toInt ∧ p_c.toInt ≤ 63) ∧ (0 ≤ p_w.toInt ∧ p_w.toInt ≤ 3) ∧ (0 ≤ p_h.toInt ∧ p_h.toInt ≤ 23)) (e_f : 0 ≤ e_fo.toInt ∧ e_fo.toInt < e_lc.toInt ∧ e_lc.toInt ≤ 6) (e_a : f_l e_fo.toNatClampNeg = some a_lo) (e_hn : n_cd ≤ 400) (e_hs : ∀ j : Nat, j < n_sr → 0 ≤ (f_sr j).toInt ∧ (f_sr j).toInt ≤ (n_cd : Int)) (e_hk : ∀ j : Nat, j < n_cd → (f_cd j >>> (12 &&& 31)).toInt = 1 → (f_cd j &&& 4095).toInt < 8) (e_c : (e_cl.toInt : Int) ≤ (n_hd : Int) ∧ (e_cl.toInt + 1 : Int) ≤ (n_sr : Int)) (e_w : g_w = some g_L) (e_lw : LWC f_hd f_sr f_cd g_L e_cl.toInt.toNat) (e_lv : lvC f_cd n_cd ≤ 50) : Met l yX5_run (wsG yX5_run cX5_run 9 none) ({ frames := 4, cells := 0, slots := 0, locals := 106 }) (va_Pc [.ref a_k, .int p_c, .int p_w, .int p_h, .int p_u] (g5_P G [(a_k, (oc5 a_h a_j a_pt e_ln e_se e_lh e_br e_we e_me e_ce e_wy e_ho e_ov)), (a_h, (oc1 e_wa e_le e_st e_fo e_lc a_l a_g a_b a_s a_p a_w e_gb a_bb)), (a_g, (oc6 6 5 a_gn e_g)), (a_gn, (arI G 30 f_g)), (a_b, (oc6 5 24 a_bn e_b)), (a_bn, (arI G 120 f_b)), (a_p, (oc6 8 5 a_pn e_p)), (a_pn, (arI G 40 f_p)), (a_bb, (arJ G 24 f_bb)), (a_j, (oc2 a_as a_sk)), (a_as, (arI G 8 f_as)), (a_sk, (arJ G 50 f_sk)), (a_l, (arW G 6 f_l)), (a_lo, (oc3 e_cl a_hd a_sr a_cd)), (a_sr, (arI G n_sr f_sr)), (a_cd, (arI G n_cd f_cd)), (a_hd, (arI G n_hd f_hd)), (a_pt, (arI G 200 f_pt))] sz)) (va_Qv (fun (u : va_W) => (∃ (o_ln : Int32) (o_se : Int32) (o_lh : Int32) (o_br : Int32) (o_we : Int32) (o_me : Int32) (o_ce : Int32) (o_wy : Int32) (o_ho : Int32) (o_ov : Int32) (o_pt : Nat → Int32) (o_as : Nat → Int32) (o_sk : Nat → Int64), (0 ≤ o_ln.toInt ∧ o_ln.toInt ≤ 200) ∧ (0 ≤ o_ov.toInt ∧ o_ov.toInt ≤ 1) ∧ (∀ j : Nat, (j : Int) < o_ln.toInt → 0 ≤ (o_pt j).toInt ∧ (o_pt j).toInt ≤ 1535) ∧ (LKR f_ro g_w p_u p_c p_w p_h o_se o_ln o_br o_we o_pt) ∧ (u = [(a_k, (oc5 a_h a_j a_pt o_ln o_se o_lh o_br o_we o_me o_ce o_wy o_ho o_ov)), (a_h, (oc1 e_wa e_le e_st e_fo e_lc a_l a_g a_b a_s a_p a_w e_gb a_bb)), (a_g, (oc6 6 5 a_gn e_g)), (a_gn, (arI G 30 f_g)), (a_b, (oc6 5 24 a_bn e_b)), (a_bn, (arI G 120 f_b)), (a_p, (oc6 8 5 a_pn e_p)), (a_pn, (arI G 40 f_p)), (a_bb, (arJ G 24 f_bb)), (a_j, (oc2 a_as a_sk)), (a_as, (arI G 8 o_as)), (a_sk, (arJ G 50 o_sk)), (a_l, (arW G 6 f_l)), (a_lo, (oc3 e_cl a_hd a_sr a_cd)), (a_sr, (arI G n_sr f_sr)), (a_cd, (arI G n_cd f_cd)), (a_hd, (arI G n_hd f_hd)), (a_pt, (arI G 200 o_pt))]))) (g5_B G (va_A [(a_k, (oc5 a_h a_j a_pt e_ln e_se e_lh e_br e_we e_me e_ce e_wy e_ho e_ov)), (a_h, (oc1 e_wa e_le e_st e_fo e_lc a_l a_g a_b a_s a_p a_w e_gb a_bb)), (a_g, (oc6 6 5 a_gn e_g)), (a_gn, (arI G 30 f_g)), (a_b, (oc6 5 24 a_bn e_b)), (a_bn, (arI G 120 f_b)), (a_p, (oc6 8 5 a_pn e_p)), (a_pn, (arI G 40 f_p)), (a_bb, (arJ G 24 f_bb)), (a_j, (oc2 a_as a_sk)), (a_as, (arI G 8 f_as)), (a_sk, (arJ G 50 f_sk)), (a_l, (arW G 6 f_l)), (a_lo, (oc3 e_cl a_hd a_sr a_cd)), (a_sr, (arI G n_sr f_sr)), (a_cd, (arI G n_cd f_cd)), (a_hd, (arI G n_hd f_hd)), (a_pt, (arI G 200 f_pt))] sz)) (va_A [(a_k, (oc5 a_h a_j a_pt e_ln e_se e_lh e_br e_we e_me e_ce e_wy e_ho e_ov)), (a_h, (oc1 e_wa e_le e_st e_fo e_lc a_l a_g a_b a_s a_p a_w e_gb a_bb)), (a_g, (oc6 6 5 a_gn e_g)), (a_gn, (arI G 30 f_g)), (a_b, (oc6 5 24 a_bn e_b)), (a_bn, (arI G 120 f_b)), (a_p, (oc6 8 5 a_pn e_p)), (a_pn, (arI G 40 f_p)), (a_bb, (arJ G 24 f_bb)), (a_j, (oc2 a_as a_sk)), (a_as, (arI G 8 f_as)), (a_sk, (arJ G 50 f_sk)), (a_l, (arW G 6 f_l)), (a_lo, (oc3 e_cl a_hd a_sr a_cd)), (a_sr, (arI G n_sr f_sr)), (a_cd, (arI G n_cd f_cd)), (a_hd, (arI G n_hd f_hd)), (a_pt, (arI G 200 f_pt))] sz)) 0 0 (va_A [(a_k, (oc5 a_h a_j a_pt e_ln e_se e_lh e_br e_we e_me e_ce e_wy e_ho e_ov)), (a_h, (oc1 e_wa e_le e_st e_fo e_lc a_l a_g a_b a_s a_p a_w e_gb a_bb)), (a_g, (oc6 6 5 a_gn e_g)), (a_gn, (arI G 30 f_g)), (a_b, (oc6 5 24 a_bn e_b)), (a_bn, (arI G 120 f_b)), (a_p, (oc6 8 5 a_pn e_p)), (a_pn, (arI G 40 f_p)), (a_bb, (arJ G 24 f_bb)), (a_j, (oc2 a_as a_sk)), (a_as, (arI G 8 f_as)), (a_sk, (arJ G 50 f_sk)), (a_l, (arW G 6 f_l)), (a_lo, (oc3 e_cl a_hd a_sr a_cd)), (a_sr, (arI G n_sr f_sr)), (a_cd, (arI G n_cd f_cd)), (a_hd, (arI G n_hd f_hd)), (a_pt, (arI G 200 f_pt))] sz) := by
  refine Met.ofW (cc := cX5_run) (maxL := 9) (ret := none) (by decide +kernel) rfl ?_
  intro p e s m args below meth c s₁ B hml hv
  obtain ⟨rfl, hsz, hP, hK, hD0, hN, hT⟩ := hv
  have hx := B.exec
  have hb := B.bytes
  have hr := B.returns
  have hts : ∀ w ∈ tblG, w.before _ s = true := fun w h => atoms_spec (ws := (wsG yX5_run cX5_run 9 none)) B.pre w (List.mem_cons_of_mem _ h)
  have hown : s.vm.findClass RX5 = some m.cls := findClass_of_methodNamed B.named
  have hlocks := B.notSynchronized
  subst hsz
  have hD := hD0.self (sz := s.heap.size)
  generalize hAe : va_A [(a_k, (oc5 a_h a_j a_pt e_ln e_se e_lh e_br e_we e_me e_ce e_wy e_ho e_ov)), (a_h, (oc1 e_wa e_le e_st e_fo e_lc a_l a_g a_b a_s a_p a_w e_gb a_bb)), (a_g, (oc6 6 5 a_gn e_g)), (a_gn, (arI G 30 f_g)), (a_b, (oc6 5 24 a_bn e_b)), (a_bn, (arI G 120 f_b)), (a_p, (oc6 8 5 a_pn e_p)), (a_pn, (arI G 40 f_p)), (a_bb, (arJ G 24 f_bb)), (a_j, (oc2 a_as a_sk)), (a_as, (arI G 8 f_as)), (a_sk, (arJ G 50 f_sk)), (a_l, (arW G 6 f_l)), (a_lo, (oc3 e_cl a_hd a_sr a_cd)), (a_sr, (arI G n_sr f_sr)), (a_cd, (arI G n_cd f_cd)), (a_hd, (arI G n_hd f_hd)), (a_pt, (arI G 200 f_pt))] s.heap.size = A at hD hT ⊢
  have hA : ∀ q : Nat, s.heap.size ≤ q → A q := fun q h => by rw [← hAe]; exact Or.inr h
  have hS : va_S A s.heap s.heap [] := va_S.rf
  replace hP : va_P G.1 vwCl [(a_k, (oc5 a_h a_j a_pt e_ln e_se e_lh e_br e_we e_me e_ce e_wy e_ho e_ov)), (a_h, (oc1 e_wa e_le e_st e_fo e_lc a_l a_g a_b a_s a_p a_w e_gb a_bb)), (a_g, (oc6 6 5 a_gn e_g)), (a_gn, (arI G 30 f_g)), (a_b, (oc6 5 24 a_bn e_b)), (a_bn, (arI G 120 f_b)), (a_p, (oc6 8 5 a_pn e_p)), (a_pn, (arI G 40 f_p)), (a_bb, (arJ G 24 f_bb)), (a_j, (oc2 a_as a_sk)), (a_as, (arI G 8 f_as)), (a_sk, (arJ G 50 f_sk)), (a_l, (arW G 6 f_l)), (a_lo, (oc3 e_cl a_hd a_sr a_cd)), (a_sr, (arI G n_sr f_sr)), (a_cd, (arI G n_cd f_cd)), (a_hd, (arI G n_hd f_hd)), (a_pt, (arI G 200 f_pt))] s.heap := hP
  have hl := lv_entry ([.ref a_k, .int p_c, .int p_w, .int p_h, .int p_u]) (n := 9) (Nat.le_of_ble_eq_true rfl)
  rw [lg_entry_eq]
  generalize (lg_sl ([.ref a_k, .int p_c, .int p_w, .int p_h, .int p_u]) ++ List.replicate (9 - (lg_sl ([.ref a_k, .int p_c, .int p_w, .int p_h, .int p_u])).length) Slot.unset).toArray = ls at hl ⊢
  replace hl : lv_has ls 9 [(0, .ref a_k), (1, .int p_c), (2, .int p_w), (3, .int p_h), (4, .int p_u)] := hl
  obtain ⟨⟨e_c1, e_c2⟩, ⟨e_c3, e_c4⟩, ⟨e_c5, e_c6⟩⟩ := id e_ic
  have e_f1 : f_ro 1 = e_b := e_qb.2.1
  have e_ht := e_qb.2.2.1
  have e_f4 : f_ro 4 = e_le := e_qh.2.1
  refine lv_aload_n hx hb dX5_run_0 rfl (lv_at hl 0 rfl) ?_
  refine lv_iload_n hx hb dX5_run_1 rfl (lv_at hl 1 rfl) ?_
  refine va_put (D := G.1) (ci := 5) (v := .int p_c) (ty := .int) (C := RX5) (T := TX5) (N := 13) hx hb hts inG_X5 tyX5 tyX5_ok nmX5 hown hK hP hD hS 0 rfl rfl 9 (by decide +kernel) (hts _ fl_X5_26) (fun _ h9 => h9) rfl (by decide +kernel) rfl rfl (Nat.le_of_ble_eq_true rfl) dX5_run_2 ?_
  clear hP hD hS
  intro H locs hP hD hS
  refine g5_rs [(a_k, (oc5 a_h a_j a_pt e_ln e_se e_lh e_br e_we e_me p_c e_wy e_ho e_ov)), (a_h, (oc1 e_wa e_le e_st e_fo e_lc a_l a_g a_b a_s a_p a_w e_gb a_bb)), (a_g, (oc6 6 5 a_gn e_g)), (a_gn, (arI G 30 f_g)), (a_b, (oc6 5 24 a_bn e_b)), (a_bn, (arI G 120 f_b)), (a_p, (oc6 8 5 a_pn e_p)), (a_pn, (arI G 40 f_p)), (a_bb, (arJ G 24 f_bb)), (a_j, (oc2 a_as a_sk)), (a_as, (arI G 8 f_as)), (a_sk, (arJ G 50 f_sk)), (a_l, (arW G 6 f_l)), (a_lo, (oc3 e_cl a_hd a_sr a_cd)), (a_sr, (arI G n_sr f_sr)), (a_cd, (arI G n_cd f_cd)), (a_hd, (arI G n_hd f_hd)), (a_pt, (arI G 200 f_pt))] hP hD ?_
  clear hP hD
  intro hP hD
  refine lv_aload_n hx hb dX5_run_5 rfl (lv_at hl 0 rfl) ?_
  refine W.eq (g2 := F0 m 6 ls [.ref a_k]) rfl ?_
  refine lv_iload_n hx hb dX5_run_6 rfl (lv_at hl 2 rfl) ?_
  refine va_put (D := G.1) (ci := 5) (v := .int p_w) (ty := .int) (C := RX5) (T := TX5) (N := 13) hx hb hts inG_X5 tyX5 tyX5_ok nmX5 hown hK hP hD hS 0 rfl rfl 10 (by decide +kernel) (hts _ fl_X5_30) (fun _ h9 => h9) rfl (by decide +kernel) rfl rfl (Nat.le_of_ble_eq_true rfl) dX5_run_7 ?_
  clear hP hD hS
  intro H locs hP hD hS
  refine g5_rs [(a_k, (oc5 a_h a_j a_pt e_ln e_se e_lh e_br e_we e_me p_c p_w e_ho e_ov)), (a_h, (oc1 e_wa e_le e_st e_fo e_lc a_l a_g a_b a_s a_p a_w e_gb a_bb)), (a_g, (oc6 6 5 a_gn e_g)), (a_gn, (arI G 30 f_g)), (a_b, (oc6 5 24 a_bn e_b)), (a_bn, (arI G 120 f_b)), (a_p, (oc6 8 5 a_pn e_p)), (a_pn, (arI G 40 f_p)), (a_bb, (arJ G 24 f_bb)), (a_j, (oc2 a_as a_sk)), (a_as, (arI G 8 f_as)), (a_sk, (arJ G 50 f_sk)), (a_l, (arW G 6 f_l)), (a_lo, (oc3 e_cl a_hd a_sr a_cd)), (a_sr, (arI G n_sr f_sr)), (a_cd, (arI G n_cd f_cd)), (a_hd, (arI G n_hd f_hd)), (a_pt, (arI G 200 f_pt))] hP hD ?_
  clear hP hD
  intro hP hD
  refine lv_aload_n hx hb dX5_run_10 rfl (lv_at hl 0 rfl) ?_
  refine lv_iload_n hx hb dX5_run_11 rfl (lv_at hl 3 rfl) ?_
  refine va_put (D := G.1) (ci := 5) (v := .int p_h) (ty := .int) (C := RX5) (T := TX5) (N := 13) hx hb hts inG_X5 tyX5 tyX5_ok nmX5 hown hK hP hD hS 0 rfl rfl 11 (by decide +kernel) (hts _ fl_X5_33) (fun _ h9 => h9) rfl (by decide +kernel) rfl rfl (Nat.le_of_ble_eq_true rfl) dX5_run_12 ?_
  clear hP hD hS
  intro H locs hP hD hS
  refine g5_rs [(a_k, (oc5 a_h a_j a_pt e_ln e_se e_lh e_br e_we e_me p_c p_w p_h e_ov)), (a_h, (oc1 e_wa e_le e_st e_fo e_lc a_l a_g a_b a_s a_p a_w e_gb a_bb)), (a_g, (oc6 6 5 a_gn e_g)), (a_gn, (arI G 30 f_g)), (a_b, (oc6 5 24 a_bn e_b)), (a_bn, (arI G 120 f_b)), (a_p, (oc6 8 5 a_pn e_p)), (a_pn, (arI G 40 f_p)), (a_bb, (arJ G 24 f_bb)), (a_j, (oc2 a_as a_sk)), (a_as, (arI G 8 f_as)), (a_sk, (arJ G 50 f_sk)), (a_l, (arW G 6 f_l)), (a_lo, (oc3 e_cl a_hd a_sr a_cd)), (a_sr, (arI G n_sr f_sr)), (a_cd, (arI G n_cd f_cd)), (a_hd, (arI G n_hd f_hd)), (a_pt, (arI G 200 f_pt))] hP hD ?_
  clear hP hD
  intro hP hD
  refine W.eq (g2 := F0 m 15 ls []) rfl ?_
  refine lv_aload_n hx hb dX5_run_15 rfl (lv_at hl 0 rfl) ?_
  refine lv_iconst (v := 0) hx hb dX5_run_16 (by decide +kernel) ?_
  refine va_put (D := G.1) (ci := 5) (v := .int 0) (ty := .int) (C := RX5) (T := TX5) (N := 13) hx hb hts inG_X5 tyX5 tyX5_ok nmX5 hown hK hP hD hS 0 rfl rfl 3 (by decide +kernel) (hts _ fl_X5_36) (fun _ h9 => h9) rfl (by decide +kernel) rfl rfl (Nat.le_of_ble_eq_true rfl) dX5_run_17 ?_
  clear hP hD hS
  intro H locs hP hD hS
  refine g5_rs [(a_k, (oc5 a_h a_j a_pt 0 e_se e_lh e_br e_we e_me p_c p_w p_h e_ov)), (a_h, (oc1 e_wa e_le e_st e_fo e_lc a_l a_g a_b a_s a_p a_w e_gb a_bb)), (a_g, (oc6 6 5 a_gn e_g)), (a_gn, (arI G 30 f_g)), (a_b, (oc6 5 24 a_bn e_b)), (a_bn, (arI G 120 f_b)), (a_p, (oc6 8 5 a_pn e_p)), (a_pn, (arI G 40 f_p)), (a_bb, (arJ G 24 f_bb)), (a_j, (oc2 a_as a_sk)), (a_as, (arI G 8 f_as)), (a_sk, (arJ G 50 f_sk)), (a_l, (arW G 6 f_l)), (a_lo, (oc3 e_cl a_hd a_sr a_cd)), (a_sr, (arI G n_sr f_sr)), (a_cd, (arI G n_cd f_cd)), (a_hd, (arI G n_hd f_hd)), (a_pt, (arI G 200 f_pt))] hP hD ?_
  clear hP hD
  intro hP hD
  refine lv_aload_n hx hb dX5_run_20 rfl (lv_at hl 0 rfl) ?_
  refine lv_iconst (v := (-1)) hx hb dX5_run_21 (by decide +kernel) ?_
  refine W.eq (g2 := F0 m 22 ls [.int (-1), .ref a_k]) rfl ?_
  refine va_put (D := G.1) (ci := 5) (v := .int (-1)) (ty := .int) (C := RX5) (T := TX5) (N := 13) hx hb hts inG_X5 tyX5 tyX5_ok nmX5 hown hK hP hD hS 0 rfl rfl 4 (by decide +kernel) (hts _ fl_X5_39) (fun _ h9 => h9) rfl (by decide +kernel) rfl rfl (Nat.le_of_ble_eq_true rfl) dX5_run_22 ?_
  clear hP hD hS
  intro H locs hP hD hS
  refine g5_rs [(a_k, (oc5 a_h a_j a_pt 0 (-1) e_lh e_br e_we e_me p_c p_w p_h e_ov)), (a_h, (oc1 e_wa e_le e_st e_fo e_lc a_l a_g a_b a_s a_p a_w e_gb a_bb)), (a_g, (oc6 6 5 a_gn e_g)), (a_gn, (arI G 30 f_g)), (a_b, (oc6 5 24 a_bn e_b)), (a_bn, (arI G 120 f_b)), (a_p, (oc6 8 5 a_pn e_p)), (a_pn, (arI G 40 f_p)), (a_bb, (arJ G 24 f_bb)), (a_j, (oc2 a_as a_sk)), (a_as, (arI G 8 f_as)), (a_sk, (arJ G 50 f_sk)), (a_l, (arW G 6 f_l)), (a_lo, (oc3 e_cl a_hd a_sr a_cd)), (a_sr, (arI G n_sr f_sr)), (a_cd, (arI G n_cd f_cd)), (a_hd, (arI G n_hd f_hd)), (a_pt, (arI G 200 f_pt))] hP hD ?_
  clear hP hD
  intro hP hD
  refine lv_aload_n hx hb dX5_run_25 rfl (lv_at hl 0 rfl) ?_
  refine lv_iconst (v := (-1)) hx hb dX5_run_26 (by decide +kernel) ?_
  refine va_put (D := G.1) (ci := 5) (v := .int (-1)) (ty := .int) (C := RX5) (T := TX5) (N := 13) hx hb hts inG_X5 tyX5 tyX5_ok nmX5 hown hK hP hD hS 0 rfl rfl 5 (by decide +kernel) (hts _ fl_X5_42) (fun _ h9 => h9) rfl (by decide +kernel) rfl rfl (Nat.le_of_ble_eq_true rfl) dX5_run_27 ?_
  clear hP hD hS
  intro H locs hP hD hS
  refine g5_rs [(a_k, (oc5 a_h a_j a_pt 0 (-1) (-1) e_br e_we e_me p_c p_w p_h e_ov)), (a_h, (oc1 e_wa e_le e_st e_fo e_lc a_l a_g a_b a_s a_p a_w e_gb a_bb)), (a_g, (oc6 6 5 a_gn e_g)), (a_gn, (arI G 30 f_g)), (a_b, (oc6 5 24 a_bn e_b)), (a_bn, (arI G 120 f_b)), (a_p, (oc6 8 5 a_pn e_p)), (a_pn, (arI G 40 f_p)), (a_bb, (arJ G 24 f_bb)), (a_j, (oc2 a_as a_sk)), (a_as, (arI G 8 f_as)), (a_sk, (arJ G 50 f_sk)), (a_l, (arW G 6 f_l)), (a_lo, (oc3 e_cl a_hd a_sr a_cd)), (a_sr, (arI G n_sr f_sr)), (a_cd, (arI G n_cd f_cd)), (a_hd, (arI G n_hd f_hd)), (a_pt, (arI G 200 f_pt))] hP hD ?_
  clear hP hD
  intro hP hD
  refine lv_aload_n hx hb dX5_run_30 rfl (lv_at hl 0 rfl) ?_
  refine W.eq (g2 := F0 m 31 ls [.ref a_k]) rfl ?_
  refine lv_ldc (v := 1000000) hx hb hown (hts _ ki_X5_45) dX5_run_31 ?_
  refine va_put (D := G.1) (ci := 5) (v := .int 1000000) (ty := .int) (C := RX5) (T := TX5) (N := 13) hx hb hts inG_X5 tyX5 tyX5_ok nmX5 hown hK hP hD hS 0 rfl rfl 6 (by decide +kernel) (hts _ fl_X5_46) (fun _ h9 => h9) rfl (by decide +kernel) rfl rfl (Nat.le_of_ble_eq_true rfl) dX5_run_33 ?_
  clear hP hD hS
  intro H locs hP hD hS
  refine g5_rs [(a_k, (oc5 a_h a_j a_pt 0 (-1) (-1) 1000000 e_we e_me p_c p_w p_h e_ov)), (a_h, (oc1 e_wa e_le e_st e_fo e_lc a_l a_g a_b a_s a_p a_w e_gb a_bb)), (a_g, (oc6 6 5 a_gn e_g)), (a_gn, (arI G 30 f_g)), (a_b, (oc6 5 24 a_bn e_b)), (a_bn, (arI G 120 f_b)), (a_p, (oc6 8 5 a_pn e_p)), (a_pn, (arI G 40 f_p)), (a_bb, (arJ G 24 f_bb)), (a_j, (oc2 a_as a_sk)), (a_as, (arI G 8 f_as)), (a_sk, (arJ G 50 f_sk)), (a_l, (arW G 6 f_l)), (a_lo, (oc3 e_cl a_hd a_sr a_cd)), (a_sr, (arI G n_sr f_sr)), (a_cd, (arI G n_cd f_cd)), (a_hd, (arI G n_hd f_hd)), (a_pt, (arI G 200 f_pt))] hP hD ?_
  clear hP hD
  intro hP hD
  refine lv_aload_n hx hb dX5_run_36 rfl (lv_at hl 0 rfl) ?_
  refine lv_iconst (v := 0) hx hb dX5_run_37 (by decide +kernel) ?_
  refine va_put (D := G.1) (ci := 5) (v := .int 0) (ty := .int) (C := RX5) (T := TX5) (N := 13) hx hb hts inG_X5 tyX5 tyX5_ok nmX5 hown hK hP hD hS 0 rfl rfl 7 (by decide +kernel) (hts _ fl_X5_49) (fun _ h9 => h9) rfl (by decide +kernel) rfl rfl (Nat.le_of_ble_eq_true rfl) dX5_run_38 ?_
  clear hP hD hS
  intro H locs hP hD hS
  refine g5_rs [(a_k, (oc5 a_h a_j a_pt 0 (-1) (-1) 1000000 0 e_me p_c p_w p_h e_ov)), (a_h, (oc1 e_wa e_le e_st e_fo e_lc a_l a_g a_b a_s a_p a_w e_gb a_bb)), (a_g, (oc6 6 5 a_gn e_g)), (a_gn, (arI G 30 f_g)), (a_b, (oc6 5 24 a_bn e_b)), (a_bn, (arI G 120 f_b)), (a_p, (oc6 8 5 a_pn e_p)), (a_pn, (arI G 40 f_p)), (a_bb, (arJ G 24 f_bb)), (a_j, (oc2 a_as a_sk)), (a_as, (arI G 8 f_as)), (a_sk, (arJ G 50 f_sk)), (a_l, (arW G 6 f_l)), (a_lo, (oc3 e_cl a_hd a_sr a_cd)), (a_sr, (arI G n_sr f_sr)), (a_cd, (arI G n_cd f_cd)), (a_hd, (arI G n_hd f_hd)), (a_pt, (arI G 200 f_pt))] hP hD ?_
  clear hP hD
  intro hP hD
  refine W.eq (g2 := F0 m 41 ls []) rfl ?_
  refine lv_aload_n hx hb dX5_run_41 rfl (lv_at hl 0 rfl) ?_
  refine lv_iload_n hx hb dX5_run_42 rfl (lv_at hl 1 rfl) ?_
  refine lv_iload_n hx hb dX5_run_43 rfl (lv_at hl 2 rfl) ?_
  refine lv_iload_n hx hb dX5_run_44 rfl (lv_at hl 3 rfl) ?_
  obtain ⟨hPc, hDc, hFc⟩ := g5_sub3 (wc := []) hP hD hS hA [] (by decide +kernel) rfl
  refine va_calli (va_runSN (As := [.int p_c, .int p_w, .int p_h]) (rest := [.ref a_k]) ⟨hx, hb, hml, hown, hts⟩ (x_isLookX l G H.size p_c p_w p_h) ⟨va_cnB 3 hts gW_X11_isLook rfl rfl rfl (hN.1 _ g5_nw_X5_52) (hts _ ini_X11) hs_X11_isLook ⟨Nat.le_of_ble_eq_true rfl, Nat.le_of_ble_eq_true rfl⟩, hts _ st_X11_isLook, trivial⟩ (g5_preS hPc hK hDc hN hT hS hFc) rfl rfl hl.1 rfl (lv_room (Nat.le_of_ble_eq_true rfl)) dX5_run_45 ⟨Nat.le_of_ble_eq_true rfl, Nat.le_of_ble_eq_true rfl⟩) hS (fun q _ h => hFc q h) hFc (fun r u t H locs ht hvm hw hB hz1 hk1 hS => ?_)
  obtain ⟨hP1, hD1⟩ := hB
  have hP1 := g5_ht ht hP1
  rcases hw with ⟨(i_1 : okL p_c p_w p_h), (i_2 : 0 ≤ p_c.toInt ∧ p_c.toInt ≤ 63), (i_3 : 0 ≤ p_w.toInt ∧ p_w.toInt ≤ 3), (i_4 : 0 ≤ p_h.toInt ∧ p_h.toInt ≤ 23), rfl, rfl⟩ | ⟨(i_5 : ¬ okL p_c p_w p_h), rfl, rfl⟩
  ·
    have hJ9 := g5_same hP hk1
    clear hP hPc hDc hFc ht hvm hz1 hk1 hP1 hD1
    have hP := hJ9
    clear hJ9
    refine lv_if_ne (tgt := 55) hx hb dX5_run_48 (by decide +kernel) (fun c_6 => ?_) (fun c_6 => ?_)
    ·
      refine lv_iconst (v := 0) hx hb dX5_run_55 (by decide +kernel) ?_
      refine va_put (D := G.1) (ci := 5) (v := .int 0) (ty := .boolean) (C := RX5) (T := TX5) (N := 13) hx hb hts inG_X5 tyX5 tyX5_ok nmX5 hown hK hP hD hS 0 rfl rfl 12 (by decide +kernel) (hts _ fl_X5_56) (fun _ h9 => h9) rfl (by decide +kernel) rfl rfl (Nat.le_of_ble_eq_true rfl) dX5_run_56 ?_
      clear hP hD hS
      intro H locs hP hD hS
      refine g5_rs [(a_k, (oc5 a_h a_j a_pt 0 (-1) (-1) 1000000 0 e_me p_c p_w p_h 0)), (a_h, (oc1 e_wa e_le e_st e_fo e_lc a_l a_g a_b a_s a_p a_w e_gb a_bb)), (a_g, (oc6 6 5 a_gn e_g)), (a_gn, (arI G 30 f_g)), (a_b, (oc6 5 24 a_bn e_b)), (a_bn, (arI G 120 f_b)), (a_p, (oc6 8 5 a_pn e_p)), (a_pn, (arI G 40 f_p)), (a_bb, (arJ G 24 f_bb)), (a_j, (oc2 a_as a_sk)), (a_as, (arI G 8 f_as)), (a_sk, (arJ G 50 f_sk)), (a_l, (arW G 6 f_l)), (a_lo, (oc3 e_cl a_hd a_sr a_cd)), (a_sr, (arI G n_sr f_sr)), (a_cd, (arI G n_cd f_cd)), (a_hd, (arI G n_hd f_hd)), (a_pt, (arI G 200 f_pt))] hP hD ?_
      clear hP hD
      intro hP hD
      refine lv_aload_n hx hb dX5_run_59 rfl (lv_at hl 0 rfl) ?_
      refine va_get (D := G.1) (ci := 5) (v := .ref a_h) (C := RX5) (T := TX5) (N := 13) hx hb hts inG_X5 hown hK hP 0 rfl rfl 0 (by decide +kernel) (hts _ fl_X5_22) (fun _ h9 => h9) rfl dX5_run_60 ?_
      refine W.eq (g2 := F0 m 63 ls [.ref a_h]) rfl ?_
      refine va_get (D := G.1) (ci := 1) (v := .long e_gb) (C := RX1) (T := TX1) (N := 13) hx hb hts inG_X1 hown hK hP 1 rfl rfl 11 (by decide +kernel) (hts _ fl_X5_60) (fun _ h9 => h9) rfl dX5_run_63 ?_
      refine lv_aload_n hx hb dX5_run_66 rfl (lv_at hl 0 rfl) ?_
      refine lv_iload hx hb dX5_run_67 (lv_at hl 4 rfl) ?_
      obtain ⟨hPc, hDc, hFc⟩ := g5_sub3 (wc := [(a_k, (oc5 a_h a_j a_pt 0 (-1) (-1) 1000000 0 e_me p_c p_w p_h 0)), (a_h, (oc1 e_wa e_le e_st e_fo e_lc a_l a_g a_b a_s a_p a_w e_gb a_bb)), (a_p, (oc6 8 5 a_pn e_p)), (a_pn, (arI G 40 f_p))]) hP hD hS hA [0, 1, 6, 7] (by decide +kernel) rfl
      refine va_calll (va_runV (As := [.int p_u]) (rest := [.long e_gb]) ⟨hx, hb, hml, hown, hts⟩ (k_hungX l G a_k a_h a_p a_pn a_j a_pt a_l a_g a_b a_s a_w a_bb H.size e_le e_st e_fo e_lc e_p 0 (-1) (-1) 1000000 0 e_me p_c p_w p_h 0 p_u e_wa e_gb f_p h_e_p ⟨by decide, by decide⟩ (gOK_cell e_pk)) (cwV 1 hts gV_X5_66 rfl rfl rfl hv_X5_hungBoard ⟨Nat.le_of_ble_eq_true rfl, Nat.le_of_ble_eq_true rfl⟩) (g5_preV hPc hK hDc hN hT hS hFc (ci := 5) (q0 := 0) rfl rfl) rfl rfl hl.1 rfl (lv_room (Nat.le_of_ble_eq_true rfl)) dX5_run_69 ⟨Nat.le_of_ble_eq_true rfl, Nat.le_of_ble_eq_true rfl⟩) hS (fun q _ h => hFc q h) hFc (fun r u t H locs ht hvm hw hB hz1 hk1 hS => ?_)
      obtain ⟨hP1, hD1⟩ := hB
      have hP1 := g5_ht ht hP1
      obtain ⟨z8, (i_7 : HUB z8 f_p e_p.toInt p_u e_p.toInt), y9, rfl⟩ := hw
      have hJ9 := va_join (wr := [(a_g, (oc6 6 5 a_gn e_g)), (a_gn, (arI G 30 f_g)), (a_b, (oc6 5 24 a_bn e_b)), (a_bn, (arI G 120 f_b)), (a_bb, (arJ G 24 f_bb)), (a_j, (oc2 a_as a_sk)), (a_as, (arI G 8 f_as)), (a_sk, (arJ G 50 f_sk)), (a_l, (arW G 6 f_l)), (a_lo, (oc3 e_cl a_hd a_sr a_cd)), (a_sr, (arI G n_sr f_sr)), (a_cd, (arI G n_cd f_cd)), (a_hd, (arI G n_hd f_hd)), (a_pt, (arI G 200 f_pt))]) hP hD [0, 1, 6, 7] [2, 3, 4, 5, 8, 9, 10, 11, 12, 13, 14, 15, 16, 17] rfl rfl (by decide +kernel) (by decide +kernel) hk1 hFc hP1 hD1
      clear hP hD hPc hDc hFc ht hvm hz1 hk1 hP1 hD1
      obtain ⟨hP, hD⟩ := hJ9
      refine g5_rs [(a_g, (oc6 6 5 a_gn e_g)), (a_gn, (arI G 30 f_g)), (a_b, (oc6 5 24 a_bn e_b)), (a_bn, (arI G 120 f_b)), (a_bb, (arJ G 24 f_bb)), (a_j, (oc2 a_as a_sk)), (a_as, (arI G 8 f_as)), (a_sk, (arJ G 50 f_sk)), (a_l, (arW G 6 f_l)), (a_lo, (oc3 e_cl a_hd a_sr a_cd)), (a_sr, (arI G n_sr f_sr)), (a_cd, (arI G n_cd f_cd)), (a_hd, (arI G n_hd f_hd)), (a_pt, (arI G 200 f_pt)), (a_k, (oc5 a_h a_j a_pt 0 (-1) (-1) 1000000 0 e_me p_c p_w p_h 0)), (a_h, (oc1 e_wa e_le e_st e_fo e_lc a_l a_g a_b a_s a_p a_w e_gb a_bb)), (a_p, (oc6 8 5 a_pn e_p)), (a_pn, (arI G 40 f_p))] hP hD ?_
      clear hP hD
      intro hP hD
      refine g5_tl (v := z8) y9 ?_
      refine lv_lor hx hb dX5_run_72 ?_
      refine W.eq (g2 := F0 m 73 ls [.long (e_gb ||| z8)]) rfl ?_
      refine lv_lstore (lv' := [(5, .long (e_gb ||| z8)), (0, .ref a_k), (1, .int p_c), (2, .int p_w), (3, .int p_h), (4, .int p_u)]) hx hb dX5_run_73 hl (by decide +kernel) rfl ?_
      clear hl
      intro ls hl
      refine lv_iconst (v := 0) hx hb dX5_run_75 (by decide +kernel) ?_
      refine lv_istore (lv' := [(7, .int 0), (5, .long (e_gb ||| z8)), (0, .ref a_k), (1, .int p_c), (2, .int p_w), (3, .int p_h), (4, .int p_u)]) hx hb dX5_run_76 hl (by decide +kernel) rfl ?_
      clear hl
      intro ls hl
      refine g5_loop (α := (Int32) × (Int32) × (Int32) × (Int32) × (Int32) × (Int32) × (Int32) × (Int32) × (Int32) × (Int32) × (Nat → Int32) × (Nat → Int32) × (Nat → Int64)) (fun (q : (Int32) × (Int32) × (Int32) × (Int32) × (Int32) × (Int32) × (Int32) × (Int32) × (Int32) × (Int32) × (Nat → Int32) × (Nat → Int32) × (Nat → Int64)) (ls : Array Slot) (H : Heap) (locs : List Loc) => match q with | (k_i, k_ln, k_se, k_lh, k_br, k_we, k_me, k_ce, k_wy, k_ho, k_pt, k_as, k_sk) => lv_has ls 9 [(7, .int k_i), (5, .long (e_gb ||| z8)), (0, .ref a_k), (1, .int p_c), (2, .int p_w), (3, .int p_h), (4, .int p_u)] ∧ va_P G.1 vwCl [(a_g, (oc6 6 5 a_gn e_g)), (a_gn, (arI G 30 f_g)), (a_b, (oc6 5 24 a_bn e_b)), (a_bn, (arI G 120 f_b)), (a_bb, (arJ G 24 f_bb)), (a_j, (oc2 a_as a_sk)), (a_as, (arI G 8 k_as)), (a_sk, (arJ G 50 k_sk)), (a_l, (arW G 6 f_l)), (a_lo, (oc3 e_cl a_hd a_sr a_cd)), (a_sr, (arI G n_sr f_sr)), (a_cd, (arI G n_cd f_cd)), (a_hd, (arI G n_hd f_hd)), (a_pt, (arI G 200 k_pt)), (a_k, (oc5 a_h a_j a_pt k_ln k_se k_lh k_br k_we k_me k_ce k_wy k_ho 0)), (a_h, (oc1 e_wa e_le e_st e_fo e_lc a_l a_g a_b a_s a_p a_w e_gb a_bb)), (a_p, (oc6 8 5 a_pn e_p)), (a_pn, (arI G 40 f_p))] H ∧ va_D A [(a_g, (oc6 6 5 a_gn e_g)), (a_gn, (arI G 30 f_g)), (a_b, (oc6 5 24 a_bn e_b)), (a_bn, (arI G 120 f_b)), (a_bb, (arJ G 24 f_bb)), (a_j, (oc2 a_as a_sk)), (a_as, (arI G 8 k_as)), (a_sk, (arJ G 50 k_sk)), (a_l, (arW G 6 f_l)), (a_lo, (oc3 e_cl a_hd a_sr a_cd)), (a_sr, (arI G n_sr f_sr)), (a_cd, (arI G n_cd f_cd)), (a_hd, (arI G n_hd f_hd)), (a_pt, (arI G 200 k_pt)), (a_k, (oc5 a_h a_j a_pt k_ln k_se k_lh k_br k_we k_me k_ce k_wy k_ho 0)), (a_h, (oc1 e_wa e_le e_st e_fo e_lc a_l a_g a_b a_s a_p a_w e_gb a_bb)), (a_p, (oc6 8 5 a_pn e_p)), (a_pn, (arI G 40 f_p))] ∧ va_S A s.heap H locs ∧ (0 ≤ k_i.toInt ∧ k_i.toInt ≤ 200) ∧ (0 ≤ k_ln.toInt ∧ k_ln.toInt ≤ 200) ∧ ((-1) ≤ k_lh.toInt ∧ k_lh.toInt ≤ 23) ∧ (0 ≤ k_br.toInt ∧ k_br.toInt ≤ 1000000) ∧ (0 ≤ k_ce.toInt ∧ k_ce.toInt ≤ 63) ∧ (0 ≤ k_wy.toInt ∧ k_wy.toInt ≤ 3) ∧ (0 ≤ k_ho.toInt ∧ k_ho.toInt ≤ 23) ∧ (k_ln.toInt = k_i.toInt) ∧ (k_se = -1) ∧ (∀ j : Nat, (j : Int) < k_ln.toInt → 0 ≤ (k_pt j).toInt ∧ (k_pt j).toInt ≤ 1535) ∧ (LKA f_ro g_w p_u p_c p_w p_h k_i.toInt.toNat k_ce k_wy k_ho k_br k_we k_pt)) (fun (q : (Int32) × (Int32) × (Int32) × (Int32) × (Int32) × (Int32) × (Int32) × (Int32) × (Int32) × (Int32) × (Nat → Int32) × (Nat → Int32) × (Nat → Int64)) => match q with | (k_i, k_ln, k_se, k_lh, k_br, k_we, k_me, k_ce, k_wy, k_ho, k_pt, k_as, k_sk) => Int.toNat (200 - k_i.toInt)) (0, 0, (-1), (-1), 1000000, 0, e_me, p_c, p_w, p_h, f_pt, f_as, f_sk) ⟨lv_sub hl [0, 1, 2, 3, 4, 5, 6] rfl, hP, hD, hS, ⟨by decide, by decide⟩, ⟨by decide, by decide⟩, ⟨by decide, by decide⟩, ⟨by decide, by decide⟩, i_2, i_3, i_4, (by decide +kernel), rfl, fun j h => absurd h (by have z : (0 : Int32).toInt = 0 := (by decide +kernel); omega), by show LKA f_ro g_w p_u p_c p_w p_h 0 _ _ _ _ _ _; exact lka_0⟩ ?_
      rintro ⟨k_i, k_ln, k_se, k_lh, k_br, k_we, k_me, k_ce, k_wy, k_ho, k_pt, k_as, k_sk⟩ ls H locs ⟨hl, hP, hD, hS, (i_10 : 0 ≤ k_i.toInt ∧ k_i.toInt ≤ 200), (i_11 : 0 ≤ k_ln.toInt ∧ k_ln.toInt ≤ 200), (i_12 : (-1) ≤ k_lh.toInt ∧ k_lh.toInt ≤ 23), (i_13 : 0 ≤ k_br.toInt ∧ k_br.toInt ≤ 1000000), (i_14 : 0 ≤ k_ce.toInt ∧ k_ce.toInt ≤ 63), (i_15 : 0 ≤ k_wy.toInt ∧ k_wy.toInt ≤ 3), (i_16 : 0 ≤ k_ho.toInt ∧ k_ho.toInt ≤ 23), (i_17 : k_ln.toInt = k_i.toInt), (i_18 : k_se = -1), (i_19 : ∀ j : Nat, (j : Int) < k_ln.toInt → 0 ≤ (k_pt j).toInt ∧ (k_pt j).toInt ≤ 1535), (i_20 : LKA f_ro g_w p_u p_c p_w p_h k_i.toInt.toNat k_ce k_wy k_ho k_br k_we k_pt)⟩ ih_78_21
      replace hl : lv_has ls 9 [(7, .int k_i), (5, .long (e_gb ||| z8)), (0, .ref a_k), (1, .int p_c), (2, .int p_w), (3, .int p_h), (4, .int p_u)] := hl
      refine g5_rs [(a_g, (oc6 6 5 a_gn e_g)), (a_gn, (arI G 30 f_g)), (a_b, (oc6 5 24 a_bn e_b)), (a_bn, (arI G 120 f_b)), (a_bb, (arJ G 24 f_bb)), (a_j, (oc2 a_as a_sk)), (a_as, (arI G 8 k_as)), (a_sk, (arJ G 50 k_sk)), (a_l, (arW G 6 f_l)), (a_lo, (oc3 e_cl a_hd a_sr a_cd)), (a_sr, (arI G n_sr f_sr)), (a_cd, (arI G n_cd f_cd)), (a_hd, (arI G n_hd f_hd)), (a_pt, (arI G 200 k_pt)), (a_k, (oc5 a_h a_j a_pt k_ln k_se k_lh k_br k_we k_me k_ce k_wy k_ho 0)), (a_h, (oc1 e_wa e_le e_st e_fo e_lc a_l a_g a_b a_s a_p a_w e_gb a_bb)), (a_p, (oc6 8 5 a_pn e_p)), (a_pn, (arI G 40 f_p))] hP hD ?_
      clear hP hD
      intro hP hD
      refine lv_iload hx hb dX5_run_78 (lv_at hl 0 rfl) ?_
      refine lv_sipush (v := 200) hx hb dX5_run_80 (by decide +kernel) ?_
      refine lv_icmp_ge (tgt := 227) hx hb dX5_run_83 (by decide +kernel) (fun c_22 => ?_) (fun c_22 => ?_)
      ·
        have i_22 : k_i.toInt ≥ 200 := g5_ge (a := k_i.toInt) (b := 200) rfl (by decide +kernel) c_22
        exact W.vret hx hb hr (fun t ht hW => ⟨⟨[(a_k, (oc5 a_h a_j a_pt k_ln k_se k_lh k_br k_we k_me k_ce k_wy k_ho 0)), (a_h, (oc1 e_wa e_le e_st e_fo e_lc a_l a_g a_b a_s a_p a_w e_gb a_bb)), (a_g, (oc6 6 5 a_gn e_g)), (a_gn, (arI G 30 f_g)), (a_b, (oc6 5 24 a_bn e_b)), (a_bn, (arI G 120 f_b)), (a_p, (oc6 8 5 a_pn e_p)), (a_pn, (arI G 40 f_p)), (a_bb, (arJ G 24 f_bb)), (a_j, (oc2 a_as a_sk)), (a_as, (arI G 8 k_as)), (a_sk, (arJ G 50 k_sk)), (a_l, (arW G 6 f_l)), (a_lo, (oc3 e_cl a_hd a_sr a_cd)), (a_sr, (arI G n_sr f_sr)), (a_cd, (arI G n_cd f_cd)), (a_hd, (arI G n_hd f_hd)), (a_pt, (arI G 200 k_pt))], rfl, ⟨k_ln, k_se, k_lh, k_br, k_we, k_me, k_ce, k_wy, k_ho, 0, k_pt, k_as, k_sk, i_11, ⟨by have zc_o_ov : (0 : Int32).toInt = 0 := (by decide +kernel); omega, by have zc_o_ov : (0 : Int32).toInt = 0 := (by decide +kernel); omega⟩, i_19, lka_end i_20 (by omega) (by omega) (by assumption), rfl⟩, by rw [ht]; exact hP.sub [14, 15, 0, 1, 2, 3, 16, 17, 4, 5, 6, 7, 8, 9, 10, 11, 12, 13] rfl, hD.sub [14, 15, 0, 1, 2, 3, 16, 17, 4, 5, 6, 7, 8, 9, 10, 11, 12, 13] (by decide +kernel) rfl⟩, hS.F ht⟩) hS.2.2 dX5_run_227
      ·
        have i_22 : k_i.toInt < 200 := g5_geN (a := k_i.toInt) (b := 200) rfl (by decide +kernel) c_22
        refine lv_aload_n hx hb dX5_run_86 rfl (lv_at hl 2 rfl) ?_
        refine va_get (D := G.1) (ci := 5) (v := .int 0) (C := RX5) (T := TX5) (N := 13) hx hb hts inG_X5 hown hK hP 14 rfl rfl 12 (by decide +kernel) (hts _ fl_X5_56) (fun _ h9 => h9) rfl dX5_run_87 ?_
        refine lv_if_ne (tgt := 227) hx hb dX5_run_90 (by decide +kernel) (fun c_23 => ?_) (fun c_23 => ?_)
        ·
          exact absurd c_23 (by decide +kernel)
        ·
          refine lv_aload_n hx hb dX5_run_93 rfl (lv_at hl 2 rfl) ?_
          refine va_get (D := G.1) (ci := 5) (v := .int k_ce) (C := RX5) (T := TX5) (N := 13) hx hb hts inG_X5 hown hK hP 14 rfl rfl 9 (by decide +kernel) (hts _ fl_X5_26) (fun _ h9 => h9) rfl dX5_run_94 ?_
          refine lv_aload_n hx hb dX5_run_97 rfl (lv_at hl 2 rfl) ?_
          refine va_get (D := G.1) (ci := 5) (v := .int k_wy) (C := RX5) (T := TX5) (N := 13) hx hb hts inG_X5 hown hK hP 14 rfl rfl 10 (by decide +kernel) (hts _ fl_X5_30) (fun _ h9 => h9) rfl dX5_run_98 ?_
          refine W.eq (g2 := F0 m 101 ls [.int k_wy, .int k_ce]) rfl ?_
          obtain ⟨hPc, hDc, hFc⟩ := g5_sub3 (wc := []) hP hD hS hA [] (by decide +kernel) rfl
          refine va_calli (va_runSN (As := [.int k_ce, .int k_wy]) (rest := []) ⟨hx, hb, hml, hown, hts⟩ (k_beside l G H.size k_ce k_wy i_14) ⟨va_cnB 2 hts gW_X11_beside rfl rfl rfl (hN.1 _ g5_nw_X5_70) (hts _ ini_X11) hs_X11_beside ⟨Nat.le_of_ble_eq_true rfl, Nat.le_of_ble_eq_true rfl⟩, hts _ st_X11_beside, trivial⟩ (g5_preS hPc hK hDc hN hT hS hFc) rfl rfl hl.1 rfl (lv_room (Nat.le_of_ble_eq_true rfl)) dX5_run_101 ⟨Nat.le_of_ble_eq_true rfl, Nat.le_of_ble_eq_true rfl⟩) hS (fun q _ h => hFc q h) hFc (fun r u t H locs ht hvm hw hB hz1 hk1 hS => ?_)
          obtain ⟨hP1, hD1⟩ := hB
          have hP1 := g5_ht ht hP1
          obtain ⟨z26, (i_24 : z26.toInt = bs k_ce.toInt k_wy.toInt), (i_25 : -1 ≤ z26.toInt ∧ z26.toInt ≤ 63), y27, rfl⟩ := hw
          have hJ9 := g5_same hP hk1
          clear hP hPc hDc hFc ht hvm hz1 hk1 hP1 hD1
          have hP := hJ9
          clear hJ9
          refine g5_ti (v := z26) y27 ?_
          refine lv_istore (lv' := [(8, .int z26), (7, .int k_i), (5, .long (e_gb ||| z8)), (0, .ref a_k), (1, .int p_c), (2, .int p_w), (3, .int p_h), (4, .int p_u)]) hx hb dX5_run_104 hl (by decide +kernel) rfl ?_
          clear hl
          intro ls hl
          refine lv_iload hx hb dX5_run_106 (lv_at hl 0 rfl) ?_
          refine lv_iconst (v := (-1)) hx hb dX5_run_108 (by decide +kernel) ?_
          refine lv_icmp_eq (tgt := 127) hx hb dX5_run_109 (by decide +kernel) (fun c_28 => ?_) (fun c_28 => ?_)
          ·
            have i_28 : z26.toInt = (-1) := g5_eq (a := z26.toInt) (b := (-1)) rfl (by decide +kernel) c_28
            exact W.vret hx hb hr (fun t ht hW => ⟨⟨[(a_k, (oc5 a_h a_j a_pt k_ln k_se k_lh k_br k_we k_me k_ce k_wy k_ho 0)), (a_h, (oc1 e_wa e_le e_st e_fo e_lc a_l a_g a_b a_s a_p a_w e_gb a_bb)), (a_g, (oc6 6 5 a_gn e_g)), (a_gn, (arI G 30 f_g)), (a_b, (oc6 5 24 a_bn e_b)), (a_bn, (arI G 120 f_b)), (a_p, (oc6 8 5 a_pn e_p)), (a_pn, (arI G 40 f_p)), (a_bb, (arJ G 24 f_bb)), (a_j, (oc2 a_as a_sk)), (a_as, (arI G 8 k_as)), (a_sk, (arJ G 50 k_sk)), (a_l, (arW G 6 f_l)), (a_lo, (oc3 e_cl a_hd a_sr a_cd)), (a_sr, (arI G n_sr f_sr)), (a_cd, (arI G n_cd f_cd)), (a_hd, (arI G n_hd f_hd)), (a_pt, (arI G 200 k_pt))], rfl, ⟨k_ln, k_se, k_lh, k_br, k_we, k_me, k_ce, k_wy, k_ho, 0, k_pt, k_as, k_sk, i_11, ⟨by have zc_o_ov : (0 : Int32).toInt = 0 := (by decide +kernel); omega, by have zc_o_ov : (0 : Int32).toInt = 0 := (by decide +kernel); omega⟩, i_19, lka_wall i_20 (by omega) (by omega) (by assumption) (Or.inl (by rw [← i_24]; omega)), rfl⟩, by rw [ht]; exact hP.sub [14, 15, 0, 1, 2, 3, 16, 17, 4, 5, 6, 7, 8, 9, 10, 11, 12, 13] rfl, hD.sub [14, 15, 0, 1, 2, 3, 16, 17, 4, 5, 6, 7, 8, 9, 10, 11, 12, 13] (by decide +kernel) rfl⟩, hS.F ht⟩) hS.2.2 dX5_run_127
          ·
            have n_28 : gNe (z26.toInt) ((-1)) := g5_eqN (a := z26.toInt) (b := (-1)) rfl (by decide +kernel) c_28
            have i_28 : z26.toInt ≥ 0 := by have z := g5_eqN (a := z26.toInt) (b := (-1)) (by rfl) (by decide +kernel) c_28; omega
            refine lv_aload_n hx hb dX5_run_112 rfl (lv_at hl 3 rfl) ?_
            refine va_get (D := G.1) (ci := 5) (v := .ref a_h) (C := RX5) (T := TX5) (N := 13) hx hb hts inG_X5 hown hK hP 14 rfl rfl 0 (by decide +kernel) (hts _ fl_X5_22) (fun _ h9 => h9) rfl dX5_run_113 ?_
            refine va_get (D := G.1) (ci := 1) (v := .long e_wa) (C := RX1) (T := TX1) (N := 13) hx hb hts inG_X1 hown hK hP 15 rfl rfl 0 (by decide +kernel) (hts _ fl_X5_74) (fun _ h9 => h9) rfl dX5_run_116 ?_
            refine lv_iload hx hb dX5_run_119 (lv_at hl 0 rfl) ?_
            refine W.eq (g2 := F0 m 121 ls [.int z26, .long e_wa]) rfl ?_
            obtain ⟨hPc, hDc, hFc⟩ := g5_sub3 (wc := []) hP hD hS hA [] (by decide +kernel) rfl
            refine va_calli (va_runSN (As := [.long e_wa, .int z26]) (rest := []) ⟨hx, hb, hml, hown, hts⟩ (k_isOn l G H.size z26 e_wa ⟨by omega, by omega⟩) ⟨va_cnB 2 hts gW_X11_isOn rfl rfl rfl (hN.1 _ g5_nw_X5_77) (hts _ ini_X11) hs_X11_isOn ⟨Nat.le_of_ble_eq_true rfl, Nat.le_of_ble_eq_true rfl⟩, hts _ st_X11_isOn, trivial⟩ (g5_preS hPc hK hDc hN hT hS hFc) rfl rfl hl.1 rfl (lv_room (Nat.le_of_ble_eq_true rfl)) dX5_run_121 ⟨Nat.le_of_ble_eq_true rfl, Nat.le_of_ble_eq_true rfl⟩) hS (fun q _ h => hFc q h) hFc (fun r u t H locs ht hvm hw hB hz1 hk1 hS => ?_)
            obtain ⟨hP1, hD1⟩ := hB
            have hP1 := g5_ht ht hP1
            rcases hw with ⟨(i_29 : onB e_wa z26.toInt = false), rfl, rfl⟩ | ⟨(i_30 : onB e_wa z26.toInt = true), rfl, rfl⟩
            ·
              have hJ9 := g5_same hP hk1
              clear hP hPc hDc hFc ht hvm hz1 hk1 hP1 hD1
              have hP := hJ9
              clear hJ9
              refine lv_if_eq (tgt := 128) hx hb dX5_run_124 (by decide +kernel) (fun c_31 => ?_) (fun c_31 => ?_)
              ·
                refine lv_aload_n hx hb dX5_run_128 rfl (lv_at hl 3 rfl) ?_
                refine lv_iload hx hb dX5_run_129 (lv_at hl 0 rfl) ?_
                refine va_put (D := G.1) (ci := 5) (v := .int z26) (ty := .int) (C := RX5) (T := TX5) (N := 13) hx hb hts inG_X5 tyX5 tyX5_ok nmX5 hown hK hP hD hS 14 rfl rfl 9 (by decide +kernel) (hts _ fl_X5_26) (fun _ h9 => h9) rfl (by decide +kernel) rfl rfl (Nat.le_of_ble_eq_true rfl) dX5_run_131 ?_
                clear hP hD hS
                intro H locs hP hD hS
                refine g5_rs [(a_g, (oc6 6 5 a_gn e_g)), (a_gn, (arI G 30 f_g)), (a_b, (oc6 5 24 a_bn e_b)), (a_bn, (arI G 120 f_b)), (a_bb, (arJ G 24 f_bb)), (a_j, (oc2 a_as a_sk)), (a_as, (arI G 8 k_as)), (a_sk, (arJ G 50 k_sk)), (a_l, (arW G 6 f_l)), (a_lo, (oc3 e_cl a_hd a_sr a_cd)), (a_sr, (arI G n_sr f_sr)), (a_cd, (arI G n_cd f_cd)), (a_hd, (arI G n_hd f_hd)), (a_pt, (arI G 200 k_pt)), (a_k, (oc5 a_h a_j a_pt k_ln k_se k_lh k_br k_we k_me z26 k_wy k_ho 0)), (a_h, (oc1 e_wa e_le e_st e_fo e_lc a_l a_g a_b a_s a_p a_w e_gb a_bb)), (a_p, (oc6 8 5 a_pn e_p)), (a_pn, (arI G 40 f_p))] hP hD ?_
                clear hP hD
                intro hP hD
                refine lv_aload_n hx hb dX5_run_134 rfl (lv_at hl 3 rfl) ?_
                refine W.eq (g2 := F0 m 135 ls [.ref a_k]) rfl ?_
                refine lv_aload_n hx hb dX5_run_135 rfl (lv_at hl 3 rfl) ?_
                refine va_get (D := G.1) (ci := 5) (v := .int k_ho) (C := RX5) (T := TX5) (N := 13) hx hb hts inG_X5 hown hK hP 14 rfl rfl 11 (by decide +kernel) (hts _ fl_X5_33) (fun _ h9 => h9) rfl dX5_run_136 ?_
                refine va_put (D := G.1) (ci := 5) (v := .int k_ho) (ty := .int) (C := RX5) (T := TX5) (N := 13) hx hb hts inG_X5 tyX5 tyX5_ok nmX5 hown hK hP hD hS 14 rfl rfl 5 (by decide +kernel) (hts _ fl_X5_42) (fun _ h9 => h9) rfl (by decide +kernel) rfl rfl (Nat.le_of_ble_eq_true rfl) dX5_run_139 ?_
                clear hP hD hS
                intro H locs hP hD hS
                refine g5_rs [(a_g, (oc6 6 5 a_gn e_g)), (a_gn, (arI G 30 f_g)), (a_b, (oc6 5 24 a_bn e_b)), (a_bn, (arI G 120 f_b)), (a_bb, (arJ G 24 f_bb)), (a_j, (oc2 a_as a_sk)), (a_as, (arI G 8 k_as)), (a_sk, (arJ G 50 k_sk)), (a_l, (arW G 6 f_l)), (a_lo, (oc3 e_cl a_hd a_sr a_cd)), (a_sr, (arI G n_sr f_sr)), (a_cd, (arI G n_cd f_cd)), (a_hd, (arI G n_hd f_hd)), (a_pt, (arI G 200 k_pt)), (a_k, (oc5 a_h a_j a_pt k_ln k_se k_ho k_br k_we k_me z26 k_wy k_ho 0)), (a_h, (oc1 e_wa e_le e_st e_fo e_lc a_l a_g a_b a_s a_p a_w e_gb a_bb)), (a_p, (oc6 8 5 a_pn e_p)), (a_pn, (arI G 40 f_p))] hP hD ?_
                clear hP hD
                intro hP hD
                refine lv_aload_n hx hb dX5_run_142 rfl (lv_at hl 3 rfl) ?_
                refine va_get (D := G.1) (ci := 5) (v := .ref a_pt) (C := RX5) (T := TX5) (N := 13) hx hb hts inG_X5 hown hK hP 14 rfl rfl 2 (by decide +kernel) (hts _ fl_X5_18) (fun _ h9 => h9) rfl dX5_run_143 ?_
                refine W.eq (g2 := F0 m 146 ls [.ref a_pt]) rfl ?_
                refine lv_iload hx hb dX5_run_146 (lv_at hl 1 rfl) ?_
                refine lv_aload_n hx hb dX5_run_148 rfl (lv_at hl 3 rfl) ?_
                refine va_get (D := G.1) (ci := 5) (v := .int k_ho) (C := RX5) (T := TX5) (N := 13) hx hb hts inG_X5 hown hK hP 14 rfl rfl 11 (by decide +kernel) (hts _ fl_X5_33) (fun _ h9 => h9) rfl dX5_run_149 ?_
                refine lv_bipush (v := 64) hx hb dX5_run_152 (by decide +kernel) ?_
                refine lv_imul hx hb dX5_run_154 ?_
                have t_32 : (k_ho * 64).toInt = k_ho.toInt * 64 := g5_imul (a := k_ho.toInt) (b := 64) (by rfl) (by decide +kernel) (by omega) (by omega)
                refine W.eq (g2 := F0 m 155 ls [.int (k_ho * 64), .int k_i, .ref a_pt]) rfl ?_
                refine lv_aload_n hx hb dX5_run_155 rfl (lv_at hl 3 rfl) ?_
                refine va_get (D := G.1) (ci := 5) (v := .int z26) (C := RX5) (T := TX5) (N := 13) hx hb hts inG_X5 hown hK hP 14 rfl rfl 9 (by decide +kernel) (hts _ fl_X5_26) (fun _ h9 => h9) rfl dX5_run_156 ?_
                refine lv_iadd hx hb dX5_run_159 ?_
                have t_33 : ((k_ho * 64) + z26).toInt = (k_ho * 64).toInt + z26.toInt := g5_iadd (a := (k_ho * 64).toInt) (b := z26.toInt) (by rfl) (by rfl) (by omega) (by omega)
                refine va_iast hx hb hK hP hD hS 13 0 rfl rfl (i := k_i) (x := ((k_ho * 64) + z26)) (vp_in_iff.mpr ⟨by omega, by omega⟩) dX5_run_160 ?_
                clear hP hD hS
                intro H locs hP hD hS
                refine g5_rs [(a_g, (oc6 6 5 a_gn e_g)), (a_gn, (arI G 30 f_g)), (a_b, (oc6 5 24 a_bn e_b)), (a_bn, (arI G 120 f_b)), (a_bb, (arJ G 24 f_bb)), (a_j, (oc2 a_as a_sk)), (a_as, (arI G 8 k_as)), (a_sk, (arJ G 50 k_sk)), (a_l, (arW G 6 f_l)), (a_lo, (oc3 e_cl a_hd a_sr a_cd)), (a_sr, (arI G n_sr f_sr)), (a_cd, (arI G n_cd f_cd)), (a_hd, (arI G n_hd f_hd)), (a_pt, (arI G 200 (upd k_pt k_i.toNatClampNeg ((k_ho * 64) + z26)))), (a_k, (oc5 a_h a_j a_pt k_ln k_se k_ho k_br k_we k_me z26 k_wy k_ho 0)), (a_h, (oc1 e_wa e_le e_st e_fo e_lc a_l a_g a_b a_s a_p a_w e_gb a_bb)), (a_p, (oc6 8 5 a_pn e_p)), (a_pn, (arI G 40 f_p))] hP hD ?_
                clear hP hD
                intro hP hD
                refine lv_aload_n hx hb dX5_run_161 rfl (lv_at hl 3 rfl) ?_
                refine W.eq (g2 := F0 m 162 ls [.ref a_k]) rfl ?_
                refine lv_iload hx hb dX5_run_162 (lv_at hl 1 rfl) ?_
                refine lv_iconst (v := 1) hx hb dX5_run_164 (by decide +kernel) ?_
                refine lv_iadd hx hb dX5_run_165 ?_
                have t_34 : (k_i + 1).toInt = k_i.toInt + 1 := g5_iadd (a := k_i.toInt) (b := 1) (by rfl) (by decide +kernel) (by omega) (by omega)
                refine va_put (D := G.1) (ci := 5) (v := .int (k_i + 1)) (ty := .int) (C := RX5) (T := TX5) (N := 13) hx hb hts inG_X5 tyX5 tyX5_ok nmX5 hown hK hP hD hS 14 rfl rfl 3 (by decide +kernel) (hts _ fl_X5_36) (fun _ h9 => h9) rfl (by decide +kernel) rfl rfl (Nat.le_of_ble_eq_true rfl) dX5_run_166 ?_
                clear hP hD hS
                intro H locs hP hD hS
                refine g5_rs [(a_g, (oc6 6 5 a_gn e_g)), (a_gn, (arI G 30 f_g)), (a_b, (oc6 5 24 a_bn e_b)), (a_bn, (arI G 120 f_b)), (a_bb, (arJ G 24 f_bb)), (a_j, (oc2 a_as a_sk)), (a_as, (arI G 8 k_as)), (a_sk, (arJ G 50 k_sk)), (a_l, (arW G 6 f_l)), (a_lo, (oc3 e_cl a_hd a_sr a_cd)), (a_sr, (arI G n_sr f_sr)), (a_cd, (arI G n_cd f_cd)), (a_hd, (arI G n_hd f_hd)), (a_pt, (arI G 200 (upd k_pt k_i.toNatClampNeg ((k_ho * 64) + z26)))), (a_k, (oc5 a_h a_j a_pt (k_i + 1) k_se k_ho k_br k_we k_me z26 k_wy k_ho 0)), (a_h, (oc1 e_wa e_le e_st e_fo e_lc a_l a_g a_b a_s a_p a_w e_gb a_bb)), (a_p, (oc6 8 5 a_pn e_p)), (a_pn, (arI G 40 f_p))] hP hD ?_
                clear hP hD
                intro hP hD
                refine lv_aload_n hx hb dX5_run_169 rfl (lv_at hl 3 rfl) ?_
                refine W.eq (g2 := F0 m 170 ls [.ref a_k]) rfl ?_
                refine va_get (D := G.1) (ci := 5) (v := .ref a_h) (C := RX5) (T := TX5) (N := 13) hx hb hts inG_X5 hown hK hP 14 rfl rfl 0 (by decide +kernel) (hts _ fl_X5_22) (fun _ h9 => h9) rfl dX5_run_170 ?_
                refine va_get (D := G.1) (ci := 1) (v := .ref a_bb) (C := RX1) (T := TX1) (N := 13) hx hb hts inG_X1 hown hK hP 15 rfl rfl 12 (by decide +kernel) (hts _ fl_X5_81) (fun _ h9 => h9) rfl dX5_run_173 ?_
                refine lv_aload_n hx hb dX5_run_176 rfl (lv_at hl 3 rfl) ?_
                refine va_get (D := G.1) (ci := 5) (v := .int k_ho) (C := RX5) (T := TX5) (N := 13) hx hb hts inG_X5 hown hK hP 14 rfl rfl 11 (by decide +kernel) (hts _ fl_X5_33) (fun _ h9 => h9) rfl dX5_run_177 ?_
                refine va_lald hx hb hK hP 4 1 rfl rfl (i := k_ho) (vp_in_iff.mpr ⟨by omega, by omega⟩) dX5_run_180 ?_
                refine W.eq (g2 := F0 m 181 ls [.long (f_bb k_ho.toNatClampNeg)]) rfl ?_
                refine lv_lload hx hb dX5_run_181 (lv_at hl 2 rfl) ?_
                refine lv_lor hx hb dX5_run_183 ?_
                refine lv_aload_n hx hb dX5_run_184 rfl (lv_at hl 3 rfl) ?_
                refine va_get (D := G.1) (ci := 5) (v := .int z26) (C := RX5) (T := TX5) (N := 13) hx hb hts inG_X5 hown hK hP 14 rfl rfl 9 (by decide +kernel) (hts _ fl_X5_26) (fun _ h9 => h9) rfl dX5_run_185 ?_
                obtain ⟨hPc, hDc, hFc⟩ := g5_sub3 (wc := []) hP hD hS hA [] (by decide +kernel) rfl
                refine va_calli (va_runSN (As := [.long ((f_bb k_ho.toNatClampNeg) ||| (e_gb ||| z8)), .int z26]) (rest := []) ⟨hx, hb, hml, hown, hts⟩ (k_isOn l G H.size z26 ((f_bb k_ho.toNatClampNeg) ||| (e_gb ||| z8)) ⟨by omega, by omega⟩) ⟨va_cnB 2 hts gW_X11_isOn rfl rfl rfl (hN.1 _ g5_nw_X5_77) (hts _ ini_X11) hs_X11_isOn ⟨Nat.le_of_ble_eq_true rfl, Nat.le_of_ble_eq_true rfl⟩, hts _ st_X11_isOn, trivial⟩ (g5_preS hPc hK hDc hN hT hS hFc) rfl rfl hl.1 rfl (lv_room (Nat.le_of_ble_eq_true rfl)) dX5_run_188 ⟨Nat.le_of_ble_eq_true rfl, Nat.le_of_ble_eq_true rfl⟩) hS (fun q _ h => hFc q h) hFc (fun r u t H locs ht hvm hw hB hz1 hk1 hS => ?_)
                obtain ⟨hP1, hD1⟩ := hB
                have hP1 := g5_ht ht hP1
                rcases hw with ⟨(i_35 : onB ((f_bb k_ho.toNatClampNeg) ||| (e_gb ||| z8)) z26.toInt = false), rfl, rfl⟩ | ⟨(i_36 : onB ((f_bb k_ho.toNatClampNeg) ||| (e_gb ||| z8)) z26.toInt = true), rfl, rfl⟩
                ·
                  have hJ9 := g5_same hP hk1
                  clear hP hPc hDc hFc ht hvm hz1 hk1 hP1 hD1
                  have hP := hJ9
                  clear hJ9
                  obtain ⟨hbb_n, hgs_n⟩ := onB_orF i_35
                  obtain ⟨hgb_n, hsb_n⟩ := onB_orF hgs_n
                  have hng := gl_bit e_qg (ce := z26) (by omega) hgb_n
                  have hns := sp_bit e_qp (ce := z26) i_7 (by omega) hsb_n
                  refine lv_if_eq (tgt := 221) hx hb dX5_run_191 (by decide +kernel) (fun c_37 => ?_) (fun c_37 => ?_)
                  ·
                    refine lv_iinc (v := (k_i + 1)) (lv' := [(7, .int (k_i + 1)), (8, .int z26), (5, .long (e_gb ||| z8)), (0, .ref a_k), (1, .int p_c), (2, .int p_w), (3, .int p_h), (4, .int p_u)]) hx hb dX5_run_221 hl (k := 1) rfl rfl (by decide +kernel) rfl ?_
                    clear hl
                    intro ls hl
                    have t_38 : (k_i + 1).toInt = k_i.toInt + 1 := g5_iadd (a := k_i.toInt) (b := 1) rfl (by decide +kernel) (by omega) (by omega)
                    refine lv_goto (tgt := 78) hx hb dX5_run_224 (by decide +kernel) ?_
                    exact ih_78_21 ((k_i + 1), (k_i + 1), k_se, k_ho, k_br, k_we, k_me, z26, k_wy, k_ho, (upd k_pt k_i.toNatClampNeg ((k_ho * 64) + z26)), k_as, k_sk) ls H locs (show Int.toNat (200 - (k_i + 1).toInt) < Int.toNat (200 - k_i.toInt) from g_up (show k_i.toInt < (k_i + 1).toInt by omega) (show k_i.toInt < 200 by omega)) ⟨lv_sub hl [0, 2, 3, 4, 5, 6, 7] rfl, hP, hD, hS, ⟨by omega, by omega⟩, ⟨by omega, by omega⟩, ⟨by omega, by omega⟩, i_13, ⟨by omega, by omega⟩, i_15, i_16, by omega, by assumption, g_rows (k := k_i) (fun j hj => i_19 j (by omega)) (by omega) (by omega) (by omega), lka_go (n := (k_i + 1)) i_20 (by rw [← i_24]; exact fun q9 => q9.elim (fun q8 => by unfold gNe at *; omega) (wl_n e_qh (by omega) (Or.inr i_29))) i_24 (by omega) rfl (by omega) (bd_bit e_qb (by omega) (by omega) hbb_n) (met_n hng hns) (by omega)⟩
                  ·
                    exact absurd c_37 (by decide +kernel)
                ·
                  have hJ9 := g5_same hP hk1
                  clear hP hPc hDc hFc ht hvm hz1 hk1 hP1 hD1
                  have hP := hJ9
                  clear hJ9
                  refine lv_if_eq (tgt := 221) hx hb dX5_run_191 (by decide +kernel) (fun c_39 => ?_) (fun c_39 => ?_)
                  ·
                    exact absurd c_39 (by decide +kernel)
                  ·
                    refine lv_aload_n hx hb dX5_run_194 rfl (lv_at hl 3 rfl) ?_
                    obtain ⟨hPc, hDc, hFc⟩ := g5_sub3 (wc := [(a_k, (oc5 a_h a_j a_pt (k_i + 1) k_se k_ho k_br k_we k_me z26 k_wy k_ho 0)), (a_h, (oc1 e_wa e_le e_st e_fo e_lc a_l a_g a_b a_s a_p a_w e_gb a_bb)), (a_b, (oc6 5 24 a_bn e_b)), (a_bn, (arI G 120 f_b)), (a_j, (oc2 a_as a_sk)), (a_as, (arI G 8 k_as)), (a_sk, (arJ G 50 k_sk)), (a_l, (arW G 6 f_l)), (a_lo, (oc3 e_cl a_hd a_sr a_cd)), (a_sr, (arI G n_sr f_sr)), (a_cd, (arI G n_cd f_cd)), (a_hd, (arI G n_hd f_hd))]) hP hD hS hA [14, 15, 2, 3, 5, 6, 7, 8, 9, 10, 11, 12] (by decide +kernel) rfl
                    refine va_callv (va_runV (As := []) (rest := []) ⟨hx, hb, hml, hown, hts⟩ (k_meetBodiesXL l G a_k a_h a_b a_bn a_j a_as a_sk a_l a_lo a_sr a_cd a_hd a_pt a_g a_s a_p a_w a_bb H.size (k_i + 1) k_se k_ho k_br k_we k_me z26 k_wy k_ho 0 e_le e_st e_fo e_lc e_b e_cl e_wa e_gb f_b k_as k_sk f_l f_sr f_cd f_hd f_ro g_w g_L n_sr n_cd n_hd i_13 ⟨by omega, by omega⟩ i_15 i_16 ⟨by decide, by decide⟩ h_e_b h_e_cl (e_f) (e_a) (e_hn) (e_hs) (e_hk) (e_c) (e_w) (e_lw) (e_lv) (e_f1) (e_ht)) (cwV 0 hts gV_X5_85 rfl rfl rfl hv_X5_meetBodies ⟨Nat.le_of_ble_eq_true rfl, Nat.le_of_ble_eq_true rfl⟩) (g5_preV hPc hK hDc hN hT hS hFc (ci := 5) (q0 := 0) rfl rfl) rfl rfl hl.1 rfl (lv_room (Nat.le_of_ble_eq_true rfl)) dX5_run_195 ⟨Nat.le_of_ble_eq_true rfl, Nat.le_of_ble_eq_true rfl⟩) hS (fun q _ h => hFc q h) hFc (fun u t H locs ht hvm hw hB hz1 hk1 hS => ?_)
                    obtain ⟨hP1, hD1⟩ := hB
                    have hP1 := g5_ht ht hP1
                    rcases hw with ⟨z42, z43, z44, (i_40 : 0 ≤ z42.toInt ∧ z42.toInt ≤ 4), (i_41 : z42 = seenF f_ro g_w z26 k_ho k_wy (k_i + 1) k_br), rfl⟩ | ⟨z46, z47, (i_45 : seenF f_ro g_w z26 k_ho k_wy (k_i + 1) k_br = -1), rfl⟩
                    ·
                      have hJ9 := va_join (wr := [(a_g, (oc6 6 5 a_gn e_g)), (a_gn, (arI G 30 f_g)), (a_bb, (arJ G 24 f_bb)), (a_pt, (arI G 200 (upd k_pt k_i.toNatClampNeg ((k_ho * 64) + z26)))), (a_p, (oc6 8 5 a_pn e_p)), (a_pn, (arI G 40 f_p))]) hP hD [14, 15, 2, 3, 5, 6, 7, 8, 9, 10, 11, 12] [0, 1, 4, 13, 16, 17] rfl rfl (by decide +kernel) (by decide +kernel) hk1 hFc hP1 hD1
                      clear hP hD hPc hDc hFc ht hvm hz1 hk1 hP1 hD1
                      obtain ⟨hP, hD⟩ := hJ9
                      refine g5_rs [(a_g, (oc6 6 5 a_gn e_g)), (a_gn, (arI G 30 f_g)), (a_bb, (arJ G 24 f_bb)), (a_pt, (arI G 200 (upd k_pt k_i.toNatClampNeg ((k_ho * 64) + z26)))), (a_p, (oc6 8 5 a_pn e_p)), (a_pn, (arI G 40 f_p)), (a_k, (oc5 a_h a_j a_pt (k_i + 1) z42 k_ho k_br k_we k_me z26 k_wy k_ho 1)), (a_h, (oc1 e_wa e_le e_st e_fo e_lc a_l a_g a_b a_s a_p a_w e_gb a_bb)), (a_b, (oc6 5 24 a_bn e_b)), (a_bn, (arI G 120 f_b)), (a_j, (oc2 a_as a_sk)), (a_as, (arI G 8 z43)), (a_sk, (arJ G 50 z44)), (a_l, (arW G 6 f_l)), (a_lo, (oc3 e_cl a_hd a_sr a_cd)), (a_sr, (arI G n_sr f_sr)), (a_cd, (arI G n_cd f_cd)), (a_hd, (arI G n_hd f_hd))] hP hD ?_
                      clear hP hD
                      intro hP hD
                      refine lv_aload_n hx hb dX5_run_198 rfl (lv_at hl 3 rfl) ?_
                      refine va_get (D := G.1) (ci := 5) (v := .int 1) (C := RX5) (T := TX5) (N := 13) hx hb hts inG_X5 hown hK hP 6 rfl rfl 12 (by decide +kernel) (hts _ fl_X5_56) (fun _ h9 => h9) rfl dX5_run_199 ?_
                      refine lv_if_ne (tgt := 221) hx hb dX5_run_202 (by decide +kernel) (fun c_48 => ?_) (fun c_48 => ?_)
                      ·
                        refine lv_iinc (v := (k_i + 1)) (lv' := [(7, .int (k_i + 1)), (8, .int z26), (5, .long (e_gb ||| z8)), (0, .ref a_k), (1, .int p_c), (2, .int p_w), (3, .int p_h), (4, .int p_u)]) hx hb dX5_run_221 hl (k := 1) rfl rfl (by decide +kernel) rfl ?_
                        clear hl
                        intro ls hl
                        have t_49 : (k_i + 1).toInt = k_i.toInt + 1 := g5_iadd (a := k_i.toInt) (b := 1) rfl (by decide +kernel) (by omega) (by omega)
                        refine lv_goto (tgt := 78) hx hb dX5_run_224 (by decide +kernel) ?_
                        refine lv_iload hx hb dX5_run_78 (lv_at hl 0 rfl) ?_
                        refine lv_sipush (v := 200) hx hb dX5_run_80 (by decide +kernel) ?_
                        refine W.eq (g2 := F0 m 83 ls [.int 200, .int (k_i + 1)]) rfl ?_
                        refine lv_icmp_ge (tgt := 227) hx hb dX5_run_83 (by decide +kernel) (fun c_50 => ?_) (fun c_50 => ?_)
                        ·
                          have i_50 : (k_i.toInt + 1) ≥ 200 := by have z := g5_ge (a := (k_i + 1).toInt) (b := 200) (by rfl) (by decide +kernel) c_50; omega
                          exact W.vret hx hb hr (fun t ht hW => ⟨⟨[(a_k, (oc5 a_h a_j a_pt (k_i + 1) z42 k_ho k_br k_we k_me z26 k_wy k_ho 1)), (a_h, (oc1 e_wa e_le e_st e_fo e_lc a_l a_g a_b a_s a_p a_w e_gb a_bb)), (a_g, (oc6 6 5 a_gn e_g)), (a_gn, (arI G 30 f_g)), (a_b, (oc6 5 24 a_bn e_b)), (a_bn, (arI G 120 f_b)), (a_p, (oc6 8 5 a_pn e_p)), (a_pn, (arI G 40 f_p)), (a_bb, (arJ G 24 f_bb)), (a_j, (oc2 a_as a_sk)), (a_as, (arI G 8 z43)), (a_sk, (arJ G 50 z44)), (a_l, (arW G 6 f_l)), (a_lo, (oc3 e_cl a_hd a_sr a_cd)), (a_sr, (arI G n_sr f_sr)), (a_cd, (arI G n_cd f_cd)), (a_hd, (arI G n_hd f_hd)), (a_pt, (arI G 200 (upd k_pt k_i.toNatClampNeg ((k_ho * 64) + z26))))], rfl, ⟨(k_i + 1), z42, k_ho, k_br, k_we, k_me, z26, k_wy, k_ho, 1, (upd k_pt k_i.toNatClampNeg ((k_ho * 64) + z26)), z43, z44, ⟨by omega, by omega⟩, ⟨by have zc_o_ov : (1 : Int32).toInt = 1 := (by decide +kernel); omega, by have zc_o_ov : (1 : Int32).toInt = 1 := (by decide +kernel); omega⟩, g_rows (k := k_i) (fun j hj => i_19 j (by omega)) (by omega) (by omega) (by omega), lka_body (n := (k_i + 1)) i_20 (by omega) (by rw [← i_24]; exact fun q9 => q9.elim (fun q8 => by unfold gNe at *; omega) (wl_n e_qh (by omega) (Or.inr i_29))) i_24 (by omega) rfl (by omega) i_41 (by omega), rfl⟩, by rw [ht]; exact hP.sub [6, 7, 0, 1, 8, 9, 4, 5, 2, 10, 11, 12, 13, 14, 15, 16, 17, 3] rfl, hD.sub [6, 7, 0, 1, 8, 9, 4, 5, 2, 10, 11, 12, 13, 14, 15, 16, 17, 3] (by decide +kernel) rfl⟩, hS.F ht⟩) hS.2.2 dX5_run_227
                        ·
                          have i_50 : (k_i.toInt + 1) < 200 := by have z := g5_geN (a := (k_i + 1).toInt) (b := 200) (by rfl) (by decide +kernel) c_50; omega
                          refine lv_aload_n hx hb dX5_run_86 rfl (lv_at hl 3 rfl) ?_
                          refine va_get (D := G.1) (ci := 5) (v := .int 1) (C := RX5) (T := TX5) (N := 13) hx hb hts inG_X5 hown hK hP 6 rfl rfl 12 (by decide +kernel) (hts _ fl_X5_56) (fun _ h9 => h9) rfl dX5_run_87 ?_
                          refine lv_if_ne (tgt := 227) hx hb dX5_run_90 (by decide +kernel) (fun c_51 => ?_) (fun c_51 => ?_)
                          ·
                            exact W.vret hx hb hr (fun t ht hW => ⟨⟨[(a_k, (oc5 a_h a_j a_pt (k_i + 1) z42 k_ho k_br k_we k_me z26 k_wy k_ho 1)), (a_h, (oc1 e_wa e_le e_st e_fo e_lc a_l a_g a_b a_s a_p a_w e_gb a_bb)), (a_g, (oc6 6 5 a_gn e_g)), (a_gn, (arI G 30 f_g)), (a_b, (oc6 5 24 a_bn e_b)), (a_bn, (arI G 120 f_b)), (a_p, (oc6 8 5 a_pn e_p)), (a_pn, (arI G 40 f_p)), (a_bb, (arJ G 24 f_bb)), (a_j, (oc2 a_as a_sk)), (a_as, (arI G 8 z43)), (a_sk, (arJ G 50 z44)), (a_l, (arW G 6 f_l)), (a_lo, (oc3 e_cl a_hd a_sr a_cd)), (a_sr, (arI G n_sr f_sr)), (a_cd, (arI G n_cd f_cd)), (a_hd, (arI G n_hd f_hd)), (a_pt, (arI G 200 (upd k_pt k_i.toNatClampNeg ((k_ho * 64) + z26))))], rfl, ⟨(k_i + 1), z42, k_ho, k_br, k_we, k_me, z26, k_wy, k_ho, 1, (upd k_pt k_i.toNatClampNeg ((k_ho * 64) + z26)), z43, z44, ⟨by omega, by omega⟩, ⟨by have zc_o_ov : (1 : Int32).toInt = 1 := (by decide +kernel); omega, by have zc_o_ov : (1 : Int32).toInt = 1 := (by decide +kernel); omega⟩, g_rows (k := k_i) (fun j hj => i_19 j (by omega)) (by omega) (by omega) (by omega), lka_body (n := (k_i + 1)) i_20 (by omega) (by rw [← i_24]; exact fun q9 => q9.elim (fun q8 => by unfold gNe at *; omega) (wl_n e_qh (by omega) (Or.inr i_29))) i_24 (by omega) rfl (by omega) i_41 (by omega), rfl⟩, by rw [ht]; exact hP.sub [6, 7, 0, 1, 8, 9, 4, 5, 2, 10, 11, 12, 13, 14, 15, 16, 17, 3] rfl, hD.sub [6, 7, 0, 1, 8, 9, 4, 5, 2, 10, 11, 12, 13, 14, 15, 16, 17, 3] (by decide +kernel) rfl⟩, hS.F ht⟩) hS.2.2 dX5_run_227
                          ·
                            exact absurd c_51 (by decide +kernel)
                      ·
                        exact absurd c_48 (by decide +kernel)
                    ·
                      have hJ9 := va_join (wr := [(a_g, (oc6 6 5 a_gn e_g)), (a_gn, (arI G 30 f_g)), (a_bb, (arJ G 24 f_bb)), (a_pt, (arI G 200 (upd k_pt k_i.toNatClampNeg ((k_ho * 64) + z26)))), (a_p, (oc6 8 5 a_pn e_p)), (a_pn, (arI G 40 f_p))]) hP hD [14, 15, 2, 3, 5, 6, 7, 8, 9, 10, 11, 12] [0, 1, 4, 13, 16, 17] rfl rfl (by decide +kernel) (by decide +kernel) hk1 hFc hP1 hD1
                      clear hP hD hPc hDc hFc ht hvm hz1 hk1 hP1 hD1
                      obtain ⟨hP, hD⟩ := hJ9
                      refine g5_rs [(a_g, (oc6 6 5 a_gn e_g)), (a_gn, (arI G 30 f_g)), (a_bb, (arJ G 24 f_bb)), (a_pt, (arI G 200 (upd k_pt k_i.toNatClampNeg ((k_ho * 64) + z26)))), (a_p, (oc6 8 5 a_pn e_p)), (a_pn, (arI G 40 f_p)), (a_k, (oc5 a_h a_j a_pt (k_i + 1) k_se k_ho k_br k_we k_me z26 k_wy k_ho 0)), (a_h, (oc1 e_wa e_le e_st e_fo e_lc a_l a_g a_b a_s a_p a_w e_gb a_bb)), (a_b, (oc6 5 24 a_bn e_b)), (a_bn, (arI G 120 f_b)), (a_j, (oc2 a_as a_sk)), (a_as, (arI G 8 z46)), (a_sk, (arJ G 50 z47)), (a_l, (arW G 6 f_l)), (a_lo, (oc3 e_cl a_hd a_sr a_cd)), (a_sr, (arI G n_sr f_sr)), (a_cd, (arI G n_cd f_cd)), (a_hd, (arI G n_hd f_hd))] hP hD ?_
                      clear hP hD
                      intro hP hD
                      refine lv_aload_n hx hb dX5_run_198 rfl (lv_at hl 3 rfl) ?_
                      refine va_get (D := G.1) (ci := 5) (v := .int 0) (C := RX5) (T := TX5) (N := 13) hx hb hts inG_X5 hown hK hP 6 rfl rfl 12 (by decide +kernel) (hts _ fl_X5_56) (fun _ h9 => h9) rfl dX5_run_199 ?_
                      refine lv_if_ne (tgt := 221) hx hb dX5_run_202 (by decide +kernel) (fun c_52 => ?_) (fun c_52 => ?_)
                      ·
                        exact absurd c_52 (by decide +kernel)
                      ·
                        refine lv_lload hx hb dX5_run_205 (lv_at hl 2 rfl) ?_
                        refine lv_aload_n hx hb dX5_run_207 rfl (lv_at hl 3 rfl) ?_
                        refine va_get (D := G.1) (ci := 5) (v := .int z26) (C := RX5) (T := TX5) (N := 13) hx hb hts inG_X5 hown hK hP 6 rfl rfl 9 (by decide +kernel) (hts _ fl_X5_26) (fun _ h9 => h9) rfl dX5_run_208 ?_
                        obtain ⟨hPc, hDc, hFc⟩ := g5_sub3 (wc := []) hP hD hS hA [] (by decide +kernel) rfl
                        refine va_calli (va_runSN (As := [.long (e_gb ||| z8), .int z26]) (rest := []) ⟨hx, hb, hml, hown, hts⟩ (k_isOn l G H.size z26 (e_gb ||| z8) ⟨by omega, by omega⟩) ⟨va_cnB 2 hts gW_X11_isOn rfl rfl rfl (hN.1 _ g5_nw_X5_77) (hts _ ini_X11) hs_X11_isOn ⟨Nat.le_of_ble_eq_true rfl, Nat.le_of_ble_eq_true rfl⟩, hts _ st_X11_isOn, trivial⟩ (g5_preS hPc hK hDc hN hT hS hFc) rfl rfl hl.1 rfl (lv_room (Nat.le_of_ble_eq_true rfl)) dX5_run_211 ⟨Nat.le_of_ble_eq_true rfl, Nat.le_of_ble_eq_true rfl⟩) hS (fun q _ h => hFc q h) hFc (fun r u t H locs ht hvm hw hB hz1 hk1 hS => ?_)
                        obtain ⟨hP1, hD1⟩ := hB
                        have hP1 := g5_ht ht hP1
                        rcases hw with ⟨(i_53 : onB (e_gb ||| z8) z26.toInt = false), rfl, rfl⟩ | ⟨(i_54 : onB (e_gb ||| z8) z26.toInt = true), rfl, rfl⟩
                        ·
                          have hJ9 := g5_same hP hk1
                          clear hP hPc hDc hFc ht hvm hz1 hk1 hP1 hD1
                          have hP := hJ9
                          clear hJ9
                          obtain ⟨hgb_n, hsb_n⟩ := onB_orF i_53
                          have hng := gl_bit e_qg (ce := z26) (by omega) hgb_n
                          have hns := sp_bit e_qp (ce := z26) i_7 (by omega) hsb_n
                          refine lv_if_eq (tgt := 221) hx hb dX5_run_214 (by decide +kernel) (fun c_55 => ?_) (fun c_55 => ?_)
                          ·
                            refine lv_iinc (v := (k_i + 1)) (lv' := [(7, .int (k_i + 1)), (8, .int z26), (5, .long (e_gb ||| z8)), (0, .ref a_k), (1, .int p_c), (2, .int p_w), (3, .int p_h), (4, .int p_u)]) hx hb dX5_run_221 hl (k := 1) rfl rfl (by decide +kernel) rfl ?_
                            clear hl
                            intro ls hl
                            have t_56 : (k_i + 1).toInt = k_i.toInt + 1 := g5_iadd (a := k_i.toInt) (b := 1) rfl (by decide +kernel) (by omega) (by omega)
                            refine lv_goto (tgt := 78) hx hb dX5_run_224 (by decide +kernel) ?_
                            exact ih_78_21 ((k_i + 1), (k_i + 1), k_se, k_ho, k_br, k_we, k_me, z26, k_wy, k_ho, (upd k_pt k_i.toNatClampNeg ((k_ho * 64) + z26)), z46, z47) ls H locs (show Int.toNat (200 - (k_i + 1).toInt) < Int.toNat (200 - k_i.toInt) from g_up (show k_i.toInt < (k_i + 1).toInt by omega) (show k_i.toInt < 200 by omega)) ⟨lv_sub hl [0, 2, 3, 4, 5, 6, 7] rfl, hP.sub [0, 1, 8, 9, 2, 10, 11, 12, 13, 14, 15, 16, 17, 3, 6, 7, 4, 5] rfl, hD.sub [0, 1, 8, 9, 2, 10, 11, 12, 13, 14, 15, 16, 17, 3, 6, 7, 4, 5] (by decide +kernel) rfl, hS, ⟨by omega, by omega⟩, ⟨by omega, by omega⟩, ⟨by omega, by omega⟩, i_13, ⟨by omega, by omega⟩, i_15, i_16, by omega, by assumption, g_rows (k := k_i) (fun j hj => i_19 j (by omega)) (by omega) (by omega) (by omega), lka_go (n := (k_i + 1)) i_20 (by rw [← i_24]; exact fun q9 => q9.elim (fun q8 => by unfold gNe at *; omega) (wl_n e_qh (by omega) (Or.inr i_29))) i_24 (by omega) rfl (by omega) i_45 (met_n hng hns) (by omega)⟩
                          ·
                            exact absurd c_55 (by decide +kernel)
                        ·
                          have hJ9 := g5_same hP hk1
                          clear hP hPc hDc hFc ht hvm hz1 hk1 hP1 hD1
                          have hP := hJ9
                          clear hJ9
                          refine lv_if_eq (tgt := 221) hx hb dX5_run_214 (by decide +kernel) (fun c_57 => ?_) (fun c_57 => ?_)
                          ·
                            exact absurd c_57 (by decide +kernel)
                          ·
                            rcases g_or2 i_54 with hgy_58 | ⟨hgn_58, hsy_58⟩
                            ·
                              refine lv_aload_n hx hb dX5_run_217 rfl (lv_at hl 3 rfl) ?_
                              obtain ⟨hPc, hDc, hFc⟩ := g5_sub3 (wc := [(a_k, (oc5 a_h a_j a_pt (k_i + 1) k_se k_ho k_br k_we k_me z26 k_wy k_ho 0)), (a_h, (oc1 e_wa e_le e_st e_fo e_lc a_l a_g a_b a_s a_p a_w e_gb a_bb)), (a_g, (oc6 6 5 a_gn e_g)), (a_gn, (arI G 30 f_g)), (a_j, (oc2 a_as a_sk)), (a_as, (arI G 8 z46)), (a_sk, (arJ G 50 z47)), (a_l, (arW G 6 f_l)), (a_lo, (oc3 e_cl a_hd a_sr a_cd)), (a_sr, (arI G n_sr f_sr)), (a_cd, (arI G n_cd f_cd)), (a_hd, (arI G n_hd f_hd))]) hP hD hS hA [6, 7, 0, 1, 10, 11, 12, 13, 14, 15, 16, 17] (by decide +kernel) rfl
                              refine va_callv (va_runV (As := []) (rest := []) ⟨hx, hb, hml, hown, hts⟩ (k_meetGlassXL l G a_k a_h a_g a_gn a_j a_as a_sk a_l a_lo a_sr a_cd a_hd a_pt a_b a_s a_p a_w a_bb H.size (k_i + 1) k_se k_ho k_br k_we k_me z26 k_wy k_ho 0 e_le e_st e_fo e_lc e_g e_cl e_wa e_gb f_g z46 z47 f_l f_sr f_cd f_hd f_ro g_w g_L n_sr n_cd n_hd i_13 ⟨by omega, by omega⟩ i_15 i_16 ⟨by decide, by decide⟩ h_e_g h_e_cl (e_f) (e_a) (e_hn) (e_hs) (e_hk) (e_c) (e_w) (e_lw) (e_lv) (e_gk) (e_qg) (hgy_58) (e_f4)) (cwV 0 hts gV_X5_88 rfl rfl rfl hv_X5_meetGlass ⟨Nat.le_of_ble_eq_true rfl, Nat.le_of_ble_eq_true rfl⟩) (g5_preV hPc hK hDc hN hT hS hFc (ci := 5) (q0 := 0) rfl rfl) rfl rfl hl.1 rfl (lv_room (Nat.le_of_ble_eq_true rfl)) dX5_run_218 ⟨Nat.le_of_ble_eq_true rfl, Nat.le_of_ble_eq_true rfl⟩) hS (fun q _ h => hFc q h) hFc (fun u t H locs ht hvm hw hB hz1 hk1 hS => ?_)
                              obtain ⟨hP1, hD1⟩ := hB
                              have hP1 := g5_ht ht hP1
                              rcases hw with ⟨z61, z62, z63, z64, (i_59 : 0 ≤ z61.toInt ∧ z61.toInt ≤ 1000000), (i_60 : (meetF f_ro g_w 0 z26 k_wy k_ho k_br k_we (k_i + 1)).1 = false ∧ (meetF f_ro g_w 0 z26 k_wy k_ho k_br k_we (k_i + 1)).2.2.2.1 = z61 ∧ (meetF f_ro g_w 0 z26 k_wy k_ho k_br k_we (k_i + 1)).2.2.2.2 = k_we), rfl⟩ | ⟨z69, z70, z71, z72, z73, z74, z75, (i_65 : 0 ≤ z69.toInt ∧ z69.toInt ≤ 1000000), (i_66 : 0 ≤ z72.toInt ∧ z72.toInt ≤ 3), (i_67 : 0 ≤ z73.toInt ∧ z73.toInt ≤ 23), (i_68 : meetF f_ro g_w 0 z26 k_wy k_ho k_br k_we (k_i + 1) = (true, z72, z73, z69, z70)), rfl⟩
                              ·
                                have hJ9 := va_join (wr := [(a_bb, (arJ G 24 f_bb)), (a_pt, (arI G 200 (upd k_pt k_i.toNatClampNeg ((k_ho * 64) + z26)))), (a_p, (oc6 8 5 a_pn e_p)), (a_pn, (arI G 40 f_p)), (a_b, (oc6 5 24 a_bn e_b)), (a_bn, (arI G 120 f_b))]) hP hD [6, 7, 0, 1, 10, 11, 12, 13, 14, 15, 16, 17] [2, 3, 4, 5, 8, 9] rfl rfl (by decide +kernel) (by decide +kernel) hk1 hFc hP1 hD1
                                clear hP hD hPc hDc hFc ht hvm hz1 hk1 hP1 hD1
                                obtain ⟨hP, hD⟩ := hJ9
                                refine g5_rs [(a_bb, (arJ G 24 f_bb)), (a_pt, (arI G 200 (upd k_pt k_i.toNatClampNeg ((k_ho * 64) + z26)))), (a_p, (oc6 8 5 a_pn e_p)), (a_pn, (arI G 40 f_p)), (a_b, (oc6 5 24 a_bn e_b)), (a_bn, (arI G 120 f_b)), (a_k, (oc5 a_h a_j a_pt (k_i + 1) k_se k_ho z61 k_we z62 z26 k_wy k_ho 1)), (a_h, (oc1 e_wa e_le e_st e_fo e_lc a_l a_g a_b a_s a_p a_w e_gb a_bb)), (a_g, (oc6 6 5 a_gn e_g)), (a_gn, (arI G 30 f_g)), (a_j, (oc2 a_as a_sk)), (a_as, (arI G 8 z63)), (a_sk, (arJ G 50 z64)), (a_l, (arW G 6 f_l)), (a_lo, (oc3 e_cl a_hd a_sr a_cd)), (a_sr, (arI G n_sr f_sr)), (a_cd, (arI G n_cd f_cd)), (a_hd, (arI G n_hd f_hd))] hP hD ?_
                                clear hP hD
                                intro hP hD
                                refine lv_iinc (v := (k_i + 1)) (lv' := [(7, .int (k_i + 1)), (8, .int z26), (5, .long (e_gb ||| z8)), (0, .ref a_k), (1, .int p_c), (2, .int p_w), (3, .int p_h), (4, .int p_u)]) hx hb dX5_run_221 hl (k := 1) rfl rfl (by decide +kernel) rfl ?_
                                clear hl
                                intro ls hl
                                have t_76 : (k_i + 1).toInt = k_i.toInt + 1 := g5_iadd (a := k_i.toInt) (b := 1) rfl (by decide +kernel) (by omega) (by omega)
                                refine lv_goto (tgt := 78) hx hb dX5_run_224 (by decide +kernel) ?_
                                refine lv_iload hx hb dX5_run_78 (lv_at hl 0 rfl) ?_
                                refine lv_sipush (v := 200) hx hb dX5_run_80 (by decide +kernel) ?_
                                refine W.eq (g2 := F0 m 83 ls [.int 200, .int (k_i + 1)]) rfl ?_
                                refine lv_icmp_ge (tgt := 227) hx hb dX5_run_83 (by decide +kernel) (fun c_77 => ?_) (fun c_77 => ?_)
                                ·
                                  have i_77 : (k_i.toInt + 1) ≥ 200 := by have z := g5_ge (a := (k_i + 1).toInt) (b := 200) (by rfl) (by decide +kernel) c_77; omega
                                  exact W.vret hx hb hr (fun t ht hW => ⟨⟨[(a_k, (oc5 a_h a_j a_pt (k_i + 1) k_se k_ho z61 k_we z62 z26 k_wy k_ho 1)), (a_h, (oc1 e_wa e_le e_st e_fo e_lc a_l a_g a_b a_s a_p a_w e_gb a_bb)), (a_g, (oc6 6 5 a_gn e_g)), (a_gn, (arI G 30 f_g)), (a_b, (oc6 5 24 a_bn e_b)), (a_bn, (arI G 120 f_b)), (a_p, (oc6 8 5 a_pn e_p)), (a_pn, (arI G 40 f_p)), (a_bb, (arJ G 24 f_bb)), (a_j, (oc2 a_as a_sk)), (a_as, (arI G 8 z63)), (a_sk, (arJ G 50 z64)), (a_l, (arW G 6 f_l)), (a_lo, (oc3 e_cl a_hd a_sr a_cd)), (a_sr, (arI G n_sr f_sr)), (a_cd, (arI G n_cd f_cd)), (a_hd, (arI G n_hd f_hd)), (a_pt, (arI G 200 (upd k_pt k_i.toNatClampNeg ((k_ho * 64) + z26))))], rfl, ⟨(k_i + 1), k_se, k_ho, z61, k_we, z62, z26, k_wy, k_ho, 1, (upd k_pt k_i.toNatClampNeg ((k_ho * 64) + z26)), z63, z64, ⟨by omega, by omega⟩, ⟨by have zc_o_ov : (1 : Int32).toInt = 1 := (by decide +kernel); omega, by have zc_o_ov : (1 : Int32).toInt = 1 := (by decide +kernel); omega⟩, g_rows (k := k_i) (fun j hj => i_19 j (by omega)) (by omega) (by omega) (by omega), lka_stop (n := (k_i + 1)) i_20 (by omega) (by rw [← i_24]; exact fun q9 => q9.elim (fun q8 => by unfold gNe at *; omega) (wl_n e_qh (by omega) (Or.inr i_29))) i_24 (by omega) rfl (by omega) i_45 (by rw [met_hg (hg2 := 0) (gl_yes e_qg (by omega) hgy_58)]; exact i_60) (by assumption), rfl⟩, by rw [ht]; exact hP.sub [6, 7, 8, 9, 4, 5, 2, 3, 0, 10, 11, 12, 13, 14, 15, 16, 17, 1] rfl, hD.sub [6, 7, 8, 9, 4, 5, 2, 3, 0, 10, 11, 12, 13, 14, 15, 16, 17, 1] (by decide +kernel) rfl⟩, hS.F ht⟩) hS.2.2 dX5_run_227
                                ·
                                  have i_77 : (k_i.toInt + 1) < 200 := by have z := g5_geN (a := (k_i + 1).toInt) (b := 200) (by rfl) (by decide +kernel) c_77; omega
                                  refine lv_aload_n hx hb dX5_run_86 rfl (lv_at hl 3 rfl) ?_
                                  refine va_get (D := G.1) (ci := 5) (v := .int 1) (C := RX5) (T := TX5) (N := 13) hx hb hts inG_X5 hown hK hP 6 rfl rfl 12 (by decide +kernel) (hts _ fl_X5_56) (fun _ h9 => h9) rfl dX5_run_87 ?_
                                  refine lv_if_ne (tgt := 227) hx hb dX5_run_90 (by decide +kernel) (fun c_78 => ?_) (fun c_78 => ?_)
                                  ·
                                    exact W.vret hx hb hr (fun t ht hW => ⟨⟨[(a_k, (oc5 a_h a_j a_pt (k_i + 1) k_se k_ho z61 k_we z62 z26 k_wy k_ho 1)), (a_h, (oc1 e_wa e_le e_st e_fo e_lc a_l a_g a_b a_s a_p a_w e_gb a_bb)), (a_g, (oc6 6 5 a_gn e_g)), (a_gn, (arI G 30 f_g)), (a_b, (oc6 5 24 a_bn e_b)), (a_bn, (arI G 120 f_b)), (a_p, (oc6 8 5 a_pn e_p)), (a_pn, (arI G 40 f_p)), (a_bb, (arJ G 24 f_bb)), (a_j, (oc2 a_as a_sk)), (a_as, (arI G 8 z63)), (a_sk, (arJ G 50 z64)), (a_l, (arW G 6 f_l)), (a_lo, (oc3 e_cl a_hd a_sr a_cd)), (a_sr, (arI G n_sr f_sr)), (a_cd, (arI G n_cd f_cd)), (a_hd, (arI G n_hd f_hd)), (a_pt, (arI G 200 (upd k_pt k_i.toNatClampNeg ((k_ho * 64) + z26))))], rfl, ⟨(k_i + 1), k_se, k_ho, z61, k_we, z62, z26, k_wy, k_ho, 1, (upd k_pt k_i.toNatClampNeg ((k_ho * 64) + z26)), z63, z64, ⟨by omega, by omega⟩, ⟨by have zc_o_ov : (1 : Int32).toInt = 1 := (by decide +kernel); omega, by have zc_o_ov : (1 : Int32).toInt = 1 := (by decide +kernel); omega⟩, g_rows (k := k_i) (fun j hj => i_19 j (by omega)) (by omega) (by omega) (by omega), lka_stop (n := (k_i + 1)) i_20 (by omega) (by rw [← i_24]; exact fun q9 => q9.elim (fun q8 => by unfold gNe at *; omega) (wl_n e_qh (by omega) (Or.inr i_29))) i_24 (by omega) rfl (by omega) i_45 (by rw [met_hg (hg2 := 0) (gl_yes e_qg (by omega) hgy_58)]; exact i_60) (by assumption), rfl⟩, by rw [ht]; exact hP.sub [6, 7, 8, 9, 4, 5, 2, 3, 0, 10, 11, 12, 13, 14, 15, 16, 17, 1] rfl, hD.sub [6, 7, 8, 9, 4, 5, 2, 3, 0, 10, 11, 12, 13, 14, 15, 16, 17, 1] (by decide +kernel) rfl⟩, hS.F ht⟩) hS.2.2 dX5_run_227
                                  ·
                                    exact absurd c_78 (by decide +kernel)
                              ·
                                have hJ9 := va_join (wr := [(a_bb, (arJ G 24 f_bb)), (a_pt, (arI G 200 (upd k_pt k_i.toNatClampNeg ((k_ho * 64) + z26)))), (a_p, (oc6 8 5 a_pn e_p)), (a_pn, (arI G 40 f_p)), (a_b, (oc6 5 24 a_bn e_b)), (a_bn, (arI G 120 f_b))]) hP hD [6, 7, 0, 1, 10, 11, 12, 13, 14, 15, 16, 17] [2, 3, 4, 5, 8, 9] rfl rfl (by decide +kernel) (by decide +kernel) hk1 hFc hP1 hD1
                                clear hP hD hPc hDc hFc ht hvm hz1 hk1 hP1 hD1
                                obtain ⟨hP, hD⟩ := hJ9
                                refine g5_rs [(a_bb, (arJ G 24 f_bb)), (a_pt, (arI G 200 (upd k_pt k_i.toNatClampNeg ((k_ho * 64) + z26)))), (a_p, (oc6 8 5 a_pn e_p)), (a_pn, (arI G 40 f_p)), (a_b, (oc6 5 24 a_bn e_b)), (a_bn, (arI G 120 f_b)), (a_k, (oc5 a_h a_j a_pt (k_i + 1) k_se k_ho z69 z70 z71 z26 z72 z73 0)), (a_h, (oc1 e_wa e_le e_st e_fo e_lc a_l a_g a_b a_s a_p a_w e_gb a_bb)), (a_g, (oc6 6 5 a_gn e_g)), (a_gn, (arI G 30 f_g)), (a_j, (oc2 a_as a_sk)), (a_as, (arI G 8 z74)), (a_sk, (arJ G 50 z75)), (a_l, (arW G 6 f_l)), (a_lo, (oc3 e_cl a_hd a_sr a_cd)), (a_sr, (arI G n_sr f_sr)), (a_cd, (arI G n_cd f_cd)), (a_hd, (arI G n_hd f_hd))] hP hD ?_
                                clear hP hD
                                intro hP hD
                                refine lv_iinc (v := (k_i + 1)) (lv' := [(7, .int (k_i + 1)), (8, .int z26), (5, .long (e_gb ||| z8)), (0, .ref a_k), (1, .int p_c), (2, .int p_w), (3, .int p_h), (4, .int p_u)]) hx hb dX5_run_221 hl (k := 1) rfl rfl (by decide +kernel) rfl ?_
                                clear hl
                                intro ls hl
                                have t_79 : (k_i + 1).toInt = k_i.toInt + 1 := g5_iadd (a := k_i.toInt) (b := 1) rfl (by decide +kernel) (by omega) (by omega)
                                refine lv_goto (tgt := 78) hx hb dX5_run_224 (by decide +kernel) ?_
                                exact ih_78_21 ((k_i + 1), (k_i + 1), k_se, k_ho, z69, z70, z71, z26, z72, z73, (upd k_pt k_i.toNatClampNeg ((k_ho * 64) + z26)), z74, z75) ls H locs (show Int.toNat (200 - (k_i + 1).toInt) < Int.toNat (200 - k_i.toInt) from g_up (show k_i.toInt < (k_i + 1).toInt by omega) (show k_i.toInt < 200 by omega)) ⟨lv_sub hl [0, 2, 3, 4, 5, 6, 7] rfl, hP.sub [8, 9, 4, 5, 0, 10, 11, 12, 13, 14, 15, 16, 17, 1, 6, 7, 2, 3] rfl, hD.sub [8, 9, 4, 5, 0, 10, 11, 12, 13, 14, 15, 16, 17, 1, 6, 7, 2, 3] (by decide +kernel) rfl, hS, ⟨by omega, by omega⟩, ⟨by omega, by omega⟩, ⟨by omega, by omega⟩, i_65, ⟨by omega, by omega⟩, i_66, i_67, by omega, by assumption, g_rows (k := k_i) (fun j hj => i_19 j (by omega)) (by omega) (by omega) (by omega), lka_go (n := (k_i + 1)) i_20 (by rw [← i_24]; exact fun q9 => q9.elim (fun q8 => by unfold gNe at *; omega) (wl_n e_qh (by omega) (Or.inr i_29))) i_24 (by omega) rfl (by omega) i_45 ((met_hg (gl_yes e_qg (by omega) hgy_58)).trans i_68) (by omega)⟩
                            ·
                              refine lv_aload_n hx hb dX5_run_217 rfl (lv_at hl 3 rfl) ?_
                              obtain ⟨hPc, hDc, hFc⟩ := g5_sub3 (wc := [(a_k, (oc5 a_h a_j a_pt (k_i + 1) k_se k_ho k_br k_we k_me z26 k_wy k_ho 0)), (a_h, (oc1 e_wa e_le e_st e_fo e_lc a_l a_g a_b a_s a_p a_w e_gb a_bb)), (a_g, (oc6 6 5 a_gn e_g)), (a_gn, (arI G 30 f_g)), (a_p, (oc6 8 5 a_pn e_p)), (a_pn, (arI G 40 f_p)), (a_j, (oc2 a_as a_sk)), (a_as, (arI G 8 z46)), (a_sk, (arJ G 50 z47)), (a_l, (arW G 6 f_l)), (a_lo, (oc3 e_cl a_hd a_sr a_cd)), (a_sr, (arI G n_sr f_sr)), (a_cd, (arI G n_cd f_cd)), (a_hd, (arI G n_hd f_hd))]) hP hD hS hA [6, 7, 0, 1, 4, 5, 10, 11, 12, 13, 14, 15, 16, 17] (by decide +kernel) rfl
                              refine va_callv (va_runV (As := []) (rest := []) ⟨hx, hb, hml, hown, hts⟩ (k_meetSpotXL l G a_k a_h a_g a_gn a_p a_pn a_j a_as a_sk a_l a_lo a_sr a_cd a_hd a_pt a_b a_s a_w a_bb H.size (k_i + 1) k_se k_ho k_br k_we k_me z26 k_wy k_ho 0 e_le e_st e_fo e_lc e_g e_p e_cl p_u e_wa e_gb z8 f_g f_p z46 z47 f_l f_sr f_cd f_hd f_ro g_w g_L n_sr n_cd n_hd i_13 ⟨by omega, by omega⟩ i_15 i_16 ⟨by decide, by decide⟩ h_e_g h_e_p h_e_cl (e_f) (e_a) (e_hn) (e_hs) (e_hk) (e_c) (e_w) (e_lw) (e_lv) (e_pk) (e_qg) (e_qp) (hgn_58) (i_7) (hsy_58) (e_f4)) (cwV 0 hts gV_X5_88 rfl rfl rfl hv_X5_meetGlass ⟨Nat.le_of_ble_eq_true rfl, Nat.le_of_ble_eq_true rfl⟩) (g5_preV hPc hK hDc hN hT hS hFc (ci := 5) (q0 := 0) rfl rfl) rfl rfl hl.1 rfl (lv_room (Nat.le_of_ble_eq_true rfl)) dX5_run_218 ⟨Nat.le_of_ble_eq_true rfl, Nat.le_of_ble_eq_true rfl⟩) hS (fun q _ h => hFc q h) hFc (fun u t H locs ht hvm hw hB hz1 hk1 hS => ?_)
                              obtain ⟨hP1, hD1⟩ := hB
                              have hP1 := g5_ht ht hP1
                              rcases hw with ⟨z82, z83, z84, z85, (i_80 : 0 ≤ z82.toInt ∧ z82.toInt ≤ 1000000), (i_81 : (meetF f_ro g_w p_u z26 k_wy k_ho k_br k_we (k_i + 1)).1 = false ∧ (meetF f_ro g_w p_u z26 k_wy k_ho k_br k_we (k_i + 1)).2.2.2.1 = z82 ∧ (meetF f_ro g_w p_u z26 k_wy k_ho k_br k_we (k_i + 1)).2.2.2.2 = k_we), rfl⟩ | ⟨z90, z91, z92, z93, z94, z95, z96, (i_86 : 0 ≤ z90.toInt ∧ z90.toInt ≤ 1000000), (i_87 : 0 ≤ z93.toInt ∧ z93.toInt ≤ 3), (i_88 : 0 ≤ z94.toInt ∧ z94.toInt ≤ 23), (i_89 : meetF f_ro g_w p_u z26 k_wy k_ho k_br k_we (k_i + 1) = (true, z93, z94, z90, z91)), rfl⟩
                              ·
                                have hJ9 := va_join (wr := [(a_bb, (arJ G 24 f_bb)), (a_pt, (arI G 200 (upd k_pt k_i.toNatClampNeg ((k_ho * 64) + z26)))), (a_b, (oc6 5 24 a_bn e_b)), (a_bn, (arI G 120 f_b))]) hP hD [6, 7, 0, 1, 4, 5, 10, 11, 12, 13, 14, 15, 16, 17] [2, 3, 8, 9] rfl rfl (by decide +kernel) (by decide +kernel) hk1 hFc hP1 hD1
                                clear hP hD hPc hDc hFc ht hvm hz1 hk1 hP1 hD1
                                obtain ⟨hP, hD⟩ := hJ9
                                refine g5_rs [(a_bb, (arJ G 24 f_bb)), (a_pt, (arI G 200 (upd k_pt k_i.toNatClampNeg ((k_ho * 64) + z26)))), (a_b, (oc6 5 24 a_bn e_b)), (a_bn, (arI G 120 f_b)), (a_k, (oc5 a_h a_j a_pt (k_i + 1) k_se k_ho z82 k_we z83 z26 k_wy k_ho 1)), (a_h, (oc1 e_wa e_le e_st e_fo e_lc a_l a_g a_b a_s a_p a_w e_gb a_bb)), (a_g, (oc6 6 5 a_gn e_g)), (a_gn, (arI G 30 f_g)), (a_p, (oc6 8 5 a_pn e_p)), (a_pn, (arI G 40 f_p)), (a_j, (oc2 a_as a_sk)), (a_as, (arI G 8 z84)), (a_sk, (arJ G 50 z85)), (a_l, (arW G 6 f_l)), (a_lo, (oc3 e_cl a_hd a_sr a_cd)), (a_sr, (arI G n_sr f_sr)), (a_cd, (arI G n_cd f_cd)), (a_hd, (arI G n_hd f_hd))] hP hD ?_
                                clear hP hD
                                intro hP hD
                                refine lv_iinc (v := (k_i + 1)) (lv' := [(7, .int (k_i + 1)), (8, .int z26), (5, .long (e_gb ||| z8)), (0, .ref a_k), (1, .int p_c), (2, .int p_w), (3, .int p_h), (4, .int p_u)]) hx hb dX5_run_221 hl (k := 1) rfl rfl (by decide +kernel) rfl ?_
                                clear hl
                                intro ls hl
                                have t_97 : (k_i + 1).toInt = k_i.toInt + 1 := g5_iadd (a := k_i.toInt) (b := 1) rfl (by decide +kernel) (by omega) (by omega)
                                refine lv_goto (tgt := 78) hx hb dX5_run_224 (by decide +kernel) ?_
                                refine lv_iload hx hb dX5_run_78 (lv_at hl 0 rfl) ?_
                                refine lv_sipush (v := 200) hx hb dX5_run_80 (by decide +kernel) ?_
                                refine W.eq (g2 := F0 m 83 ls [.int 200, .int (k_i + 1)]) rfl ?_
                                refine lv_icmp_ge (tgt := 227) hx hb dX5_run_83 (by decide +kernel) (fun c_98 => ?_) (fun c_98 => ?_)
                                ·
                                  have i_98 : (k_i.toInt + 1) ≥ 200 := by have z := g5_ge (a := (k_i + 1).toInt) (b := 200) (by rfl) (by decide +kernel) c_98; omega
                                  exact W.vret hx hb hr (fun t ht hW => ⟨⟨[(a_k, (oc5 a_h a_j a_pt (k_i + 1) k_se k_ho z82 k_we z83 z26 k_wy k_ho 1)), (a_h, (oc1 e_wa e_le e_st e_fo e_lc a_l a_g a_b a_s a_p a_w e_gb a_bb)), (a_g, (oc6 6 5 a_gn e_g)), (a_gn, (arI G 30 f_g)), (a_b, (oc6 5 24 a_bn e_b)), (a_bn, (arI G 120 f_b)), (a_p, (oc6 8 5 a_pn e_p)), (a_pn, (arI G 40 f_p)), (a_bb, (arJ G 24 f_bb)), (a_j, (oc2 a_as a_sk)), (a_as, (arI G 8 z84)), (a_sk, (arJ G 50 z85)), (a_l, (arW G 6 f_l)), (a_lo, (oc3 e_cl a_hd a_sr a_cd)), (a_sr, (arI G n_sr f_sr)), (a_cd, (arI G n_cd f_cd)), (a_hd, (arI G n_hd f_hd)), (a_pt, (arI G 200 (upd k_pt k_i.toNatClampNeg ((k_ho * 64) + z26))))], rfl, ⟨(k_i + 1), k_se, k_ho, z82, k_we, z83, z26, k_wy, k_ho, 1, (upd k_pt k_i.toNatClampNeg ((k_ho * 64) + z26)), z84, z85, ⟨by omega, by omega⟩, ⟨by have zc_o_ov : (1 : Int32).toInt = 1 := (by decide +kernel); omega, by have zc_o_ov : (1 : Int32).toInt = 1 := (by decide +kernel); omega⟩, g_rows (k := k_i) (fun j hj => i_19 j (by omega)) (by omega) (by omega) (by omega), lka_stop (n := (k_i + 1)) i_20 (by omega) (by rw [← i_24]; exact fun q9 => q9.elim (fun q8 => by unfold gNe at *; omega) (wl_n e_qh (by omega) (Or.inr i_29))) i_24 (by omega) rfl (by omega) i_45 i_81 (by assumption), rfl⟩, by rw [ht]; exact hP.sub [4, 5, 6, 7, 2, 3, 8, 9, 0, 10, 11, 12, 13, 14, 15, 16, 17, 1] rfl, hD.sub [4, 5, 6, 7, 2, 3, 8, 9, 0, 10, 11, 12, 13, 14, 15, 16, 17, 1] (by decide +kernel) rfl⟩, hS.F ht⟩) hS.2.2 dX5_run_227
                                ·
                                  have i_98 : (k_i.toInt + 1) < 200 := by have z := g5_geN (a := (k_i + 1).toInt) (b := 200) (by rfl) (by decide +kernel) c_98; omega
                                  refine lv_aload_n hx hb dX5_run_86 rfl (lv_at hl 3 rfl) ?_
                                  refine va_get (D := G.1) (ci := 5) (v := .int 1) (C := RX5) (T := TX5) (N := 13) hx hb hts inG_X5 hown hK hP 4 rfl rfl 12 (by decide +kernel) (hts _ fl_X5_56) (fun _ h9 => h9) rfl dX5_run_87 ?_
                                  refine lv_if_ne (tgt := 227) hx hb dX5_run_90 (by decide +kernel) (fun c_99 => ?_) (fun c_99 => ?_)
                                  ·
                                    exact W.vret hx hb hr (fun t ht hW => ⟨⟨[(a_k, (oc5 a_h a_j a_pt (k_i + 1) k_se k_ho z82 k_we z83 z26 k_wy k_ho 1)), (a_h, (oc1 e_wa e_le e_st e_fo e_lc a_l a_g a_b a_s a_p a_w e_gb a_bb)), (a_g, (oc6 6 5 a_gn e_g)), (a_gn, (arI G 30 f_g)), (a_b, (oc6 5 24 a_bn e_b)), (a_bn, (arI G 120 f_b)), (a_p, (oc6 8 5 a_pn e_p)), (a_pn, (arI G 40 f_p)), (a_bb, (arJ G 24 f_bb)), (a_j, (oc2 a_as a_sk)), (a_as, (arI G 8 z84)), (a_sk, (arJ G 50 z85)), (a_l, (arW G 6 f_l)), (a_lo, (oc3 e_cl a_hd a_sr a_cd)), (a_sr, (arI G n_sr f_sr)), (a_cd, (arI G n_cd f_cd)), (a_hd, (arI G n_hd f_hd)), (a_pt, (arI G 200 (upd k_pt k_i.toNatClampNeg ((k_ho * 64) + z26))))], rfl, ⟨(k_i + 1), k_se, k_ho, z82, k_we, z83, z26, k_wy, k_ho, 1, (upd k_pt k_i.toNatClampNeg ((k_ho * 64) + z26)), z84, z85, ⟨by omega, by omega⟩, ⟨by have zc_o_ov : (1 : Int32).toInt = 1 := (by decide +kernel); omega, by have zc_o_ov : (1 : Int32).toInt = 1 := (by decide +kernel); omega⟩, g_rows (k := k_i) (fun j hj => i_19 j (by omega)) (by omega) (by omega) (by omega), lka_stop (n := (k_i + 1)) i_20 (by omega) (by rw [← i_24]; exact fun q9 => q9.elim (fun q8 => by unfold gNe at *; omega) (wl_n e_qh (by omega) (Or.inr i_29))) i_24 (by omega) rfl (by omega) i_45 i_81 (by assumption), rfl⟩, by rw [ht]; exact hP.sub [4, 5, 6, 7, 2, 3, 8, 9, 0, 10, 11, 12, 13, 14, 15, 16, 17, 1] rfl, hD.sub [4, 5, 6, 7, 2, 3, 8, 9, 0, 10, 11, 12, 13, 14, 15, 16, 17, 1] (by decide +kernel) rfl⟩, hS.F ht⟩) hS.2.2 dX5_run_227
                                  ·
                                    exact absurd c_99 (by decide +kernel)
                              ·
                                have hJ9 := va_join (wr := [(a_bb, (arJ G 24 f_bb)), (a_pt, (arI G 200 (upd k_pt k_i.toNatClampNeg ((k_ho * 64) + z26)))), (a_b, (oc6 5 24 a_bn e_b)), (a_bn, (arI G 120 f_b))]) hP hD [6, 7, 0, 1, 4, 5, 10, 11, 12, 13, 14, 15, 16, 17] [2, 3, 8, 9] rfl rfl (by decide +kernel) (by decide +kernel) hk1 hFc hP1 hD1
                                clear hP hD hPc hDc hFc ht hvm hz1 hk1 hP1 hD1
                                obtain ⟨hP, hD⟩ := hJ9
                                refine g5_rs [(a_bb, (arJ G 24 f_bb)), (a_pt, (arI G 200 (upd k_pt k_i.toNatClampNeg ((k_ho * 64) + z26)))), (a_b, (oc6 5 24 a_bn e_b)), (a_bn, (arI G 120 f_b)), (a_k, (oc5 a_h a_j a_pt (k_i + 1) k_se k_ho z90 z91 z92 z26 z93 z94 0)), (a_h, (oc1 e_wa e_le e_st e_fo e_lc a_l a_g a_b a_s a_p a_w e_gb a_bb)), (a_g, (oc6 6 5 a_gn e_g)), (a_gn, (arI G 30 f_g)), (a_p, (oc6 8 5 a_pn e_p)), (a_pn, (arI G 40 f_p)), (a_j, (oc2 a_as a_sk)), (a_as, (arI G 8 z95)), (a_sk, (arJ G 50 z96)), (a_l, (arW G 6 f_l)), (a_lo, (oc3 e_cl a_hd a_sr a_cd)), (a_sr, (arI G n_sr f_sr)), (a_cd, (arI G n_cd f_cd)), (a_hd, (arI G n_hd f_hd))] hP hD ?_
                                clear hP hD
                                intro hP hD
                                refine lv_iinc (v := (k_i + 1)) (lv' := [(7, .int (k_i + 1)), (8, .int z26), (5, .long (e_gb ||| z8)), (0, .ref a_k), (1, .int p_c), (2, .int p_w), (3, .int p_h), (4, .int p_u)]) hx hb dX5_run_221 hl (k := 1) rfl rfl (by decide +kernel) rfl ?_
                                clear hl
                                intro ls hl
                                have t_100 : (k_i + 1).toInt = k_i.toInt + 1 := g5_iadd (a := k_i.toInt) (b := 1) rfl (by decide +kernel) (by omega) (by omega)
                                refine lv_goto (tgt := 78) hx hb dX5_run_224 (by decide +kernel) ?_
                                exact ih_78_21 ((k_i + 1), (k_i + 1), k_se, k_ho, z90, z91, z92, z26, z93, z94, (upd k_pt k_i.toNatClampNeg ((k_ho * 64) + z26)), z95, z96) ls H locs (show Int.toNat (200 - (k_i + 1).toInt) < Int.toNat (200 - k_i.toInt) from g_up (show k_i.toInt < (k_i + 1).toInt by omega) (show k_i.toInt < 200 by omega)) ⟨lv_sub hl [0, 2, 3, 4, 5, 6, 7] rfl, hP.sub [6, 7, 2, 3, 0, 10, 11, 12, 13, 14, 15, 16, 17, 1, 4, 5, 8, 9] rfl, hD.sub [6, 7, 2, 3, 0, 10, 11, 12, 13, 14, 15, 16, 17, 1, 4, 5, 8, 9] (by decide +kernel) rfl, hS, ⟨by omega, by omega⟩, ⟨by omega, by omega⟩, ⟨by omega, by omega⟩, i_86, ⟨by omega, by omega⟩, i_87, i_88, by omega, by assumption, g_rows (k := k_i) (fun j hj => i_19 j (by omega)) (by omega) (by omega) (by omega), lka_go (n := (k_i + 1)) i_20 (by rw [← i_24]; exact fun q9 => q9.elim (fun q8 => by unfold gNe at *; omega) (wl_n e_qh (by omega) (Or.inr i_29))) i_24 (by omega) rfl (by omega) i_45 i_89 (by omega)⟩
              ·
                exact absurd c_31 (by decide +kernel)
            ·
              have hJ9 := g5_same hP hk1
              clear hP hPc hDc hFc ht hvm hz1 hk1 hP1 hD1
              have hP := hJ9
              clear hJ9
              refine lv_if_eq (tgt := 128) hx hb dX5_run_124 (by decide +kernel) (fun c_101 => ?_) (fun c_101 => ?_)
              ·
                exact absurd c_101 (by decide +kernel)
              ·
                exact W.vret hx hb hr (fun t ht hW => ⟨⟨[(a_k, (oc5 a_h a_j a_pt k_ln k_se k_lh k_br k_we k_me k_ce k_wy k_ho 0)), (a_h, (oc1 e_wa e_le e_st e_fo e_lc a_l a_g a_b a_s a_p a_w e_gb a_bb)), (a_g, (oc6 6 5 a_gn e_g)), (a_gn, (arI G 30 f_g)), (a_b, (oc6 5 24 a_bn e_b)), (a_bn, (arI G 120 f_b)), (a_p, (oc6 8 5 a_pn e_p)), (a_pn, (arI G 40 f_p)), (a_bb, (arJ G 24 f_bb)), (a_j, (oc2 a_as a_sk)), (a_as, (arI G 8 k_as)), (a_sk, (arJ G 50 k_sk)), (a_l, (arW G 6 f_l)), (a_lo, (oc3 e_cl a_hd a_sr a_cd)), (a_sr, (arI G n_sr f_sr)), (a_cd, (arI G n_cd f_cd)), (a_hd, (arI G n_hd f_hd)), (a_pt, (arI G 200 k_pt))], rfl, ⟨k_ln, k_se, k_lh, k_br, k_we, k_me, k_ce, k_wy, k_ho, 0, k_pt, k_as, k_sk, i_11, ⟨by have zc_o_ov : (0 : Int32).toInt = 0 := (by decide +kernel); omega, by have zc_o_ov : (0 : Int32).toInt = 0 := (by decide +kernel); omega⟩, i_19, lka_wall i_20 (by omega) (by omega) (by assumption) (Or.inr (by rw [← i_24]; exact wl_y e_qh (by omega) ⟨by omega, i_30⟩)), rfl⟩, by rw [ht]; exact hP.sub [14, 15, 0, 1, 2, 3, 16, 17, 4, 5, 6, 7, 8, 9, 10, 11, 12, 13] rfl, hD.sub [14, 15, 0, 1, 2, 3, 16, 17, 4, 5, 6, 7, 8, 9, 10, 11, 12, 13] (by decide +kernel) rfl⟩, hS.F ht⟩) hS.2.2 dX5_run_127
    ·
      exact absurd c_6 (by decide +kernel)
  ·
    have hJ9 := g5_same hP hk1
    clear hP hPc hDc hFc ht hvm hz1 hk1 hP1 hD1
    have hP := hJ9
    clear hJ9
    refine lv_if_ne (tgt := 55) hx hb dX5_run_48 (by decide +kernel) (fun c_102 => ?_) (fun c_102 => ?_)
    ·
      exact absurd c_102 (by decide +kernel)
    ·
      exact absurd (show False by first | omega | (unfold okL at *; omega)) (fun h => h)
set_option maxHeartbeats 4000000 in
set_option maxRecDepth 100000 in
theorem s_hasPointX (l : Launch) (G : g5_G) (a_k a_pt a_h a_j : Nat) (sz : Nat) (e_ln : Int32) (e_se : Int32) (e_lh : Int32) (e_br : Int32) (e_we : Int32) (e_me : Int32) (e_ce : Int32) (e_wy : Int32) (e_ho : Int32) (e_ov : Int32) (p_p : Int32) (f_pt : Nat → Int32) (h_e_ln : 0 ≤ e_ln.toInt ∧ e_ln.toInt ≤ 200) (h_e_ov : 0 ≤ e_ov.toInt ∧ e_ov.toInt ≤ 1) : Met l yX5_hasPoint (wsG yX5_hasPoint cX5_hasPoint 3 (some .boolean)) ({ frames := 0, cells := 0, slots := 0, locals := 0 }) (va_Pc [.ref a_k, .int p_p] (g5_P G [(a_k, (oc5 a_h a_j a_pt e_ln e_se e_lh e_br e_we e_me e_ce e_wy e_ho e_ov)), (a_pt, (arI G 200 f_pt))] sz)) (va_Qi (fun (r : Int32) (u : va_W) => ((ptsE f_pt e_ln p_p) ∧ (r = 1) ∧ (u = [(a_k, (oc5 a_h a_j a_pt e_ln e_se e_lh e_br e_we e_me e_ce e_wy e_ho e_ov)), (a_pt, (arI G 200 f_pt))])) ∨ ((¬ ptsE f_pt e_ln p_p) ∧ (r = 0) ∧ (u = [(a_k, (oc5 a_h a_j a_pt e_ln e_se e_lh e_br e_we e_me e_ce e_wy e_ho e_ov)), (a_pt, (arI G 200 f_pt))]))) (g5_B G (va_A [(a_k, (oc5 a_h a_j a_pt e_ln e_se e_lh e_br e_we e_me e_ce e_wy e_ho e_ov)), (a_pt, (arI G 200 f_pt))] sz)) (va_A [(a_k, (oc5 a_h a_j a_pt e_ln e_se e_lh e_br e_we e_me e_ce e_wy e_ho e_ov)), (a_pt, (arI G 200 f_pt))] sz)) 0 0 (va_A [(a_k, (oc5 a_h a_j a_pt e_ln e_se e_lh e_br e_we e_me e_ce e_wy e_ho e_ov)), (a_pt, (arI G 200 f_pt))] sz) := by
  refine Met.ofW (cc := cX5_hasPoint) (maxL := 3) (ret := (some .boolean)) (by decide +kernel) rfl ?_
  intro p e s m args below meth c s₁ B hml hv
  obtain ⟨rfl, hsz, hP, hK, hD0, hN, hT⟩ := hv
  have hx := B.exec
  have hb := B.bytes
  have hr := B.returns
  have hts : ∀ w ∈ tblG, w.before _ s = true := fun w h => atoms_spec (ws := (wsG yX5_hasPoint cX5_hasPoint 3 (some .boolean))) B.pre w (List.mem_cons_of_mem _ h)
  have hown : s.vm.findClass RX5 = some m.cls := findClass_of_methodNamed B.named
  have hlocks := B.notSynchronized
  subst hsz
  have hD := hD0.self (sz := s.heap.size)
  generalize hAe : va_A [(a_k, (oc5 a_h a_j a_pt e_ln e_se e_lh e_br e_we e_me e_ce e_wy e_ho e_ov)), (a_pt, (arI G 200 f_pt))] s.heap.size = A at hD hT ⊢
  have hA : ∀ q : Nat, s.heap.size ≤ q → A q := fun q h => by rw [← hAe]; exact Or.inr h
  have hS : va_S A s.heap s.heap [] := va_S.rf
  replace hP : va_P G.1 vwCl [(a_k, (oc5 a_h a_j a_pt e_ln e_se e_lh e_br e_we e_me e_ce e_wy e_ho e_ov)), (a_pt, (arI G 200 f_pt))] s.heap := hP
  have hl := lv_entry ([.ref a_k, .int p_p]) (n := 3) (Nat.le_of_ble_eq_true rfl)
  rw [lg_entry_eq]
  generalize (lg_sl ([.ref a_k, .int p_p]) ++ List.replicate (3 - (lg_sl ([.ref a_k, .int p_p])).length) Slot.unset).toArray = ls at hl ⊢
  replace hl : lv_has ls 3 [(0, .ref a_k), (1, .int p_p)] := hl
  refine lv_iconst (v := 0) hx hb dX5_hasPoint_0 (by decide +kernel) ?_
  refine lv_istore_n (lv' := [(2, .int 0), (0, .ref a_k), (1, .int p_p)]) hx hb dX5_hasPoint_1 rfl hl (by decide +kernel) rfl ?_
  clear hl
  intro ls hl
  refine g5_loop (α := (Int32)) (fun (k_i : (Int32)) (ls : Array Slot) (H : Heap) (locs : List Loc) => lv_has ls 3 [(2, .int k_i), (0, .ref a_k), (1, .int p_p)] ∧ va_P G.1 vwCl [(a_k, (oc5 a_h a_j a_pt e_ln e_se e_lh e_br e_we e_me e_ce e_wy e_ho e_ov)), (a_pt, (arI G 200 f_pt))] H ∧ va_D A [(a_k, (oc5 a_h a_j a_pt e_ln e_se e_lh e_br e_we e_me e_ce e_wy e_ho e_ov)), (a_pt, (arI G 200 f_pt))] ∧ va_S A s.heap H locs ∧ (0 ≤ k_i.toInt ∧ k_i.toInt ≤ 200) ∧ (¬ ptsE f_pt k_i p_p) ∧ (k_i.toInt ≤ e_ln.toInt)) (fun (k_i : (Int32)) => Int.toNat (200 - k_i.toInt)) 0 ⟨lv_sub hl [0, 1, 2] rfl, hP, hD, hS, ⟨by decide, by decide⟩, pe_0 (by decide +kernel), by have z0 : (0 : Int32).toInt = 0 := (by decide +kernel); omega⟩ ?_
  rintro k_i ls H locs ⟨hl, hP, hD, hS, (i_1 : 0 ≤ k_i.toInt ∧ k_i.toInt ≤ 200), (i_2 : ¬ ptsE f_pt k_i p_p), (i_3 : k_i.toInt ≤ e_ln.toInt)⟩ ih_2_4
  replace hl : lv_has ls 3 [(2, .int k_i), (0, .ref a_k), (1, .int p_p)] := hl
  refine g5_rs [(a_k, (oc5 a_h a_j a_pt e_ln e_se e_lh e_br e_we e_me e_ce e_wy e_ho e_ov)), (a_pt, (arI G 200 f_pt))] hP hD ?_
  clear hP hD
  intro hP hD
  refine lv_iload_n hx hb dX5_hasPoint_2 rfl (lv_at hl 0 rfl) ?_
  refine lv_aload_n hx hb dX5_hasPoint_3 rfl (lv_at hl 1 rfl) ?_
  refine va_get (D := G.1) (ci := 5) (v := .int e_ln) (C := RX5) (T := TX5) (N := 13) hx hb hts inG_X5 hown hK hP 0 rfl rfl 3 (by decide +kernel) (hts _ fl_X5_36) (fun _ h9 => h9) rfl dX5_hasPoint_4 ?_
  refine lv_icmp_ge (tgt := 28) hx hb dX5_hasPoint_7 (by decide +kernel) (fun c_5 => ?_) (fun c_5 => ?_)
  ·
    have i_5 : k_i.toInt ≥ e_ln.toInt := g5_ge (a := k_i.toInt) (b := e_ln.toInt) rfl rfl c_5
    refine lv_iconst (v := 0) hx hb dX5_hasPoint_28 (by decide +kernel) ?_
    exact W.zret (v := 0) hx hb hr rfl (fun t ht hW => ⟨⟨0, [(a_k, (oc5 a_h a_j a_pt e_ln e_se e_lh e_br e_we e_me e_ce e_wy e_ho e_ov)), (a_pt, (arI G 200 f_pt))], rfl, Or.inr (⟨pe_e i_2 (by omega), rfl, rfl⟩), by rw [ht]; exact hP.sub [0, 1] rfl, hD.sub [0, 1] (by decide +kernel) rfl⟩, hS.F ht⟩) hS.2.2 dX5_hasPoint_29
  ·
    have i_5 : k_i.toInt < e_ln.toInt := g5_geN (a := k_i.toInt) (b := e_ln.toInt) rfl rfl c_5
    refine lv_aload_n hx hb dX5_hasPoint_10 rfl (lv_at hl 1 rfl) ?_
    refine va_get (D := G.1) (ci := 5) (v := .ref a_pt) (C := RX5) (T := TX5) (N := 13) hx hb hts inG_X5 hown hK hP 0 rfl rfl 2 (by decide +kernel) (hts _ fl_X5_18) (fun _ h9 => h9) rfl dX5_hasPoint_11 ?_
    refine lv_iload_n hx hb dX5_hasPoint_14 rfl (lv_at hl 0 rfl) ?_
    refine va_iald hx hb hK hP 1 0 rfl rfl (i := k_i) (vp_in_iff.mpr ⟨by omega, by omega⟩) dX5_hasPoint_15 ?_
    refine W.eq (g2 := F0 m 16 ls [.int (f_pt k_i.toNatClampNeg)]) rfl ?_
    refine lv_iload_n hx hb dX5_hasPoint_16 rfl (lv_at hl 2 rfl) ?_
    refine lv_icmp_ne (tgt := 22) hx hb dX5_hasPoint_17 (by decide +kernel) (fun c_6 => ?_) (fun c_6 => ?_)
    ·
      have n_6 : gNe ((f_pt k_i.toNatClampNeg).toInt) (p_p.toInt) := g5_ne (a := (f_pt k_i.toNatClampNeg).toInt) (b := p_p.toInt) rfl rfl c_6
      refine lv_iinc (v := (k_i + 1)) (lv' := [(2, .int (k_i + 1)), (0, .ref a_k), (1, .int p_p)]) hx hb dX5_hasPoint_22 hl (k := 0) rfl rfl (by decide +kernel) rfl ?_
      clear hl
      intro ls hl
      have t_7 : (k_i + 1).toInt = k_i.toInt + 1 := g5_iadd (a := k_i.toInt) (b := 1) rfl (by decide +kernel) (by omega) (by omega)
      refine lv_goto (tgt := 2) hx hb dX5_hasPoint_25 (by decide +kernel) ?_
      exact ih_2_4 (k_i + 1) ls H locs (show Int.toNat (200 - (k_i + 1).toInt) < Int.toNat (200 - k_i.toInt) from g_up (show k_i.toInt < (k_i + 1).toInt by omega) (show k_i.toInt < 200 by omega)) ⟨lv_sub hl [0, 1, 2] rfl, hP, hD, hS, ⟨by omega, by omega⟩, pe_n i_2 (by omega) (by omega) (by first | omega | (unfold gNe at *; omega)), by omega⟩
    ·
      have i_6 : (f_pt k_i.toNatClampNeg).toInt = p_p.toInt := g5_neN (a := (f_pt k_i.toNatClampNeg).toInt) (b := p_p.toInt) rfl rfl c_6
      refine lv_iconst (v := 1) hx hb dX5_hasPoint_20 (by decide +kernel) ?_
      exact W.zret (v := 1) hx hb hr rfl (fun t ht hW => ⟨⟨1, [(a_k, (oc5 a_h a_j a_pt e_ln e_se e_lh e_br e_we e_me e_ce e_wy e_ho e_ov)), (a_pt, (arI G 200 f_pt))], rfl, Or.inl (⟨pe_y (i := k_i) (by omega) (by omega) (by omega), rfl, rfl⟩), by rw [ht]; exact hP.sub [0, 1] rfl, hD.sub [0, 1] (by decide +kernel) rfl⟩, hS.F ht⟩) hS.2.2 dX5_hasPoint_21
set_option maxHeartbeats 4000000 in
set_option maxRecDepth 100000 in
theorem g_lackingXN (l : Launch) (G : g5_G) (a_k a_h a_g a_gn a_b a_bn a_p a_pn a_w a_wn a_bb a_j a_as a_sk a_l a_pt a_ha a_s : Nat) (sz : Nat) (e_le : Int32) (e_st : Int32) (e_fo : Int32) (e_lc : Int32) (e_g : Int32) (e_b : Int32) (e_p : Int32) (e_w : Int32) (e_ln : Int32) (e_se : Int32) (e_lh : Int32) (e_br : Int32) (e_we : Int32) (e_me : Int32) (e_ce : Int32) (e_wy : Int32) (e_ho : Int32) (e_ov : Int32) (e_f1 : Int32) (e_f2 : Int32) (e_f3 : Int32) (p_u : Int32) (e_wa : Int64) (e_gb : Int64) (f_g : Nat → Int32) (f_b : Nat → Int32) (f_p : Nat → Int32) (f_w : Nat → Int32) (f_bb : Nat → Int64) (f_as : Nat → Int32) (f_sk : Nat → Int64) (f_l : Nat → Option Nat) (f_pt : Nat → Int32) (f_ro : Nat → Int32) (g_w : Option (List CLT)) (h_e_g : 0 ≤ e_g.toInt ∧ e_g.toInt ≤ 6) (h_e_b : 0 ≤ e_b.toInt ∧ e_b.toInt ≤ 5) (h_e_p : 0 ≤ e_p.toInt ∧ e_p.toInt ≤ 8) (h_e_w : 0 ≤ e_w.toInt ∧ e_w.toInt ≤ 6) (h_e_ov : 0 ≤ e_ov.toInt ∧ e_ov.toInt ≤ 1) (e_gk : gOK f_g e_g.toInt) (e_pk : gOK f_p e_p.toInt) (e_qh : QH e_wa e_le e_st f_ro) (e_qg : QG e_g f_g e_gb f_ro) (e_qb : QB e_b f_b f_bb f_ro) (e_qp : QP e_p f_p f_ro) (e_qw : QW e_w f_w f_ro) (e_f : e_fo.toInt < 0 ∨ e_lc.toInt ≤ e_fo.toInt) (e_gw : g_w = none) : Met l yX0_lacking (wsG yX0_lacking cX0_lacking 6 (some .int)) ({ frames := 4, cells := 0, slots := 0, locals := 101 }) (va_Pc [.ref a_ha, .int p_u] (g5_P G [(a_k, (oc5 a_h a_j a_pt e_ln e_se e_lh e_br e_we e_me e_ce e_wy e_ho e_ov)), (a_h, (oc1 e_wa e_le e_st e_fo e_lc a_l a_g a_b a_s a_p a_w e_gb a_bb)), (a_g, (oc6 6 5 a_gn e_g)), (a_gn, (arI G 30 f_g)), (a_b, (oc6 5 24 a_bn e_b)), (a_bn, (arI G 120 f_b)), (a_p, (oc6 8 5 a_pn e_p)), (a_pn, (arI G 40 f_p)), (a_w, (oc6 6 6 a_wn e_w)), (a_wn, (arI G 36 f_w)), (a_bb, (arJ G 24 f_bb)), (a_j, (oc2 a_as a_sk)), (a_as, (arI G 8 f_as)), (a_sk, (arJ G 50 f_sk)), (a_l, (arW G 6 f_l)), (a_pt, (arI G 200 f_pt)), (a_ha, (oc0 a_h a_k e_f1 e_f2 e_f3))] sz)) (va_Qi (fun (r : Int32) (u : va_W) => (∃ (o_r : Int32) (o_ln : Int32) (o_se : Int32) (o_lh : Int32) (o_br : Int32) (o_we : Int32) (o_me : Int32) (o_ce : Int32) (o_wy : Int32) (o_ho : Int32) (o_ov : Int32) (o_pt : Nat → Int32) (o_as : Nat → Int32) (o_sk : Nat → Int64), (0 ≤ o_ov.toInt ∧ o_ov.toInt ≤ 1) ∧ (o_r = lackF f_ro g_w p_u) ∧ (r = o_r) ∧ (u = [(a_k, (oc5 a_h a_j a_pt o_ln o_se o_lh o_br o_we o_me o_ce o_wy o_ho o_ov)), (a_h, (oc1 e_wa e_le e_st e_fo e_lc a_l a_g a_b a_s a_p a_w e_gb a_bb)), (a_g, (oc6 6 5 a_gn e_g)), (a_gn, (arI G 30 f_g)), (a_b, (oc6 5 24 a_bn e_b)), (a_bn, (arI G 120 f_b)), (a_p, (oc6 8 5 a_pn e_p)), (a_pn, (arI G 40 f_p)), (a_w, (oc6 6 6 a_wn e_w)), (a_wn, (arI G 36 f_w)), (a_bb, (arJ G 24 f_bb)), (a_j, (oc2 a_as a_sk)), (a_as, (arI G 8 o_as)), (a_sk, (arJ G 50 o_sk)), (a_l, (arW G 6 f_l)), (a_pt, (arI G 200 o_pt)), (a_ha, (oc0 a_h a_k e_f1 e_f2 e_f3))]))) (g5_B G (va_A [(a_k, (oc5 a_h a_j a_pt e_ln e_se e_lh e_br e_we e_me e_ce e_wy e_ho e_ov)), (a_h, (oc1 e_wa e_le e_st e_fo e_lc a_l a_g a_b a_s a_p a_w e_gb a_bb)), (a_g, (oc6 6 5 a_gn e_g)), (a_gn, (arI G 30 f_g)), (a_b, (oc6 5 24 a_bn e_b)), (a_bn, (arI G 120 f_b)), (a_p, (oc6 8 5 a_pn e_p)), (a_pn, (arI G 40 f_p)), (a_w, (oc6 6 6 a_wn e_w)), (a_wn, (arI G 36 f_w)), (a_bb, (arJ G 24 f_bb)), (a_j, (oc2 a_as a_sk)), (a_as, (arI G 8 f_as)), (a_sk, (arJ G 50 f_sk)), (a_l, (arW G 6 f_l)), (a_pt, (arI G 200 f_pt)), (a_ha, (oc0 a_h a_k e_f1 e_f2 e_f3))] sz)) (va_A [(a_k, (oc5 a_h a_j a_pt e_ln e_se e_lh e_br e_we e_me e_ce e_wy e_ho e_ov)), (a_h, (oc1 e_wa e_le e_st e_fo e_lc a_l a_g a_b a_s a_p a_w e_gb a_bb)), (a_g, (oc6 6 5 a_gn e_g)), (a_gn, (arI G 30 f_g)), (a_b, (oc6 5 24 a_bn e_b)), (a_bn, (arI G 120 f_b)), (a_p, (oc6 8 5 a_pn e_p)), (a_pn, (arI G 40 f_p)), (a_w, (oc6 6 6 a_wn e_w)), (a_wn, (arI G 36 f_w)), (a_bb, (arJ G 24 f_bb)), (a_j, (oc2 a_as a_sk)), (a_as, (arI G 8 f_as)), (a_sk, (arJ G 50 f_sk)), (a_l, (arW G 6 f_l)), (a_pt, (arI G 200 f_pt)), (a_ha, (oc0 a_h a_k e_f1 e_f2 e_f3))] sz)) 0 0 (va_A [(a_k, (oc5 a_h a_j a_pt e_ln e_se e_lh e_br e_we e_me e_ce e_wy e_ho e_ov)), (a_h, (oc1 e_wa e_le e_st e_fo e_lc a_l a_g a_b a_s a_p a_w e_gb a_bb)), (a_g, (oc6 6 5 a_gn e_g)), (a_gn, (arI G 30 f_g)), (a_b, (oc6 5 24 a_bn e_b)), (a_bn, (arI G 120 f_b)), (a_p, (oc6 8 5 a_pn e_p)), (a_pn, (arI G 40 f_p)), (a_w, (oc6 6 6 a_wn e_w)), (a_wn, (arI G 36 f_w)), (a_bb, (arJ G 24 f_bb)), (a_j, (oc2 a_as a_sk)), (a_as, (arI G 8 f_as)), (a_sk, (arJ G 50 f_sk)), (a_l, (arW G 6 f_l)), (a_pt, (arI G 200 f_pt)), (a_ha, (oc0 a_h a_k e_f1 e_f2 e_f3))] sz) := by
  refine Met.ofW (cc := cX0_lacking) (maxL := 6) (ret := (some .int)) (by decide +kernel) rfl ?_
  intro p e s m args below meth c s₁ B hml hv
  obtain ⟨rfl, hsz, hP, hK, hD0, hN, hT⟩ := hv
  have hx := B.exec
  have hb := B.bytes
  have hr := B.returns
  have hts : ∀ w ∈ tblG, w.before _ s = true := fun w h => atoms_spec (ws := (wsG yX0_lacking cX0_lacking 6 (some .int))) B.pre w (List.mem_cons_of_mem _ h)
  have hown : s.vm.findClass RX0 = some m.cls := findClass_of_methodNamed B.named
  have hlocks := B.notSynchronized
  subst hsz
  have hD := hD0.self (sz := s.heap.size)
  generalize hAe : va_A [(a_k, (oc5 a_h a_j a_pt e_ln e_se e_lh e_br e_we e_me e_ce e_wy e_ho e_ov)), (a_h, (oc1 e_wa e_le e_st e_fo e_lc a_l a_g a_b a_s a_p a_w e_gb a_bb)), (a_g, (oc6 6 5 a_gn e_g)), (a_gn, (arI G 30 f_g)), (a_b, (oc6 5 24 a_bn e_b)), (a_bn, (arI G 120 f_b)), (a_p, (oc6 8 5 a_pn e_p)), (a_pn, (arI G 40 f_p)), (a_w, (oc6 6 6 a_wn e_w)), (a_wn, (arI G 36 f_w)), (a_bb, (arJ G 24 f_bb)), (a_j, (oc2 a_as a_sk)), (a_as, (arI G 8 f_as)), (a_sk, (arJ G 50 f_sk)), (a_l, (arW G 6 f_l)), (a_pt, (arI G 200 f_pt)), (a_ha, (oc0 a_h a_k e_f1 e_f2 e_f3))] s.heap.size = A at hD hT ⊢
  have hA : ∀ q : Nat, s.heap.size ≤ q → A q := fun q h => by rw [← hAe]; exact Or.inr h
  have hS : va_S A s.heap s.heap [] := va_S.rf
  replace hP : va_P G.1 vwCl [(a_k, (oc5 a_h a_j a_pt e_ln e_se e_lh e_br e_we e_me e_ce e_wy e_ho e_ov)), (a_h, (oc1 e_wa e_le e_st e_fo e_lc a_l a_g a_b a_s a_p a_w e_gb a_bb)), (a_g, (oc6 6 5 a_gn e_g)), (a_gn, (arI G 30 f_g)), (a_b, (oc6 5 24 a_bn e_b)), (a_bn, (arI G 120 f_b)), (a_p, (oc6 8 5 a_pn e_p)), (a_pn, (arI G 40 f_p)), (a_w, (oc6 6 6 a_wn e_w)), (a_wn, (arI G 36 f_w)), (a_bb, (arJ G 24 f_bb)), (a_j, (oc2 a_as a_sk)), (a_as, (arI G 8 f_as)), (a_sk, (arJ G 50 f_sk)), (a_l, (arW G 6 f_l)), (a_pt, (arI G 200 f_pt)), (a_ha, (oc0 a_h a_k e_f1 e_f2 e_f3))] s.heap := hP
  have hl := lv_entry ([.ref a_ha, .int p_u]) (n := 6) (Nat.le_of_ble_eq_true rfl)
  rw [lg_entry_eq]
  generalize (lg_sl ([.ref a_ha, .int p_u]) ++ List.replicate (6 - (lg_sl ([.ref a_ha, .int p_u])).length) Slot.unset).toArray = ls at hl ⊢
  replace hl : lv_has ls 6 [(0, .ref a_ha), (1, .int p_u)] := hl
  refine lv_iconst (v := 0) hx hb dX0_lacking_0 (by decide +kernel) ?_
  refine lv_istore_n (lv' := [(2, .int 0), (0, .ref a_ha), (1, .int p_u)]) hx hb dX0_lacking_1 rfl hl (by decide +kernel) rfl ?_
  clear hl
  intro ls hl
  refine lv_aload_n hx hb dX0_lacking_2 rfl (lv_at hl 1 rfl) ?_
  refine va_get (D := G.1) (ci := 0) (v := .ref a_h) (C := RX0) (T := TX0) (N := 5) hx hb hts inG_X0 hown hK hP 16 rfl rfl 0 (by decide +kernel) (hts _ fl_X0_9) (fun _ h9 => h9) rfl dX0_lacking_3 ?_
  refine W.eq (g2 := F0 m 6 ls [.ref a_h]) rfl ?_
  refine va_get (D := G.1) (ci := 1) (v := .ref a_w) (C := RX1) (T := TX1) (N := 13) hx hb hts inG_X1 hown hK hP 1 rfl rfl 10 (by decide +kernel) (hts _ fl_X0_19) (fun _ h9 => h9) rfl dX0_lacking_6 ?_
  refine lv_astore_n (lv' := [(3, .ref a_w), (2, .int 0), (0, .ref a_ha), (1, .int p_u)]) hx hb dX0_lacking_9 rfl hl (by decide +kernel) rfl ?_
  clear hl
  intro ls hl
  refine lv_iconst (v := 0) hx hb dX0_lacking_10 (by decide +kernel) ?_
  refine lv_istore (lv' := [(4, .int 0), (3, .ref a_w), (2, .int 0), (0, .ref a_ha), (1, .int p_u)]) hx hb dX0_lacking_11 hl (by decide +kernel) rfl ?_
  clear hl
  intro ls hl
  refine g5_loop (α := (Int32) × (Int32) × (Int32) × (Int32) × (Int32) × (Int32) × (Int32) × (Int32) × (Int32) × (Int32) × (Int32) × (Nat → Int32) × (Nat → Int32) × (Nat → Int64) × (Int32)) (fun (q : (Int32) × (Int32) × (Int32) × (Int32) × (Int32) × (Int32) × (Int32) × (Int32) × (Int32) × (Int32) × (Int32) × (Nat → Int32) × (Nat → Int32) × (Nat → Int64) × (Int32)) (ls : Array Slot) (H : Heap) (locs : List Loc) => match q with | (k_i, k_b, k_se, k_lh, k_br, k_we, k_me, k_ce, k_wy, k_ho, k_ov, k_pt, k_as, k_sk, k_ln) => lv_has ls 6 [(2, .int k_b), (4, .int k_i), (3, .ref a_w), (0, .ref a_ha), (1, .int p_u)] ∧ va_P G.1 vwCl [(a_k, (oc5 a_h a_j a_pt k_ln k_se k_lh k_br k_we k_me k_ce k_wy k_ho k_ov)), (a_h, (oc1 e_wa e_le e_st e_fo e_lc a_l a_g a_b a_s a_p a_w e_gb a_bb)), (a_g, (oc6 6 5 a_gn e_g)), (a_gn, (arI G 30 f_g)), (a_b, (oc6 5 24 a_bn e_b)), (a_bn, (arI G 120 f_b)), (a_p, (oc6 8 5 a_pn e_p)), (a_pn, (arI G 40 f_p)), (a_w, (oc6 6 6 a_wn e_w)), (a_wn, (arI G 36 f_w)), (a_bb, (arJ G 24 f_bb)), (a_j, (oc2 a_as a_sk)), (a_as, (arI G 8 k_as)), (a_sk, (arJ G 50 k_sk)), (a_l, (arW G 6 f_l)), (a_pt, (arI G 200 k_pt)), (a_ha, (oc0 a_h a_k e_f1 e_f2 e_f3))] H ∧ va_D A [(a_k, (oc5 a_h a_j a_pt k_ln k_se k_lh k_br k_we k_me k_ce k_wy k_ho k_ov)), (a_h, (oc1 e_wa e_le e_st e_fo e_lc a_l a_g a_b a_s a_p a_w e_gb a_bb)), (a_g, (oc6 6 5 a_gn e_g)), (a_gn, (arI G 30 f_g)), (a_b, (oc6 5 24 a_bn e_b)), (a_bn, (arI G 120 f_b)), (a_p, (oc6 8 5 a_pn e_p)), (a_pn, (arI G 40 f_p)), (a_w, (oc6 6 6 a_wn e_w)), (a_wn, (arI G 36 f_w)), (a_bb, (arJ G 24 f_bb)), (a_j, (oc2 a_as a_sk)), (a_as, (arI G 8 k_as)), (a_sk, (arJ G 50 k_sk)), (a_l, (arW G 6 f_l)), (a_pt, (arI G 200 k_pt)), (a_ha, (oc0 a_h a_k e_f1 e_f2 e_f3))] ∧ va_S A s.heap H locs ∧ (0 ≤ k_i.toInt ∧ k_i.toInt ≤ 6) ∧ (0 ≤ k_ov.toInt ∧ k_ov.toInt ≤ 1) ∧ (k_i.toInt ≤ e_w.toInt) ∧ (k_b = lackB f_ro g_w p_u k_i.toInt.toNat)) (fun (q : (Int32) × (Int32) × (Int32) × (Int32) × (Int32) × (Int32) × (Int32) × (Int32) × (Int32) × (Int32) × (Int32) × (Nat → Int32) × (Nat → Int32) × (Nat → Int64) × (Int32)) => match q with | (k_i, k_b, k_se, k_lh, k_br, k_we, k_me, k_ce, k_wy, k_ho, k_ov, k_pt, k_as, k_sk, k_ln) => Int.toNat (6 - k_i.toInt)) (0, 0, e_se, e_lh, e_br, e_we, e_me, e_ce, e_wy, e_ho, e_ov, f_pt, f_as, f_sk, e_ln) ⟨lv_sub hl [2, 0, 1, 3, 4] rfl, hP, hD, hS, ⟨by decide, by decide⟩, h_e_ov, by have z0 : (0 : Int32).toInt = 0 := (by decide +kernel); omega, lck_0 (by decide +kernel) rfl⟩ ?_
  rintro ⟨k_i, k_b, k_se, k_lh, k_br, k_we, k_me, k_ce, k_wy, k_ho, k_ov, k_pt, k_as, k_sk, k_ln⟩ ls H locs ⟨hl, hP, hD, hS, (i_1 : 0 ≤ k_i.toInt ∧ k_i.toInt ≤ 6), (i_2 : 0 ≤ k_ov.toInt ∧ k_ov.toInt ≤ 1), (i_3 : k_i.toInt ≤ e_w.toInt), (i_4 : k_b = lackB f_ro g_w p_u k_i.toInt.toNat)⟩ ih_13_5
  replace hl : lv_has ls 6 [(2, .int k_b), (4, .int k_i), (3, .ref a_w), (0, .ref a_ha), (1, .int p_u)] := hl
  refine g5_rs [(a_k, (oc5 a_h a_j a_pt k_ln k_se k_lh k_br k_we k_me k_ce k_wy k_ho k_ov)), (a_h, (oc1 e_wa e_le e_st e_fo e_lc a_l a_g a_b a_s a_p a_w e_gb a_bb)), (a_g, (oc6 6 5 a_gn e_g)), (a_gn, (arI G 30 f_g)), (a_b, (oc6 5 24 a_bn e_b)), (a_bn, (arI G 120 f_b)), (a_p, (oc6 8 5 a_pn e_p)), (a_pn, (arI G 40 f_p)), (a_w, (oc6 6 6 a_wn e_w)), (a_wn, (arI G 36 f_w)), (a_bb, (arJ G 24 f_bb)), (a_j, (oc2 a_as a_sk)), (a_as, (arI G 8 k_as)), (a_sk, (arJ G 50 k_sk)), (a_l, (arW G 6 f_l)), (a_pt, (arI G 200 k_pt)), (a_ha, (oc0 a_h a_k e_f1 e_f2 e_f3))] hP hD ?_
  clear hP hD
  intro hP hD
  refine lv_iload hx hb dX0_lacking_13 (lv_at hl 1 rfl) ?_
  refine lv_aload_n hx hb dX0_lacking_15 rfl (lv_at hl 2 rfl) ?_
  refine va_get (D := G.1) (ci := 6) (v := .int e_w) (C := RX6) (T := TX6) (N := 4) hx hb hts inG_X6 hown hK hP 8 rfl rfl 3 (by decide +kernel) (hts _ fl_X0_25) (fun _ h9 => h9) rfl dX0_lacking_16 ?_
  refine lv_icmp_ge (tgt := 112) hx hb dX0_lacking_19 (by decide +kernel) (fun c_6 => ?_) (fun c_6 => ?_)
  ·
    have i_6 : k_i.toInt ≥ e_w.toInt := g5_ge (a := k_i.toInt) (b := e_w.toInt) rfl rfl c_6
    refine lv_iload_n hx hb dX0_lacking_112 rfl (lv_at hl 0 rfl) ?_
    exact W.iret (v := k_b) hx hb hr (fun t ht hW => ⟨⟨k_b, [(a_k, (oc5 a_h a_j a_pt k_ln k_se k_lh k_br k_we k_me k_ce k_wy k_ho k_ov)), (a_h, (oc1 e_wa e_le e_st e_fo e_lc a_l a_g a_b a_s a_p a_w e_gb a_bb)), (a_g, (oc6 6 5 a_gn e_g)), (a_gn, (arI G 30 f_g)), (a_b, (oc6 5 24 a_bn e_b)), (a_bn, (arI G 120 f_b)), (a_p, (oc6 8 5 a_pn e_p)), (a_pn, (arI G 40 f_p)), (a_w, (oc6 6 6 a_wn e_w)), (a_wn, (arI G 36 f_w)), (a_bb, (arJ G 24 f_bb)), (a_j, (oc2 a_as a_sk)), (a_as, (arI G 8 k_as)), (a_sk, (arJ G 50 k_sk)), (a_l, (arW G 6 f_l)), (a_pt, (arI G 200 k_pt)), (a_ha, (oc0 a_h a_k e_f1 e_f2 e_f3))], rfl, ⟨k_b, k_ln, k_se, k_lh, k_br, k_we, k_me, k_ce, k_wy, k_ho, k_ov, k_pt, k_as, k_sk, i_2, lck_e i_4 (by rw [e_qw.2.1]; omega), rfl, rfl⟩, by rw [ht]; exact hP.sub [0, 1, 2, 3, 4, 5, 6, 7, 8, 9, 10, 11, 12, 13, 14, 15, 16] rfl, hD.sub [0, 1, 2, 3, 4, 5, 6, 7, 8, 9, 10, 11, 12, 13, 14, 15, 16] (by decide +kernel) rfl⟩, hS.F ht⟩) hS.2.2 dX0_lacking_113
  ·
    have i_6 : k_i.toInt < e_w.toInt := g5_geN (a := k_i.toInt) (b := e_w.toInt) rfl rfl c_6
    refine lv_aload_n hx hb dX0_lacking_22 rfl (lv_at hl 3 rfl) ?_
    refine va_get (D := G.1) (ci := 0) (v := .ref a_k) (C := RX0) (T := TX0) (N := 5) hx hb hts inG_X0 hown hK hP 16 rfl rfl 1 (by decide +kernel) (hts _ fl_X0_15) (fun _ h9 => h9) rfl dX0_lacking_23 ?_
    refine lv_aload_n hx hb dX0_lacking_26 rfl (lv_at hl 2 rfl) ?_
    refine lv_iload hx hb dX0_lacking_27 (lv_at hl 1 rfl) ?_
    refine W.eq (g2 := F0 m 29 ls [.int k_i, .ref a_w, .ref a_k]) rfl ?_
    refine lv_iconst (v := 0) hx hb dX0_lacking_29 (by decide +kernel) ?_
    obtain ⟨hPc, hDc, hFc⟩ := g5_sub3 (wc := [(a_w, (oc6 6 6 a_wn e_w)), (a_wn, (arI G 36 f_w))]) hP hD hS hA [8, 9] (by decide +kernel) rfl
    refine va_calli (va_runV (As := [.int k_i, .int 0]) (rest := [.ref a_k]) ⟨hx, hb, hml, hown, hts⟩ (t_get_W l G a_w a_wn H.size e_w k_i 0 f_w h_e_w) (cwV 2 hts gV_X0_31 rfl rfl rfl hv_X6_get ⟨Nat.le_of_ble_eq_true rfl, Nat.le_of_ble_eq_true rfl⟩) (g5_preV hPc hK hDc hN hT hS hFc (ci := 6) (q0 := 0) rfl rfl) rfl rfl hl.1 rfl (lv_room (Nat.le_of_ble_eq_true rfl)) dX0_lacking_30 ⟨Nat.le_of_ble_eq_true rfl, Nat.le_of_ble_eq_true rfl⟩) hS (fun q _ h => hFc q h) hFc (fun r u t H locs ht hvm hw hB hz1 hk1 hS => ?_)
    obtain ⟨hP1, hD1⟩ := hB
    have hP1 := g5_ht ht hP1
    obtain ⟨z8, (i_7 : z8 = tget f_w e_w.toInt 6 k_i.toInt (0 : Int32).toInt), y9, rfl⟩ := hw
    have hJ9 := va_join (wr := [(a_k, (oc5 a_h a_j a_pt k_ln k_se k_lh k_br k_we k_me k_ce k_wy k_ho k_ov)), (a_h, (oc1 e_wa e_le e_st e_fo e_lc a_l a_g a_b a_s a_p a_w e_gb a_bb)), (a_g, (oc6 6 5 a_gn e_g)), (a_gn, (arI G 30 f_g)), (a_b, (oc6 5 24 a_bn e_b)), (a_bn, (arI G 120 f_b)), (a_p, (oc6 8 5 a_pn e_p)), (a_pn, (arI G 40 f_p)), (a_bb, (arJ G 24 f_bb)), (a_j, (oc2 a_as a_sk)), (a_as, (arI G 8 k_as)), (a_sk, (arJ G 50 k_sk)), (a_l, (arW G 6 f_l)), (a_pt, (arI G 200 k_pt)), (a_ha, (oc0 a_h a_k e_f1 e_f2 e_f3))]) hP hD [8, 9] [0, 1, 2, 3, 4, 5, 6, 7, 10, 11, 12, 13, 14, 15, 16] rfl rfl (by decide +kernel) (by decide +kernel) hk1 hFc hP1 hD1
    clear hP hD hPc hDc hFc ht hvm hz1 hk1 hP1 hD1
    obtain ⟨hP, hD⟩ := hJ9
    refine g5_rs [(a_k, (oc5 a_h a_j a_pt k_ln k_se k_lh k_br k_we k_me k_ce k_wy k_ho k_ov)), (a_h, (oc1 e_wa e_le e_st e_fo e_lc a_l a_g a_b a_s a_p a_w e_gb a_bb)), (a_g, (oc6 6 5 a_gn e_g)), (a_gn, (arI G 30 f_g)), (a_b, (oc6 5 24 a_bn e_b)), (a_bn, (arI G 120 f_b)), (a_p, (oc6 8 5 a_pn e_p)), (a_pn, (arI G 40 f_p)), (a_bb, (arJ G 24 f_bb)), (a_j, (oc2 a_as a_sk)), (a_as, (arI G 8 k_as)), (a_sk, (arJ G 50 k_sk)), (a_l, (arW G 6 f_l)), (a_pt, (arI G 200 k_pt)), (a_ha, (oc0 a_h a_k e_f1 e_f2 e_f3)), (a_w, (oc6 6 6 a_wn e_w)), (a_wn, (arI G 36 f_w))] hP hD ?_
    clear hP hD
    intro hP hD
    refine g5_ti (v := z8) y9 ?_
    have hw0_10 := wi_col (m := 0) e_qw ⟨by omega, by omega⟩ i_7 (by decide +kernel) (by omega)
    have hg_10 : 0 ≤ z8.toInt ∧ z8.toInt ≤ 63 := by rw [i_7, show (0 : Int32).toInt = 0 by decide]; exact (e_qw.2.2.2 k_i.toInt (by omega) (by omega)).1
    refine lv_aload_n hx hb dX0_lacking_33 rfl (lv_at hl 2 rfl) ?_
    refine lv_iload hx hb dX0_lacking_34 (lv_at hl 1 rfl) ?_
    refine lv_iconst (v := 1) hx hb dX0_lacking_36 (by decide +kernel) ?_
    refine W.eq (g2 := F0 m 37 ls [.int 1, .int k_i, .ref a_w, .int z8, .ref a_k]) rfl ?_
    obtain ⟨hPc, hDc, hFc⟩ := g5_sub3 (wc := [(a_w, (oc6 6 6 a_wn e_w)), (a_wn, (arI G 36 f_w))]) hP hD hS hA [15, 16] (by decide +kernel) rfl
    refine va_calli (va_runV (As := [.int k_i, .int 1]) (rest := [.int z8, .ref a_k]) ⟨hx, hb, hml, hown, hts⟩ (t_get_W l G a_w a_wn H.size e_w k_i 1 f_w h_e_w) (cwV 2 hts gV_X0_31 rfl rfl rfl hv_X6_get ⟨Nat.le_of_ble_eq_true rfl, Nat.le_of_ble_eq_true rfl⟩) (g5_preV hPc hK hDc hN hT hS hFc (ci := 6) (q0 := 0) rfl rfl) rfl rfl hl.1 rfl (lv_room (Nat.le_of_ble_eq_true rfl)) dX0_lacking_37 ⟨Nat.le_of_ble_eq_true rfl, Nat.le_of_ble_eq_true rfl⟩) hS (fun q _ h => hFc q h) hFc (fun r u t H locs ht hvm hw hB hz1 hk1 hS => ?_)
    obtain ⟨hP1, hD1⟩ := hB
    have hP1 := g5_ht ht hP1
    obtain ⟨z12, (i_11 : z12 = tget f_w e_w.toInt 6 k_i.toInt (1 : Int32).toInt), y13, rfl⟩ := hw
    have hJ9 := va_join (wr := [(a_k, (oc5 a_h a_j a_pt k_ln k_se k_lh k_br k_we k_me k_ce k_wy k_ho k_ov)), (a_h, (oc1 e_wa e_le e_st e_fo e_lc a_l a_g a_b a_s a_p a_w e_gb a_bb)), (a_g, (oc6 6 5 a_gn e_g)), (a_gn, (arI G 30 f_g)), (a_b, (oc6 5 24 a_bn e_b)), (a_bn, (arI G 120 f_b)), (a_p, (oc6 8 5 a_pn e_p)), (a_pn, (arI G 40 f_p)), (a_bb, (arJ G 24 f_bb)), (a_j, (oc2 a_as a_sk)), (a_as, (arI G 8 k_as)), (a_sk, (arJ G 50 k_sk)), (a_l, (arW G 6 f_l)), (a_pt, (arI G 200 k_pt)), (a_ha, (oc0 a_h a_k e_f1 e_f2 e_f3))]) hP hD [15, 16] [0, 1, 2, 3, 4, 5, 6, 7, 8, 9, 10, 11, 12, 13, 14] rfl rfl (by decide +kernel) (by decide +kernel) hk1 hFc hP1 hD1
    clear hP hD hPc hDc hFc ht hvm hz1 hk1 hP1 hD1
    obtain ⟨hP, hD⟩ := hJ9
    refine g5_rs [(a_k, (oc5 a_h a_j a_pt k_ln k_se k_lh k_br k_we k_me k_ce k_wy k_ho k_ov)), (a_h, (oc1 e_wa e_le e_st e_fo e_lc a_l a_g a_b a_s a_p a_w e_gb a_bb)), (a_g, (oc6 6 5 a_gn e_g)), (a_gn, (arI G 30 f_g)), (a_b, (oc6 5 24 a_bn e_b)), (a_bn, (arI G 120 f_b)), (a_p, (oc6 8 5 a_pn e_p)), (a_pn, (arI G 40 f_p)), (a_bb, (arJ G 24 f_bb)), (a_j, (oc2 a_as a_sk)), (a_as, (arI G 8 k_as)), (a_sk, (arJ G 50 k_sk)), (a_l, (arW G 6 f_l)), (a_pt, (arI G 200 k_pt)), (a_ha, (oc0 a_h a_k e_f1 e_f2 e_f3)), (a_w, (oc6 6 6 a_wn e_w)), (a_wn, (arI G 36 f_w))] hP hD ?_
    clear hP hD
    intro hP hD
    refine g5_ti (v := z12) y13 ?_
    have hw1_14 := wi_col (m := 1) e_qw ⟨by omega, by omega⟩ i_11 (by decide +kernel) (by omega)
    have hg_14 : 0 ≤ z12.toInt ∧ z12.toInt ≤ 3 := by rw [i_11, show (1 : Int32).toInt = 1 by decide]; exact (e_qw.2.2.2 k_i.toInt (by omega) (by omega)).2.1
    refine lv_aload_n hx hb dX0_lacking_40 rfl (lv_at hl 2 rfl) ?_
    refine lv_iload hx hb dX0_lacking_41 (lv_at hl 1 rfl) ?_
    refine lv_iconst (v := 2) hx hb dX0_lacking_43 (by decide +kernel) ?_
    obtain ⟨hPc, hDc, hFc⟩ := g5_sub3 (wc := [(a_w, (oc6 6 6 a_wn e_w)), (a_wn, (arI G 36 f_w))]) hP hD hS hA [15, 16] (by decide +kernel) rfl
    refine va_calli (va_runV (As := [.int k_i, .int 2]) (rest := [.int z12, .int z8, .ref a_k]) ⟨hx, hb, hml, hown, hts⟩ (t_get_W l G a_w a_wn H.size e_w k_i 2 f_w h_e_w) (cwV 2 hts gV_X0_31 rfl rfl rfl hv_X6_get ⟨Nat.le_of_ble_eq_true rfl, Nat.le_of_ble_eq_true rfl⟩) (g5_preV hPc hK hDc hN hT hS hFc (ci := 6) (q0 := 0) rfl rfl) rfl rfl hl.1 rfl (lv_room (Nat.le_of_ble_eq_true rfl)) dX0_lacking_44 ⟨Nat.le_of_ble_eq_true rfl, Nat.le_of_ble_eq_true rfl⟩) hS (fun q _ h => hFc q h) hFc (fun r u t H locs ht hvm hw hB hz1 hk1 hS => ?_)
    obtain ⟨hP1, hD1⟩ := hB
    have hP1 := g5_ht ht hP1
    obtain ⟨z16, (i_15 : z16 = tget f_w e_w.toInt 6 k_i.toInt (2 : Int32).toInt), y17, rfl⟩ := hw
    have hJ9 := va_join (wr := [(a_k, (oc5 a_h a_j a_pt k_ln k_se k_lh k_br k_we k_me k_ce k_wy k_ho k_ov)), (a_h, (oc1 e_wa e_le e_st e_fo e_lc a_l a_g a_b a_s a_p a_w e_gb a_bb)), (a_g, (oc6 6 5 a_gn e_g)), (a_gn, (arI G 30 f_g)), (a_b, (oc6 5 24 a_bn e_b)), (a_bn, (arI G 120 f_b)), (a_p, (oc6 8 5 a_pn e_p)), (a_pn, (arI G 40 f_p)), (a_bb, (arJ G 24 f_bb)), (a_j, (oc2 a_as a_sk)), (a_as, (arI G 8 k_as)), (a_sk, (arJ G 50 k_sk)), (a_l, (arW G 6 f_l)), (a_pt, (arI G 200 k_pt)), (a_ha, (oc0 a_h a_k e_f1 e_f2 e_f3))]) hP hD [15, 16] [0, 1, 2, 3, 4, 5, 6, 7, 8, 9, 10, 11, 12, 13, 14] rfl rfl (by decide +kernel) (by decide +kernel) hk1 hFc hP1 hD1
    clear hP hD hPc hDc hFc ht hvm hz1 hk1 hP1 hD1
    obtain ⟨hP, hD⟩ := hJ9
    refine g5_rs [(a_k, (oc5 a_h a_j a_pt k_ln k_se k_lh k_br k_we k_me k_ce k_wy k_ho k_ov)), (a_h, (oc1 e_wa e_le e_st e_fo e_lc a_l a_g a_b a_s a_p a_w e_gb a_bb)), (a_g, (oc6 6 5 a_gn e_g)), (a_gn, (arI G 30 f_g)), (a_b, (oc6 5 24 a_bn e_b)), (a_bn, (arI G 120 f_b)), (a_p, (oc6 8 5 a_pn e_p)), (a_pn, (arI G 40 f_p)), (a_bb, (arJ G 24 f_bb)), (a_j, (oc2 a_as a_sk)), (a_as, (arI G 8 k_as)), (a_sk, (arJ G 50 k_sk)), (a_l, (arW G 6 f_l)), (a_pt, (arI G 200 k_pt)), (a_ha, (oc0 a_h a_k e_f1 e_f2 e_f3)), (a_w, (oc6 6 6 a_wn e_w)), (a_wn, (arI G 36 f_w))] hP hD ?_
    clear hP hD
    intro hP hD
    refine g5_ti (v := z16) y17 ?_
    have hw2_18 := wi_col (m := 2) e_qw ⟨by omega, by omega⟩ i_15 (by decide +kernel) (by omega)
    have hg_18 : 0 ≤ z16.toInt ∧ z16.toInt ≤ 23 := by rw [i_15, show (2 : Int32).toInt = 2 by decide]; exact (e_qw.2.2.2 k_i.toInt (by omega) (by omega)).2.2.1
    refine W.eq (g2 := F0 m 47 ls [.int z16, .int z12, .int z8, .ref a_k]) rfl ?_
    refine lv_iload_n hx hb dX0_lacking_47 rfl (lv_at hl 4 rfl) ?_
    obtain ⟨hPc, hDc, hFc⟩ := g5_sub3 (wc := [(a_k, (oc5 a_h a_j a_pt k_ln k_se k_lh k_br k_we k_me k_ce k_wy k_ho k_ov)), (a_h, (oc1 e_wa e_le e_st e_fo e_lc a_l a_g a_b a_s a_p a_w e_gb a_bb)), (a_g, (oc6 6 5 a_gn e_g)), (a_gn, (arI G 30 f_g)), (a_b, (oc6 5 24 a_bn e_b)), (a_bn, (arI G 120 f_b)), (a_p, (oc6 8 5 a_pn e_p)), (a_pn, (arI G 40 f_p)), (a_bb, (arJ G 24 f_bb)), (a_j, (oc2 a_as a_sk)), (a_as, (arI G 8 k_as)), (a_sk, (arJ G 50 k_sk)), (a_l, (arW G 6 f_l)), (a_pt, (arI G 200 k_pt))]) hP hD hS hA [0, 1, 2, 3, 4, 5, 6, 7, 8, 9, 10, 11, 12, 13] (by decide +kernel) rfl
    refine va_callv (va_runV (As := [.int z8, .int z12, .int z16, .int p_u]) (rest := []) ⟨hx, hb, hml, hown, hts⟩ (k_runHN l G a_k a_h a_g a_gn a_b a_bn a_p a_pn a_bb a_j a_as a_sk a_l a_pt a_s a_w H.size e_le e_st e_fo e_lc e_g e_b e_p k_ln k_se k_lh k_br k_we k_me k_ce k_wy k_ho k_ov z8 z12 z16 p_u e_wa e_gb f_g f_b f_p f_bb k_as k_sk f_l k_pt f_ro g_w h_e_g h_e_b h_e_p i_2 (e_gk) (e_pk) (e_qh) (e_qg) (e_qb) (e_qp) (by omega) (e_f) (e_gw)) (cwV 4 hts gV_X0_35 rfl rfl rfl hv_X5_run ⟨Nat.le_of_ble_eq_true rfl, Nat.le_of_ble_eq_true rfl⟩) (g5_preV hPc hK hDc hN hT hS hFc (ci := 5) (q0 := 0) rfl rfl) rfl rfl hl.1 rfl (lv_room (Nat.le_of_ble_eq_true rfl)) dX0_lacking_48 ⟨Nat.le_of_ble_eq_true rfl, Nat.le_of_ble_eq_true rfl⟩) hS (fun q _ h => hFc q h) hFc (fun u t H locs ht hvm hw hB hz1 hk1 hS => ?_)
    obtain ⟨hP1, hD1⟩ := hB
    have hP1 := g5_ht ht hP1
    obtain ⟨z23, z24, z25, z26, z27, z28, z29, z30, z31, z32, z33, z34, z35, (i_19 : 0 ≤ z23.toInt ∧ z23.toInt ≤ 200), (i_20 : 0 ≤ z32.toInt ∧ z32.toInt ≤ 1), (i_21 : ∀ j : Nat, (j : Int) < z23.toInt → 0 ≤ (z33 j).toInt ∧ (z33 j).toInt ≤ 1535), (i_22 : LKR f_ro g_w p_u z8 z12 z16 z24 z23 z26 z27 z33), rfl⟩ := hw
    have hJ9 := va_join (wr := [(a_ha, (oc0 a_h a_k e_f1 e_f2 e_f3)), (a_w, (oc6 6 6 a_wn e_w)), (a_wn, (arI G 36 f_w))]) hP hD [0, 1, 2, 3, 4, 5, 6, 7, 8, 9, 10, 11, 12, 13] [14, 15, 16] rfl rfl (by decide +kernel) (by decide +kernel) hk1 hFc hP1 hD1
    clear hP hD hPc hDc hFc ht hvm hz1 hk1 hP1 hD1
    obtain ⟨hP, hD⟩ := hJ9
    refine g5_rs [(a_ha, (oc0 a_h a_k e_f1 e_f2 e_f3)), (a_w, (oc6 6 6 a_wn e_w)), (a_wn, (arI G 36 f_w)), (a_k, (oc5 a_h a_j a_pt z23 z24 z25 z26 z27 z28 z29 z30 z31 z32)), (a_h, (oc1 e_wa e_le e_st e_fo e_lc a_l a_g a_b a_s a_p a_w e_gb a_bb)), (a_g, (oc6 6 5 a_gn e_g)), (a_gn, (arI G 30 f_g)), (a_b, (oc6 5 24 a_bn e_b)), (a_bn, (arI G 120 f_b)), (a_p, (oc6 8 5 a_pn e_p)), (a_pn, (arI G 40 f_p)), (a_bb, (arJ G 24 f_bb)), (a_j, (oc2 a_as a_sk)), (a_as, (arI G 8 z34)), (a_sk, (arJ G 50 z35)), (a_l, (arW G 6 f_l)), (a_pt, (arI G 200 z33))] hP hD ?_
    clear hP hD
    intro hP hD
    refine lv_aload_n hx hb dX0_lacking_51 rfl (lv_at hl 3 rfl) ?_
    refine va_get (D := G.1) (ci := 0) (v := .ref a_k) (C := RX0) (T := TX0) (N := 5) hx hb hts inG_X0 hown hK hP 0 rfl rfl 1 (by decide +kernel) (hts _ fl_X0_15) (fun _ h9 => h9) rfl dX0_lacking_52 ?_
    refine lv_aload_n hx hb dX0_lacking_55 rfl (lv_at hl 2 rfl) ?_
    refine W.eq (g2 := F0 m 56 ls [.ref a_w, .ref a_k]) rfl ?_
    refine lv_iload hx hb dX0_lacking_56 (lv_at hl 1 rfl) ?_
    refine lv_iconst (v := 4) hx hb dX0_lacking_58 (by decide +kernel) ?_
    obtain ⟨hPc, hDc, hFc⟩ := g5_sub3 (wc := [(a_w, (oc6 6 6 a_wn e_w)), (a_wn, (arI G 36 f_w))]) hP hD hS hA [1, 2] (by decide +kernel) rfl
    refine va_calli (va_runV (As := [.int k_i, .int 4]) (rest := [.ref a_k]) ⟨hx, hb, hml, hown, hts⟩ (t_get_W l G a_w a_wn H.size e_w k_i 4 f_w h_e_w) (cwV 2 hts gV_X0_31 rfl rfl rfl hv_X6_get ⟨Nat.le_of_ble_eq_true rfl, Nat.le_of_ble_eq_true rfl⟩) (g5_preV hPc hK hDc hN hT hS hFc (ci := 6) (q0 := 0) rfl rfl) rfl rfl hl.1 rfl (lv_room (Nat.le_of_ble_eq_true rfl)) dX0_lacking_59 ⟨Nat.le_of_ble_eq_true rfl, Nat.le_of_ble_eq_true rfl⟩) hS (fun q _ h => hFc q h) hFc (fun r u t H locs ht hvm hw hB hz1 hk1 hS => ?_)
    obtain ⟨hP1, hD1⟩ := hB
    have hP1 := g5_ht ht hP1
    obtain ⟨z37, (i_36 : z37 = tget f_w e_w.toInt 6 k_i.toInt (4 : Int32).toInt), y38, rfl⟩ := hw
    have hJ9 := va_join (wr := [(a_ha, (oc0 a_h a_k e_f1 e_f2 e_f3)), (a_k, (oc5 a_h a_j a_pt z23 z24 z25 z26 z27 z28 z29 z30 z31 z32)), (a_h, (oc1 e_wa e_le e_st e_fo e_lc a_l a_g a_b a_s a_p a_w e_gb a_bb)), (a_g, (oc6 6 5 a_gn e_g)), (a_gn, (arI G 30 f_g)), (a_b, (oc6 5 24 a_bn e_b)), (a_bn, (arI G 120 f_b)), (a_p, (oc6 8 5 a_pn e_p)), (a_pn, (arI G 40 f_p)), (a_bb, (arJ G 24 f_bb)), (a_j, (oc2 a_as a_sk)), (a_as, (arI G 8 z34)), (a_sk, (arJ G 50 z35)), (a_l, (arW G 6 f_l)), (a_pt, (arI G 200 z33))]) hP hD [1, 2] [0, 3, 4, 5, 6, 7, 8, 9, 10, 11, 12, 13, 14, 15, 16] rfl rfl (by decide +kernel) (by decide +kernel) hk1 hFc hP1 hD1
    clear hP hD hPc hDc hFc ht hvm hz1 hk1 hP1 hD1
    obtain ⟨hP, hD⟩ := hJ9
    refine g5_rs [(a_ha, (oc0 a_h a_k e_f1 e_f2 e_f3)), (a_k, (oc5 a_h a_j a_pt z23 z24 z25 z26 z27 z28 z29 z30 z31 z32)), (a_h, (oc1 e_wa e_le e_st e_fo e_lc a_l a_g a_b a_s a_p a_w e_gb a_bb)), (a_g, (oc6 6 5 a_gn e_g)), (a_gn, (arI G 30 f_g)), (a_b, (oc6 5 24 a_bn e_b)), (a_bn, (arI G 120 f_b)), (a_p, (oc6 8 5 a_pn e_p)), (a_pn, (arI G 40 f_p)), (a_bb, (arJ G 24 f_bb)), (a_j, (oc2 a_as a_sk)), (a_as, (arI G 8 z34)), (a_sk, (arJ G 50 z35)), (a_l, (arW G 6 f_l)), (a_pt, (arI G 200 z33)), (a_w, (oc6 6 6 a_wn e_w)), (a_wn, (arI G 36 f_w))] hP hD ?_
    clear hP hD
    intro hP hD
    refine g5_ti (v := z37) y38 ?_
    have hw4_39 := wi_col (m := 4) e_qw ⟨by omega, by omega⟩ i_36 (by decide +kernel) (by omega)
    have hg_39 : 0 ≤ z37.toInt ∧ z37.toInt ≤ 23 := by rw [i_36, show (4 : Int32).toInt = 4 by decide]; exact (e_qw.2.2.2 k_i.toInt (by omega) (by omega)).2.2.2.2.1
    refine lv_bipush (v := 64) hx hb dX0_lacking_62 (by decide +kernel) ?_
    refine lv_imul hx hb dX0_lacking_64 ?_
    have t_40 : (z37 * 64).toInt = z37.toInt * 64 := g5_imul (a := z37.toInt) (b := 64) (by rfl) (by decide +kernel) (by omega) (by omega)
    refine W.eq (g2 := F0 m 65 ls [.int (z37 * 64), .ref a_k]) rfl ?_
    refine lv_aload_n hx hb dX0_lacking_65 rfl (lv_at hl 2 rfl) ?_
    refine lv_iload hx hb dX0_lacking_66 (lv_at hl 1 rfl) ?_
    refine lv_iconst (v := 3) hx hb dX0_lacking_68 (by decide +kernel) ?_
    obtain ⟨hPc, hDc, hFc⟩ := g5_sub3 (wc := [(a_w, (oc6 6 6 a_wn e_w)), (a_wn, (arI G 36 f_w))]) hP hD hS hA [15, 16] (by decide +kernel) rfl
    refine va_calli (va_runV (As := [.int k_i, .int 3]) (rest := [.int (z37 * 64), .ref a_k]) ⟨hx, hb, hml, hown, hts⟩ (t_get_W l G a_w a_wn H.size e_w k_i 3 f_w h_e_w) (cwV 2 hts gV_X0_31 rfl rfl rfl hv_X6_get ⟨Nat.le_of_ble_eq_true rfl, Nat.le_of_ble_eq_true rfl⟩) (g5_preV hPc hK hDc hN hT hS hFc (ci := 6) (q0 := 0) rfl rfl) rfl rfl hl.1 rfl (lv_room (Nat.le_of_ble_eq_true rfl)) dX0_lacking_69 ⟨Nat.le_of_ble_eq_true rfl, Nat.le_of_ble_eq_true rfl⟩) hS (fun q _ h => hFc q h) hFc (fun r u t H locs ht hvm hw hB hz1 hk1 hS => ?_)
    obtain ⟨hP1, hD1⟩ := hB
    have hP1 := g5_ht ht hP1
    obtain ⟨z42, (i_41 : z42 = tget f_w e_w.toInt 6 k_i.toInt (3 : Int32).toInt), y43, rfl⟩ := hw
    have hJ9 := va_join (wr := [(a_ha, (oc0 a_h a_k e_f1 e_f2 e_f3)), (a_k, (oc5 a_h a_j a_pt z23 z24 z25 z26 z27 z28 z29 z30 z31 z32)), (a_h, (oc1 e_wa e_le e_st e_fo e_lc a_l a_g a_b a_s a_p a_w e_gb a_bb)), (a_g, (oc6 6 5 a_gn e_g)), (a_gn, (arI G 30 f_g)), (a_b, (oc6 5 24 a_bn e_b)), (a_bn, (arI G 120 f_b)), (a_p, (oc6 8 5 a_pn e_p)), (a_pn, (arI G 40 f_p)), (a_bb, (arJ G 24 f_bb)), (a_j, (oc2 a_as a_sk)), (a_as, (arI G 8 z34)), (a_sk, (arJ G 50 z35)), (a_l, (arW G 6 f_l)), (a_pt, (arI G 200 z33))]) hP hD [15, 16] [0, 1, 2, 3, 4, 5, 6, 7, 8, 9, 10, 11, 12, 13, 14] rfl rfl (by decide +kernel) (by decide +kernel) hk1 hFc hP1 hD1
    clear hP hD hPc hDc hFc ht hvm hz1 hk1 hP1 hD1
    obtain ⟨hP, hD⟩ := hJ9
    refine g5_rs [(a_ha, (oc0 a_h a_k e_f1 e_f2 e_f3)), (a_k, (oc5 a_h a_j a_pt z23 z24 z25 z26 z27 z28 z29 z30 z31 z32)), (a_h, (oc1 e_wa e_le e_st e_fo e_lc a_l a_g a_b a_s a_p a_w e_gb a_bb)), (a_g, (oc6 6 5 a_gn e_g)), (a_gn, (arI G 30 f_g)), (a_b, (oc6 5 24 a_bn e_b)), (a_bn, (arI G 120 f_b)), (a_p, (oc6 8 5 a_pn e_p)), (a_pn, (arI G 40 f_p)), (a_bb, (arJ G 24 f_bb)), (a_j, (oc2 a_as a_sk)), (a_as, (arI G 8 z34)), (a_sk, (arJ G 50 z35)), (a_l, (arW G 6 f_l)), (a_pt, (arI G 200 z33)), (a_w, (oc6 6 6 a_wn e_w)), (a_wn, (arI G 36 f_w))] hP hD ?_
    clear hP hD
    intro hP hD
    refine g5_ti (v := z42) y43 ?_
    have hw3_44 := wi_col (m := 3) e_qw ⟨by omega, by omega⟩ i_41 (by decide +kernel) (by omega)
    have hg_44 : 0 ≤ z42.toInt ∧ z42.toInt ≤ 63 := by rw [i_41, show (3 : Int32).toInt = 3 by decide]; exact (e_qw.2.2.2 k_i.toInt (by omega) (by omega)).2.2.2.1
    refine lv_iadd hx hb dX0_lacking_72 ?_
    have t_45 : ((z37 * 64) + z42).toInt = (z37 * 64).toInt + z42.toInt := g5_iadd (a := (z37 * 64).toInt) (b := z42.toInt) (by rfl) (by rfl) (by omega) (by omega)
    refine W.eq (g2 := F0 m 73 ls [.int ((z37 * 64) + z42), .ref a_k]) rfl ?_
    obtain ⟨hPc, hDc, hFc⟩ := g5_sub3 (wc := [(a_k, (oc5 a_h a_j a_pt z23 z24 z25 z26 z27 z28 z29 z30 z31 z32)), (a_pt, (arI G 200 z33))]) hP hD hS hA [1, 14] (by decide +kernel) rfl
    refine va_calli (va_runV (As := [.int ((z37 * 64) + z42)]) (rest := []) ⟨hx, hb, hml, hown, hts⟩ (s_hasPointX l G a_k a_pt a_h a_j H.size z23 z24 z25 z26 z27 z28 z29 z30 z31 z32 ((z37 * 64) + z42) z33 i_19 i_20) (cwV 1 hts gV_X0_41 rfl rfl rfl hv_X5_hasPoint ⟨Nat.le_of_ble_eq_true rfl, Nat.le_of_ble_eq_true rfl⟩) (g5_preV hPc hK hDc hN hT hS hFc (ci := 5) (q0 := 0) rfl rfl) rfl rfl hl.1 rfl (lv_room (Nat.le_of_ble_eq_true rfl)) dX0_lacking_73 ⟨Nat.le_of_ble_eq_true rfl, Nat.le_of_ble_eq_true rfl⟩) hS (fun q _ h => hFc q h) hFc (fun r u t H locs ht hvm hw hB hz1 hk1 hS => ?_)
    obtain ⟨hP1, hD1⟩ := hB
    have hP1 := g5_ht ht hP1
    rcases hw with ⟨(i_46 : ptsE z33 z23 ((z37 * 64) + z42)), rfl, rfl⟩ | ⟨(i_47 : ¬ ptsE z33 z23 ((z37 * 64) + z42)), rfl, rfl⟩
    ·
      have hJ9 := va_join (wr := [(a_ha, (oc0 a_h a_k e_f1 e_f2 e_f3)), (a_h, (oc1 e_wa e_le e_st e_fo e_lc a_l a_g a_b a_s a_p a_w e_gb a_bb)), (a_g, (oc6 6 5 a_gn e_g)), (a_gn, (arI G 30 f_g)), (a_b, (oc6 5 24 a_bn e_b)), (a_bn, (arI G 120 f_b)), (a_p, (oc6 8 5 a_pn e_p)), (a_pn, (arI G 40 f_p)), (a_bb, (arJ G 24 f_bb)), (a_j, (oc2 a_as a_sk)), (a_as, (arI G 8 z34)), (a_sk, (arJ G 50 z35)), (a_l, (arW G 6 f_l)), (a_w, (oc6 6 6 a_wn e_w)), (a_wn, (arI G 36 f_w))]) hP hD [1, 14] [0, 2, 3, 4, 5, 6, 7, 8, 9, 10, 11, 12, 13, 15, 16] rfl rfl (by decide +kernel) (by decide +kernel) hk1 hFc hP1 hD1
      clear hP hD hPc hDc hFc ht hvm hz1 hk1 hP1 hD1
      obtain ⟨hP, hD⟩ := hJ9
      refine g5_rs [(a_ha, (oc0 a_h a_k e_f1 e_f2 e_f3)), (a_h, (oc1 e_wa e_le e_st e_fo e_lc a_l a_g a_b a_s a_p a_w e_gb a_bb)), (a_g, (oc6 6 5 a_gn e_g)), (a_gn, (arI G 30 f_g)), (a_b, (oc6 5 24 a_bn e_b)), (a_bn, (arI G 120 f_b)), (a_p, (oc6 8 5 a_pn e_p)), (a_pn, (arI G 40 f_p)), (a_bb, (arJ G 24 f_bb)), (a_j, (oc2 a_as a_sk)), (a_as, (arI G 8 z34)), (a_sk, (arJ G 50 z35)), (a_l, (arW G 6 f_l)), (a_w, (oc6 6 6 a_wn e_w)), (a_wn, (arI G 36 f_w)), (a_k, (oc5 a_h a_j a_pt z23 z24 z25 z26 z27 z28 z29 z30 z31 z32)), (a_pt, (arI G 200 z33))] hP hD ?_
      clear hP hD
      intro hP hD
      refine lv_istore (lv' := [(5, .int 1), (2, .int k_b), (4, .int k_i), (3, .ref a_w), (0, .ref a_ha), (1, .int p_u)]) hx hb dX0_lacking_76 hl (by decide +kernel) rfl ?_
      clear hl
      intro ls hl
      refine lv_iload hx hb dX0_lacking_78 (lv_at hl 0 rfl) ?_
      refine lv_aload_n hx hb dX0_lacking_80 rfl (lv_at hl 3 rfl) ?_
      refine lv_iload hx hb dX0_lacking_81 (lv_at hl 2 rfl) ?_
      refine W.eq (g2 := F0 m 83 ls [.int k_i, .ref a_w, .int 1]) rfl ?_
      refine lv_iconst (v := 5) hx hb dX0_lacking_83 (by decide +kernel) ?_
      obtain ⟨hPc, hDc, hFc⟩ := g5_sub3 (wc := [(a_w, (oc6 6 6 a_wn e_w)), (a_wn, (arI G 36 f_w))]) hP hD hS hA [13, 14] (by decide +kernel) rfl
      refine va_calli (va_runV (As := [.int k_i, .int 5]) (rest := [.int 1]) ⟨hx, hb, hml, hown, hts⟩ (t_get_W l G a_w a_wn H.size e_w k_i 5 f_w h_e_w) (cwV 2 hts gV_X0_31 rfl rfl rfl hv_X6_get ⟨Nat.le_of_ble_eq_true rfl, Nat.le_of_ble_eq_true rfl⟩) (g5_preV hPc hK hDc hN hT hS hFc (ci := 6) (q0 := 0) rfl rfl) rfl rfl hl.1 rfl (lv_room (Nat.le_of_ble_eq_true rfl)) dX0_lacking_84 ⟨Nat.le_of_ble_eq_true rfl, Nat.le_of_ble_eq_true rfl⟩) hS (fun q _ h => hFc q h) hFc (fun r u t H locs ht hvm hw hB hz1 hk1 hS => ?_)
      obtain ⟨hP1, hD1⟩ := hB
      have hP1 := g5_ht ht hP1
      obtain ⟨z49, (i_48 : z49 = tget f_w e_w.toInt 6 k_i.toInt (5 : Int32).toInt), y50, rfl⟩ := hw
      have hJ9 := va_join (wr := [(a_ha, (oc0 a_h a_k e_f1 e_f2 e_f3)), (a_h, (oc1 e_wa e_le e_st e_fo e_lc a_l a_g a_b a_s a_p a_w e_gb a_bb)), (a_g, (oc6 6 5 a_gn e_g)), (a_gn, (arI G 30 f_g)), (a_b, (oc6 5 24 a_bn e_b)), (a_bn, (arI G 120 f_b)), (a_p, (oc6 8 5 a_pn e_p)), (a_pn, (arI G 40 f_p)), (a_bb, (arJ G 24 f_bb)), (a_j, (oc2 a_as a_sk)), (a_as, (arI G 8 z34)), (a_sk, (arJ G 50 z35)), (a_l, (arW G 6 f_l)), (a_k, (oc5 a_h a_j a_pt z23 z24 z25 z26 z27 z28 z29 z30 z31 z32)), (a_pt, (arI G 200 z33))]) hP hD [13, 14] [0, 1, 2, 3, 4, 5, 6, 7, 8, 9, 10, 11, 12, 15, 16] rfl rfl (by decide +kernel) (by decide +kernel) hk1 hFc hP1 hD1
      clear hP hD hPc hDc hFc ht hvm hz1 hk1 hP1 hD1
      obtain ⟨hP, hD⟩ := hJ9
      refine g5_rs [(a_ha, (oc0 a_h a_k e_f1 e_f2 e_f3)), (a_h, (oc1 e_wa e_le e_st e_fo e_lc a_l a_g a_b a_s a_p a_w e_gb a_bb)), (a_g, (oc6 6 5 a_gn e_g)), (a_gn, (arI G 30 f_g)), (a_b, (oc6 5 24 a_bn e_b)), (a_bn, (arI G 120 f_b)), (a_p, (oc6 8 5 a_pn e_p)), (a_pn, (arI G 40 f_p)), (a_bb, (arJ G 24 f_bb)), (a_j, (oc2 a_as a_sk)), (a_as, (arI G 8 z34)), (a_sk, (arJ G 50 z35)), (a_l, (arW G 6 f_l)), (a_k, (oc5 a_h a_j a_pt z23 z24 z25 z26 z27 z28 z29 z30 z31 z32)), (a_pt, (arI G 200 z33)), (a_w, (oc6 6 6 a_wn e_w)), (a_wn, (arI G 36 f_w))] hP hD ?_
      clear hP hD
      intro hP hD
      refine g5_ti (v := z49) y50 ?_
      have hw5_51 := wi_col (m := 5) e_qw ⟨by omega, by omega⟩ i_48 (by decide +kernel) (by omega)
      have hg_51 : 0 ≤ z49.toInt ∧ z49.toInt ≤ 1 := by rw [i_48, show (5 : Int32).toInt = 5 by decide]; exact (e_qw.2.2.2 k_i.toInt (by omega) (by omega)).2.2.2.2.2
      refine lv_iconst (v := 1) hx hb dX0_lacking_87 (by decide +kernel) ?_
      refine lv_icmp_ne (tgt := 95) hx hb dX0_lacking_88 (by decide +kernel) (fun c_52 => ?_) (fun c_52 => ?_)
      ·
        have n_52 : gNe (z49.toInt) (1) := g5_ne (a := z49.toInt) (b := 1) rfl (by decide +kernel) c_52
        have i_52 : z49.toInt ≤ 0 := by have z := g5_ne (a := z49.toInt) (b := 1) (by rfl) (by decide +kernel) c_52; omega
        refine lv_iconst (v := 0) hx hb dX0_lacking_95 (by decide +kernel) ?_
        refine lv_icmp_eq (tgt := 106) hx hb dX0_lacking_96 (by decide +kernel) (fun c_53 => ?_) (fun c_53 => ?_)
        ·
          exact absurd c_53 (by decide +kernel)
        ·
          refine lv_iload_n hx hb dX0_lacking_99 rfl (lv_at hl 1 rfl) ?_
          refine lv_iconst (v := 1) hx hb dX0_lacking_100 (by decide +kernel) ?_
          refine lv_iload hx hb dX0_lacking_101 (lv_at hl 2 rfl) ?_
          refine lv_ishl hx hb dX0_lacking_103 ?_
          refine W.eq (g2 := F0 m 104 ls [.int (1 <<< (k_i &&& 31)), .int k_b]) rfl ?_
          refine lv_ior hx hb dX0_lacking_104 ?_
          refine lv_istore_n (lv' := [(2, .int (k_b ||| (1 <<< (k_i &&& 31)))), (5, .int 1), (4, .int k_i), (3, .ref a_w), (0, .ref a_ha), (1, .int p_u)]) hx hb dX0_lacking_105 rfl hl (by decide +kernel) rfl ?_
          clear hl
          intro ls hl
          refine lv_iinc (v := (k_i + 1)) (lv' := [(4, .int (k_i + 1)), (2, .int (k_b ||| (1 <<< (k_i &&& 31)))), (5, .int 1), (3, .ref a_w), (0, .ref a_ha), (1, .int p_u)]) hx hb dX0_lacking_106 hl (k := 2) rfl rfl (by decide +kernel) rfl ?_
          clear hl
          intro ls hl
          have t_54 : (k_i + 1).toInt = k_i.toInt + 1 := g5_iadd (a := k_i.toInt) (b := 1) rfl (by decide +kernel) (by omega) (by omega)
          refine lv_goto (tgt := 13) hx hb dX0_lacking_109 (by decide +kernel) ?_
          exact ih_13_5 ((k_i + 1), (k_b ||| (1 <<< (k_i &&& 31))), z24, z25, z26, z27, z28, z29, z30, z31, z32, z33, z34, z35, z23) ls H locs (show Int.toNat (6 - (k_i + 1).toInt) < Int.toNat (6 - k_i.toInt) from g_up (show k_i.toInt < (k_i + 1).toInt by omega) (show k_i.toInt < 6 by omega)) ⟨lv_sub hl [1, 0, 3, 4, 5] rfl, hP.sub [13, 1, 2, 3, 4, 5, 6, 7, 15, 16, 8, 9, 10, 11, 12, 14, 0] rfl, hD.sub [13, 1, 2, 3, 4, 5, 6, 7, 15, 16, 8, 9, 10, 11, 12, 14, 0] (by decide +kernel) rfl, hS, ⟨by omega, by omega⟩, i_20, by omega, lck_S (d := 1) i_4 (by omega) (by omega) hw0_10 hw1_14 hw2_18 hw3_44 hw4_39 hw5_51 i_22 (Or.inl ⟨rfl, (by rw [Int32.mul_comm 64]; exact i_46)⟩) (Or.inr ⟨(by first | omega | (unfold gNe at *; omega)), rfl⟩)⟩
      ·
        have i_52 : z49.toInt = 1 := g5_neN (a := z49.toInt) (b := 1) rfl (by decide +kernel) c_52
        refine lv_iconst (v := 1) hx hb dX0_lacking_91 (by decide +kernel) ?_
        refine lv_goto (tgt := 96) hx hb dX0_lacking_92 (by decide +kernel) ?_
        refine lv_icmp_eq (tgt := 106) hx hb dX0_lacking_96 (by decide +kernel) (fun c_55 => ?_) (fun c_55 => ?_)
        ·
          refine lv_iinc (v := (k_i + 1)) (lv' := [(4, .int (k_i + 1)), (5, .int 1), (2, .int k_b), (3, .ref a_w), (0, .ref a_ha), (1, .int p_u)]) hx hb dX0_lacking_106 hl (k := 2) rfl rfl (by decide +kernel) rfl ?_
          clear hl
          intro ls hl
          have t_56 : (k_i + 1).toInt = k_i.toInt + 1 := g5_iadd (a := k_i.toInt) (b := 1) rfl (by decide +kernel) (by omega) (by omega)
          refine lv_goto (tgt := 13) hx hb dX0_lacking_109 (by decide +kernel) ?_
          exact ih_13_5 ((k_i + 1), k_b, z24, z25, z26, z27, z28, z29, z30, z31, z32, z33, z34, z35, z23) ls H locs (show Int.toNat (6 - (k_i + 1).toInt) < Int.toNat (6 - k_i.toInt) from g_up (show k_i.toInt < (k_i + 1).toInt by omega) (show k_i.toInt < 6 by omega)) ⟨lv_sub hl [2, 0, 3, 4, 5] rfl, hP.sub [13, 1, 2, 3, 4, 5, 6, 7, 15, 16, 8, 9, 10, 11, 12, 14, 0] rfl, hD.sub [13, 1, 2, 3, 4, 5, 6, 7, 15, 16, 8, 9, 10, 11, 12, 14, 0] (by decide +kernel) rfl, hS, ⟨by omega, by omega⟩, i_20, by omega, lck_S (d := 1) i_4 (by omega) (by omega) hw0_10 hw1_14 hw2_18 hw3_44 hw4_39 hw5_51 i_22 (Or.inl ⟨rfl, (by rw [Int32.mul_comm 64]; exact i_46)⟩) (Or.inl ⟨(by first | omega | (unfold gNe at *; omega)), rfl⟩)⟩
        ·
          exact absurd c_55 (by decide +kernel)
    ·
      have hJ9 := va_join (wr := [(a_ha, (oc0 a_h a_k e_f1 e_f2 e_f3)), (a_h, (oc1 e_wa e_le e_st e_fo e_lc a_l a_g a_b a_s a_p a_w e_gb a_bb)), (a_g, (oc6 6 5 a_gn e_g)), (a_gn, (arI G 30 f_g)), (a_b, (oc6 5 24 a_bn e_b)), (a_bn, (arI G 120 f_b)), (a_p, (oc6 8 5 a_pn e_p)), (a_pn, (arI G 40 f_p)), (a_bb, (arJ G 24 f_bb)), (a_j, (oc2 a_as a_sk)), (a_as, (arI G 8 z34)), (a_sk, (arJ G 50 z35)), (a_l, (arW G 6 f_l)), (a_w, (oc6 6 6 a_wn e_w)), (a_wn, (arI G 36 f_w))]) hP hD [1, 14] [0, 2, 3, 4, 5, 6, 7, 8, 9, 10, 11, 12, 13, 15, 16] rfl rfl (by decide +kernel) (by decide +kernel) hk1 hFc hP1 hD1
      clear hP hD hPc hDc hFc ht hvm hz1 hk1 hP1 hD1
      obtain ⟨hP, hD⟩ := hJ9
      refine g5_rs [(a_ha, (oc0 a_h a_k e_f1 e_f2 e_f3)), (a_h, (oc1 e_wa e_le e_st e_fo e_lc a_l a_g a_b a_s a_p a_w e_gb a_bb)), (a_g, (oc6 6 5 a_gn e_g)), (a_gn, (arI G 30 f_g)), (a_b, (oc6 5 24 a_bn e_b)), (a_bn, (arI G 120 f_b)), (a_p, (oc6 8 5 a_pn e_p)), (a_pn, (arI G 40 f_p)), (a_bb, (arJ G 24 f_bb)), (a_j, (oc2 a_as a_sk)), (a_as, (arI G 8 z34)), (a_sk, (arJ G 50 z35)), (a_l, (arW G 6 f_l)), (a_w, (oc6 6 6 a_wn e_w)), (a_wn, (arI G 36 f_w)), (a_k, (oc5 a_h a_j a_pt z23 z24 z25 z26 z27 z28 z29 z30 z31 z32)), (a_pt, (arI G 200 z33))] hP hD ?_
      clear hP hD
      intro hP hD
      refine lv_istore (lv' := [(5, .int 0), (2, .int k_b), (4, .int k_i), (3, .ref a_w), (0, .ref a_ha), (1, .int p_u)]) hx hb dX0_lacking_76 hl (by decide +kernel) rfl ?_
      clear hl
      intro ls hl
      refine lv_iload hx hb dX0_lacking_78 (lv_at hl 0 rfl) ?_
      refine lv_aload_n hx hb dX0_lacking_80 rfl (lv_at hl 3 rfl) ?_
      refine lv_iload hx hb dX0_lacking_81 (lv_at hl 2 rfl) ?_
      refine W.eq (g2 := F0 m 83 ls [.int k_i, .ref a_w, .int 0]) rfl ?_
      refine lv_iconst (v := 5) hx hb dX0_lacking_83 (by decide +kernel) ?_
      obtain ⟨hPc, hDc, hFc⟩ := g5_sub3 (wc := [(a_w, (oc6 6 6 a_wn e_w)), (a_wn, (arI G 36 f_w))]) hP hD hS hA [13, 14] (by decide +kernel) rfl
      refine va_calli (va_runV (As := [.int k_i, .int 5]) (rest := [.int 0]) ⟨hx, hb, hml, hown, hts⟩ (t_get_W l G a_w a_wn H.size e_w k_i 5 f_w h_e_w) (cwV 2 hts gV_X0_31 rfl rfl rfl hv_X6_get ⟨Nat.le_of_ble_eq_true rfl, Nat.le_of_ble_eq_true rfl⟩) (g5_preV hPc hK hDc hN hT hS hFc (ci := 6) (q0 := 0) rfl rfl) rfl rfl hl.1 rfl (lv_room (Nat.le_of_ble_eq_true rfl)) dX0_lacking_84 ⟨Nat.le_of_ble_eq_true rfl, Nat.le_of_ble_eq_true rfl⟩) hS (fun q _ h => hFc q h) hFc (fun r u t H locs ht hvm hw hB hz1 hk1 hS => ?_)
      obtain ⟨hP1, hD1⟩ := hB
      have hP1 := g5_ht ht hP1
      obtain ⟨z58, (i_57 : z58 = tget f_w e_w.toInt 6 k_i.toInt (5 : Int32).toInt), y59, rfl⟩ := hw
      have hJ9 := va_join (wr := [(a_ha, (oc0 a_h a_k e_f1 e_f2 e_f3)), (a_h, (oc1 e_wa e_le e_st e_fo e_lc a_l a_g a_b a_s a_p a_w e_gb a_bb)), (a_g, (oc6 6 5 a_gn e_g)), (a_gn, (arI G 30 f_g)), (a_b, (oc6 5 24 a_bn e_b)), (a_bn, (arI G 120 f_b)), (a_p, (oc6 8 5 a_pn e_p)), (a_pn, (arI G 40 f_p)), (a_bb, (arJ G 24 f_bb)), (a_j, (oc2 a_as a_sk)), (a_as, (arI G 8 z34)), (a_sk, (arJ G 50 z35)), (a_l, (arW G 6 f_l)), (a_k, (oc5 a_h a_j a_pt z23 z24 z25 z26 z27 z28 z29 z30 z31 z32)), (a_pt, (arI G 200 z33))]) hP hD [13, 14] [0, 1, 2, 3, 4, 5, 6, 7, 8, 9, 10, 11, 12, 15, 16] rfl rfl (by decide +kernel) (by decide +kernel) hk1 hFc hP1 hD1
      clear hP hD hPc hDc hFc ht hvm hz1 hk1 hP1 hD1
      obtain ⟨hP, hD⟩ := hJ9
      refine g5_rs [(a_ha, (oc0 a_h a_k e_f1 e_f2 e_f3)), (a_h, (oc1 e_wa e_le e_st e_fo e_lc a_l a_g a_b a_s a_p a_w e_gb a_bb)), (a_g, (oc6 6 5 a_gn e_g)), (a_gn, (arI G 30 f_g)), (a_b, (oc6 5 24 a_bn e_b)), (a_bn, (arI G 120 f_b)), (a_p, (oc6 8 5 a_pn e_p)), (a_pn, (arI G 40 f_p)), (a_bb, (arJ G 24 f_bb)), (a_j, (oc2 a_as a_sk)), (a_as, (arI G 8 z34)), (a_sk, (arJ G 50 z35)), (a_l, (arW G 6 f_l)), (a_k, (oc5 a_h a_j a_pt z23 z24 z25 z26 z27 z28 z29 z30 z31 z32)), (a_pt, (arI G 200 z33)), (a_w, (oc6 6 6 a_wn e_w)), (a_wn, (arI G 36 f_w))] hP hD ?_
      clear hP hD
      intro hP hD
      refine g5_ti (v := z58) y59 ?_
      have hw5_60 := wi_col (m := 5) e_qw ⟨by omega, by omega⟩ i_57 (by decide +kernel) (by omega)
      have hg_60 : 0 ≤ z58.toInt ∧ z58.toInt ≤ 1 := by rw [i_57, show (5 : Int32).toInt = 5 by decide]; exact (e_qw.2.2.2 k_i.toInt (by omega) (by omega)).2.2.2.2.2
      refine lv_iconst (v := 1) hx hb dX0_lacking_87 (by decide +kernel) ?_
      refine lv_icmp_ne (tgt := 95) hx hb dX0_lacking_88 (by decide +kernel) (fun c_61 => ?_) (fun c_61 => ?_)
      ·
        have n_61 : gNe (z58.toInt) (1) := g5_ne (a := z58.toInt) (b := 1) rfl (by decide +kernel) c_61
        have i_61 : z58.toInt ≤ 0 := by have z := g5_ne (a := z58.toInt) (b := 1) (by rfl) (by decide +kernel) c_61; omega
        refine lv_iconst (v := 0) hx hb dX0_lacking_95 (by decide +kernel) ?_
        refine lv_icmp_eq (tgt := 106) hx hb dX0_lacking_96 (by decide +kernel) (fun c_62 => ?_) (fun c_62 => ?_)
        ·
          refine lv_iinc (v := (k_i + 1)) (lv' := [(4, .int (k_i + 1)), (5, .int 0), (2, .int k_b), (3, .ref a_w), (0, .ref a_ha), (1, .int p_u)]) hx hb dX0_lacking_106 hl (k := 2) rfl rfl (by decide +kernel) rfl ?_
          clear hl
          intro ls hl
          have t_63 : (k_i + 1).toInt = k_i.toInt + 1 := g5_iadd (a := k_i.toInt) (b := 1) rfl (by decide +kernel) (by omega) (by omega)
          refine lv_goto (tgt := 13) hx hb dX0_lacking_109 (by decide +kernel) ?_
          exact ih_13_5 ((k_i + 1), k_b, z24, z25, z26, z27, z28, z29, z30, z31, z32, z33, z34, z35, z23) ls H locs (show Int.toNat (6 - (k_i + 1).toInt) < Int.toNat (6 - k_i.toInt) from g_up (show k_i.toInt < (k_i + 1).toInt by omega) (show k_i.toInt < 6 by omega)) ⟨lv_sub hl [2, 0, 3, 4, 5] rfl, hP.sub [13, 1, 2, 3, 4, 5, 6, 7, 15, 16, 8, 9, 10, 11, 12, 14, 0] rfl, hD.sub [13, 1, 2, 3, 4, 5, 6, 7, 15, 16, 8, 9, 10, 11, 12, 14, 0] (by decide +kernel) rfl, hS, ⟨by omega, by omega⟩, i_20, by omega, lck_S (d := 0) i_4 (by omega) (by omega) hw0_10 hw1_14 hw2_18 hw3_44 hw4_39 hw5_60 i_22 (Or.inr ⟨rfl, (by rw [Int32.mul_comm 64]; exact i_47)⟩) (Or.inl ⟨(by first | omega | (unfold gNe at *; omega)), rfl⟩)⟩
        ·
          exact absurd c_62 (by decide +kernel)
      ·
        have i_61 : z58.toInt = 1 := g5_neN (a := z58.toInt) (b := 1) rfl (by decide +kernel) c_61
        refine lv_iconst (v := 1) hx hb dX0_lacking_91 (by decide +kernel) ?_
        refine lv_goto (tgt := 96) hx hb dX0_lacking_92 (by decide +kernel) ?_
        refine lv_icmp_eq (tgt := 106) hx hb dX0_lacking_96 (by decide +kernel) (fun c_64 => ?_) (fun c_64 => ?_)
        ·
          exact absurd c_64 (by decide +kernel)
        ·
          refine lv_iload_n hx hb dX0_lacking_99 rfl (lv_at hl 1 rfl) ?_
          refine lv_iconst (v := 1) hx hb dX0_lacking_100 (by decide +kernel) ?_
          refine lv_iload hx hb dX0_lacking_101 (lv_at hl 2 rfl) ?_
          refine lv_ishl hx hb dX0_lacking_103 ?_
          refine W.eq (g2 := F0 m 104 ls [.int (1 <<< (k_i &&& 31)), .int k_b]) rfl ?_
          refine lv_ior hx hb dX0_lacking_104 ?_
          refine lv_istore_n (lv' := [(2, .int (k_b ||| (1 <<< (k_i &&& 31)))), (5, .int 0), (4, .int k_i), (3, .ref a_w), (0, .ref a_ha), (1, .int p_u)]) hx hb dX0_lacking_105 rfl hl (by decide +kernel) rfl ?_
          clear hl
          intro ls hl
          refine lv_iinc (v := (k_i + 1)) (lv' := [(4, .int (k_i + 1)), (2, .int (k_b ||| (1 <<< (k_i &&& 31)))), (5, .int 0), (3, .ref a_w), (0, .ref a_ha), (1, .int p_u)]) hx hb dX0_lacking_106 hl (k := 2) rfl rfl (by decide +kernel) rfl ?_
          clear hl
          intro ls hl
          have t_65 : (k_i + 1).toInt = k_i.toInt + 1 := g5_iadd (a := k_i.toInt) (b := 1) rfl (by decide +kernel) (by omega) (by omega)
          refine lv_goto (tgt := 13) hx hb dX0_lacking_109 (by decide +kernel) ?_
          exact ih_13_5 ((k_i + 1), (k_b ||| (1 <<< (k_i &&& 31))), z24, z25, z26, z27, z28, z29, z30, z31, z32, z33, z34, z35, z23) ls H locs (show Int.toNat (6 - (k_i + 1).toInt) < Int.toNat (6 - k_i.toInt) from g_up (show k_i.toInt < (k_i + 1).toInt by omega) (show k_i.toInt < 6 by omega)) ⟨lv_sub hl [1, 0, 3, 4, 5] rfl, hP.sub [13, 1, 2, 3, 4, 5, 6, 7, 15, 16, 8, 9, 10, 11, 12, 14, 0] rfl, hD.sub [13, 1, 2, 3, 4, 5, 6, 7, 15, 16, 8, 9, 10, 11, 12, 14, 0] (by decide +kernel) rfl, hS, ⟨by omega, by omega⟩, i_20, by omega, lck_S (d := 0) i_4 (by omega) (by omega) hw0_10 hw1_14 hw2_18 hw3_44 hw4_39 hw5_60 i_22 (Or.inr ⟨rfl, (by rw [Int32.mul_comm 64]; exact i_47)⟩) (Or.inr ⟨(by first | omega | (unfold gNe at *; omega)), rfl⟩)⟩
set_option maxHeartbeats 4000000 in
set_option maxRecDepth 100000 in
theorem g_lackingXL (l : Launch) (G : g5_G) (a_k a_h a_g a_gn a_b a_bn a_p a_pn a_w a_wn a_bb a_j a_as a_sk a_l a_lo a_sr a_cd a_hd a_pt a_ha a_s : Nat) (sz : Nat) (e_le : Int32) (e_st : Int32) (e_fo : Int32) (e_lc : Int32) (e_g : Int32) (e_b : Int32) (e_p : Int32) (e_w : Int32) (e_cl : Int32) (e_ln : Int32) (e_se : Int32) (e_lh : Int32) (e_br : Int32) (e_we : Int32) (e_me : Int32) (e_ce : Int32) (e_wy : Int32) (e_ho : Int32) (e_ov : Int32) (e_f1 : Int32) (e_f2 : Int32) (e_f3 : Int32) (p_u : Int32) (e_wa : Int64) (e_gb : Int64) (f_g : Nat → Int32) (f_b : Nat → Int32) (f_p : Nat → Int32) (f_w : Nat → Int32) (f_bb : Nat → Int64) (f_as : Nat → Int32) (f_sk : Nat → Int64) (f_l : Nat → Option Nat) (f_sr : Nat → Int32) (f_cd : Nat → Int32) (f_hd : Nat → Int32) (f_pt : Nat → Int32) (f_ro : Nat → Int32) (g_w : Option (List CLT)) (g_L : List CLT) (n_sr : Nat) (n_cd : Nat) (n_hd : Nat) (h_e_g : 0 ≤ e_g.toInt ∧ e_g.toInt ≤ 6) (h_e_b : 0 ≤ e_b.toInt ∧ e_b.toInt ≤ 5) (h_e_p : 0 ≤ e_p.toInt ∧ e_p.toInt ≤ 8) (h_e_w : 0 ≤ e_w.toInt ∧ e_w.toInt ≤ 6) (h_e_cl : 0 ≤ e_cl.toInt ∧ e_cl.toInt ≤ 12) (h_e_ov : 0 ≤ e_ov.toInt ∧ e_ov.toInt ≤ 1) (e_gk : gOK f_g e_g.toInt) (e_pk : gOK f_p e_p.toInt) (e_qh : QH e_wa e_le e_st f_ro) (e_qg : QG e_g f_g e_gb f_ro) (e_qb : QB e_b f_b f_bb f_ro) (e_qp : QP e_p f_p f_ro) (e_qw : QW e_w f_w f_ro) (e_f : 0 ≤ e_fo.toInt ∧ e_fo.toInt < e_lc.toInt ∧ e_lc.toInt ≤ 6) (e_a : f_l e_fo.toNatClampNeg = some a_lo) (e_hn : n_cd ≤ 400) (e_hs : ∀ j : Nat, j < n_sr → 0 ≤ (f_sr j).toInt ∧ (f_sr j).toInt ≤ (n_cd : Int)) (e_hk : ∀ j : Nat, j < n_cd → (f_cd j >>> (12 &&& 31)).toInt = 1 → (f_cd j &&& 4095).toInt < 8) (e_c : (e_cl.toInt : Int) ≤ (n_hd : Int) ∧ (e_cl.toInt + 1 : Int) ≤ (n_sr : Int)) (e_gw : g_w = some g_L) (e_lw : LWC f_hd f_sr f_cd g_L e_cl.toInt.toNat) (e_lv : lvC f_cd n_cd ≤ 50) : Met l yX0_lacking (wsG yX0_lacking cX0_lacking 6 (some .int)) ({ frames := 5, cells := 0, slots := 0, locals := 134 }) (va_Pc [.ref a_ha, .int p_u] (g5_P G [(a_k, (oc5 a_h a_j a_pt e_ln e_se e_lh e_br e_we e_me e_ce e_wy e_ho e_ov)), (a_h, (oc1 e_wa e_le e_st e_fo e_lc a_l a_g a_b a_s a_p a_w e_gb a_bb)), (a_g, (oc6 6 5 a_gn e_g)), (a_gn, (arI G 30 f_g)), (a_b, (oc6 5 24 a_bn e_b)), (a_bn, (arI G 120 f_b)), (a_p, (oc6 8 5 a_pn e_p)), (a_pn, (arI G 40 f_p)), (a_w, (oc6 6 6 a_wn e_w)), (a_wn, (arI G 36 f_w)), (a_bb, (arJ G 24 f_bb)), (a_j, (oc2 a_as a_sk)), (a_as, (arI G 8 f_as)), (a_sk, (arJ G 50 f_sk)), (a_l, (arW G 6 f_l)), (a_lo, (oc3 e_cl a_hd a_sr a_cd)), (a_sr, (arI G n_sr f_sr)), (a_cd, (arI G n_cd f_cd)), (a_hd, (arI G n_hd f_hd)), (a_pt, (arI G 200 f_pt)), (a_ha, (oc0 a_h a_k e_f1 e_f2 e_f3))] sz)) (va_Qi (fun (r : Int32) (u : va_W) => (∃ (o_r : Int32) (o_ln : Int32) (o_se : Int32) (o_lh : Int32) (o_br : Int32) (o_we : Int32) (o_me : Int32) (o_ce : Int32) (o_wy : Int32) (o_ho : Int32) (o_ov : Int32) (o_pt : Nat → Int32) (o_as : Nat → Int32) (o_sk : Nat → Int64), (0 ≤ o_ov.toInt ∧ o_ov.toInt ≤ 1) ∧ (o_r = lackF f_ro g_w p_u) ∧ (r = o_r) ∧ (u = [(a_k, (oc5 a_h a_j a_pt o_ln o_se o_lh o_br o_we o_me o_ce o_wy o_ho o_ov)), (a_h, (oc1 e_wa e_le e_st e_fo e_lc a_l a_g a_b a_s a_p a_w e_gb a_bb)), (a_g, (oc6 6 5 a_gn e_g)), (a_gn, (arI G 30 f_g)), (a_b, (oc6 5 24 a_bn e_b)), (a_bn, (arI G 120 f_b)), (a_p, (oc6 8 5 a_pn e_p)), (a_pn, (arI G 40 f_p)), (a_w, (oc6 6 6 a_wn e_w)), (a_wn, (arI G 36 f_w)), (a_bb, (arJ G 24 f_bb)), (a_j, (oc2 a_as a_sk)), (a_as, (arI G 8 o_as)), (a_sk, (arJ G 50 o_sk)), (a_l, (arW G 6 f_l)), (a_lo, (oc3 e_cl a_hd a_sr a_cd)), (a_sr, (arI G n_sr f_sr)), (a_cd, (arI G n_cd f_cd)), (a_hd, (arI G n_hd f_hd)), (a_pt, (arI G 200 o_pt)), (a_ha, (oc0 a_h a_k e_f1 e_f2 e_f3))]))) (g5_B G (va_A [(a_k, (oc5 a_h a_j a_pt e_ln e_se e_lh e_br e_we e_me e_ce e_wy e_ho e_ov)), (a_h, (oc1 e_wa e_le e_st e_fo e_lc a_l a_g a_b a_s a_p a_w e_gb a_bb)), (a_g, (oc6 6 5 a_gn e_g)), (a_gn, (arI G 30 f_g)), (a_b, (oc6 5 24 a_bn e_b)), (a_bn, (arI G 120 f_b)), (a_p, (oc6 8 5 a_pn e_p)), (a_pn, (arI G 40 f_p)), (a_w, (oc6 6 6 a_wn e_w)), (a_wn, (arI G 36 f_w)), (a_bb, (arJ G 24 f_bb)), (a_j, (oc2 a_as a_sk)), (a_as, (arI G 8 f_as)), (a_sk, (arJ G 50 f_sk)), (a_l, (arW G 6 f_l)), (a_lo, (oc3 e_cl a_hd a_sr a_cd)), (a_sr, (arI G n_sr f_sr)), (a_cd, (arI G n_cd f_cd)), (a_hd, (arI G n_hd f_hd)), (a_pt, (arI G 200 f_pt)), (a_ha, (oc0 a_h a_k e_f1 e_f2 e_f3))] sz)) (va_A [(a_k, (oc5 a_h a_j a_pt e_ln e_se e_lh e_br e_we e_me e_ce e_wy e_ho e_ov)), (a_h, (oc1 e_wa e_le e_st e_fo e_lc a_l a_g a_b a_s a_p a_w e_gb a_bb)), (a_g, (oc6 6 5 a_gn e_g)), (a_gn, (arI G 30 f_g)), (a_b, (oc6 5 24 a_bn e_b)), (a_bn, (arI G 120 f_b)), (a_p, (oc6 8 5 a_pn e_p)), (a_pn, (arI G 40 f_p)), (a_w, (oc6 6 6 a_wn e_w)), (a_wn, (arI G 36 f_w)), (a_bb, (arJ G 24 f_bb)), (a_j, (oc2 a_as a_sk)), (a_as, (arI G 8 f_as)), (a_sk, (arJ G 50 f_sk)), (a_l, (arW G 6 f_l)), (a_lo, (oc3 e_cl a_hd a_sr a_cd)), (a_sr, (arI G n_sr f_sr)), (a_cd, (arI G n_cd f_cd)), (a_hd, (arI G n_hd f_hd)), (a_pt, (arI G 200 f_pt)), (a_ha, (oc0 a_h a_k e_f1 e_f2 e_f3))] sz)) 0 0 (va_A [(a_k, (oc5 a_h a_j a_pt e_ln e_se e_lh e_br e_we e_me e_ce e_wy e_ho e_ov)), (a_h, (oc1 e_wa e_le e_st e_fo e_lc a_l a_g a_b a_s a_p a_w e_gb a_bb)), (a_g, (oc6 6 5 a_gn e_g)), (a_gn, (arI G 30 f_g)), (a_b, (oc6 5 24 a_bn e_b)), (a_bn, (arI G 120 f_b)), (a_p, (oc6 8 5 a_pn e_p)), (a_pn, (arI G 40 f_p)), (a_w, (oc6 6 6 a_wn e_w)), (a_wn, (arI G 36 f_w)), (a_bb, (arJ G 24 f_bb)), (a_j, (oc2 a_as a_sk)), (a_as, (arI G 8 f_as)), (a_sk, (arJ G 50 f_sk)), (a_l, (arW G 6 f_l)), (a_lo, (oc3 e_cl a_hd a_sr a_cd)), (a_sr, (arI G n_sr f_sr)), (a_cd, (arI G n_cd f_cd)), (a_hd, (arI G n_hd f_hd)), (a_pt, (arI G 200 f_pt)), (a_ha, (oc0 a_h a_k e_f1 e_f2 e_f3))] sz) := by
  refine Met.ofW (cc := cX0_lacking) (maxL := 6) (ret := (some .int)) (by decide +kernel) rfl ?_
  intro p e s m args below meth c s₁ B hml hv
  obtain ⟨rfl, hsz, hP, hK, hD0, hN, hT⟩ := hv
  have hx := B.exec
  have hb := B.bytes
  have hr := B.returns
  have hts : ∀ w ∈ tblG, w.before _ s = true := fun w h => atoms_spec (ws := (wsG yX0_lacking cX0_lacking 6 (some .int))) B.pre w (List.mem_cons_of_mem _ h)
  have hown : s.vm.findClass RX0 = some m.cls := findClass_of_methodNamed B.named
  have hlocks := B.notSynchronized
  subst hsz
  have hD := hD0.self (sz := s.heap.size)
  generalize hAe : va_A [(a_k, (oc5 a_h a_j a_pt e_ln e_se e_lh e_br e_we e_me e_ce e_wy e_ho e_ov)), (a_h, (oc1 e_wa e_le e_st e_fo e_lc a_l a_g a_b a_s a_p a_w e_gb a_bb)), (a_g, (oc6 6 5 a_gn e_g)), (a_gn, (arI G 30 f_g)), (a_b, (oc6 5 24 a_bn e_b)), (a_bn, (arI G 120 f_b)), (a_p, (oc6 8 5 a_pn e_p)), (a_pn, (arI G 40 f_p)), (a_w, (oc6 6 6 a_wn e_w)), (a_wn, (arI G 36 f_w)), (a_bb, (arJ G 24 f_bb)), (a_j, (oc2 a_as a_sk)), (a_as, (arI G 8 f_as)), (a_sk, (arJ G 50 f_sk)), (a_l, (arW G 6 f_l)), (a_lo, (oc3 e_cl a_hd a_sr a_cd)), (a_sr, (arI G n_sr f_sr)), (a_cd, (arI G n_cd f_cd)), (a_hd, (arI G n_hd f_hd)), (a_pt, (arI G 200 f_pt)), (a_ha, (oc0 a_h a_k e_f1 e_f2 e_f3))] s.heap.size = A at hD hT ⊢
  have hA : ∀ q : Nat, s.heap.size ≤ q → A q := fun q h => by rw [← hAe]; exact Or.inr h
  have hS : va_S A s.heap s.heap [] := va_S.rf
  replace hP : va_P G.1 vwCl [(a_k, (oc5 a_h a_j a_pt e_ln e_se e_lh e_br e_we e_me e_ce e_wy e_ho e_ov)), (a_h, (oc1 e_wa e_le e_st e_fo e_lc a_l a_g a_b a_s a_p a_w e_gb a_bb)), (a_g, (oc6 6 5 a_gn e_g)), (a_gn, (arI G 30 f_g)), (a_b, (oc6 5 24 a_bn e_b)), (a_bn, (arI G 120 f_b)), (a_p, (oc6 8 5 a_pn e_p)), (a_pn, (arI G 40 f_p)), (a_w, (oc6 6 6 a_wn e_w)), (a_wn, (arI G 36 f_w)), (a_bb, (arJ G 24 f_bb)), (a_j, (oc2 a_as a_sk)), (a_as, (arI G 8 f_as)), (a_sk, (arJ G 50 f_sk)), (a_l, (arW G 6 f_l)), (a_lo, (oc3 e_cl a_hd a_sr a_cd)), (a_sr, (arI G n_sr f_sr)), (a_cd, (arI G n_cd f_cd)), (a_hd, (arI G n_hd f_hd)), (a_pt, (arI G 200 f_pt)), (a_ha, (oc0 a_h a_k e_f1 e_f2 e_f3))] s.heap := hP
  have hl := lv_entry ([.ref a_ha, .int p_u]) (n := 6) (Nat.le_of_ble_eq_true rfl)
  rw [lg_entry_eq]
  generalize (lg_sl ([.ref a_ha, .int p_u]) ++ List.replicate (6 - (lg_sl ([.ref a_ha, .int p_u])).length) Slot.unset).toArray = ls at hl ⊢
  replace hl : lv_has ls 6 [(0, .ref a_ha), (1, .int p_u)] := hl
  refine lv_iconst (v := 0) hx hb dX0_lacking_0 (by decide +kernel) ?_
  refine lv_istore_n (lv' := [(2, .int 0), (0, .ref a_ha), (1, .int p_u)]) hx hb dX0_lacking_1 rfl hl (by decide +kernel) rfl ?_
  clear hl
  intro ls hl
  refine lv_aload_n hx hb dX0_lacking_2 rfl (lv_at hl 1 rfl) ?_
  refine va_get (D := G.1) (ci := 0) (v := .ref a_h) (C := RX0) (T := TX0) (N := 5) hx hb hts inG_X0 hown hK hP 20 rfl rfl 0 (by decide +kernel) (hts _ fl_X0_9) (fun _ h9 => h9) rfl dX0_lacking_3 ?_
  refine W.eq (g2 := F0 m 6 ls [.ref a_h]) rfl ?_
  refine va_get (D := G.1) (ci := 1) (v := .ref a_w) (C := RX1) (T := TX1) (N := 13) hx hb hts inG_X1 hown hK hP 1 rfl rfl 10 (by decide +kernel) (hts _ fl_X0_19) (fun _ h9 => h9) rfl dX0_lacking_6 ?_
  refine lv_astore_n (lv' := [(3, .ref a_w), (2, .int 0), (0, .ref a_ha), (1, .int p_u)]) hx hb dX0_lacking_9 rfl hl (by decide +kernel) rfl ?_
  clear hl
  intro ls hl
  refine lv_iconst (v := 0) hx hb dX0_lacking_10 (by decide +kernel) ?_
  refine lv_istore (lv' := [(4, .int 0), (3, .ref a_w), (2, .int 0), (0, .ref a_ha), (1, .int p_u)]) hx hb dX0_lacking_11 hl (by decide +kernel) rfl ?_
  clear hl
  intro ls hl
  refine g5_loop (α := (Int32) × (Int32) × (Int32) × (Int32) × (Int32) × (Int32) × (Int32) × (Int32) × (Int32) × (Int32) × (Int32) × (Nat → Int32) × (Nat → Int32) × (Nat → Int64) × (Int32)) (fun (q : (Int32) × (Int32) × (Int32) × (Int32) × (Int32) × (Int32) × (Int32) × (Int32) × (Int32) × (Int32) × (Int32) × (Nat → Int32) × (Nat → Int32) × (Nat → Int64) × (Int32)) (ls : Array Slot) (H : Heap) (locs : List Loc) => match q with | (k_i, k_b, k_se, k_lh, k_br, k_we, k_me, k_ce, k_wy, k_ho, k_ov, k_pt, k_as, k_sk, k_ln) => lv_has ls 6 [(2, .int k_b), (4, .int k_i), (3, .ref a_w), (0, .ref a_ha), (1, .int p_u)] ∧ va_P G.1 vwCl [(a_k, (oc5 a_h a_j a_pt k_ln k_se k_lh k_br k_we k_me k_ce k_wy k_ho k_ov)), (a_h, (oc1 e_wa e_le e_st e_fo e_lc a_l a_g a_b a_s a_p a_w e_gb a_bb)), (a_g, (oc6 6 5 a_gn e_g)), (a_gn, (arI G 30 f_g)), (a_b, (oc6 5 24 a_bn e_b)), (a_bn, (arI G 120 f_b)), (a_p, (oc6 8 5 a_pn e_p)), (a_pn, (arI G 40 f_p)), (a_w, (oc6 6 6 a_wn e_w)), (a_wn, (arI G 36 f_w)), (a_bb, (arJ G 24 f_bb)), (a_j, (oc2 a_as a_sk)), (a_as, (arI G 8 k_as)), (a_sk, (arJ G 50 k_sk)), (a_l, (arW G 6 f_l)), (a_lo, (oc3 e_cl a_hd a_sr a_cd)), (a_sr, (arI G n_sr f_sr)), (a_cd, (arI G n_cd f_cd)), (a_hd, (arI G n_hd f_hd)), (a_pt, (arI G 200 k_pt)), (a_ha, (oc0 a_h a_k e_f1 e_f2 e_f3))] H ∧ va_D A [(a_k, (oc5 a_h a_j a_pt k_ln k_se k_lh k_br k_we k_me k_ce k_wy k_ho k_ov)), (a_h, (oc1 e_wa e_le e_st e_fo e_lc a_l a_g a_b a_s a_p a_w e_gb a_bb)), (a_g, (oc6 6 5 a_gn e_g)), (a_gn, (arI G 30 f_g)), (a_b, (oc6 5 24 a_bn e_b)), (a_bn, (arI G 120 f_b)), (a_p, (oc6 8 5 a_pn e_p)), (a_pn, (arI G 40 f_p)), (a_w, (oc6 6 6 a_wn e_w)), (a_wn, (arI G 36 f_w)), (a_bb, (arJ G 24 f_bb)), (a_j, (oc2 a_as a_sk)), (a_as, (arI G 8 k_as)), (a_sk, (arJ G 50 k_sk)), (a_l, (arW G 6 f_l)), (a_lo, (oc3 e_cl a_hd a_sr a_cd)), (a_sr, (arI G n_sr f_sr)), (a_cd, (arI G n_cd f_cd)), (a_hd, (arI G n_hd f_hd)), (a_pt, (arI G 200 k_pt)), (a_ha, (oc0 a_h a_k e_f1 e_f2 e_f3))] ∧ va_S A s.heap H locs ∧ (0 ≤ k_i.toInt ∧ k_i.toInt ≤ 6) ∧ (0 ≤ k_ov.toInt ∧ k_ov.toInt ≤ 1) ∧ (k_i.toInt ≤ e_w.toInt) ∧ (k_b = lackB f_ro g_w p_u k_i.toInt.toNat)) (fun (q : (Int32) × (Int32) × (Int32) × (Int32) × (Int32) × (Int32) × (Int32) × (Int32) × (Int32) × (Int32) × (Int32) × (Nat → Int32) × (Nat → Int32) × (Nat → Int64) × (Int32)) => match q with | (k_i, k_b, k_se, k_lh, k_br, k_we, k_me, k_ce, k_wy, k_ho, k_ov, k_pt, k_as, k_sk, k_ln) => Int.toNat (6 - k_i.toInt)) (0, 0, e_se, e_lh, e_br, e_we, e_me, e_ce, e_wy, e_ho, e_ov, f_pt, f_as, f_sk, e_ln) ⟨lv_sub hl [2, 0, 1, 3, 4] rfl, hP, hD, hS, ⟨by decide, by decide⟩, h_e_ov, by have z0 : (0 : Int32).toInt = 0 := (by decide +kernel); omega, lck_0 (by decide +kernel) rfl⟩ ?_
  rintro ⟨k_i, k_b, k_se, k_lh, k_br, k_we, k_me, k_ce, k_wy, k_ho, k_ov, k_pt, k_as, k_sk, k_ln⟩ ls H locs ⟨hl, hP, hD, hS, (i_1 : 0 ≤ k_i.toInt ∧ k_i.toInt ≤ 6), (i_2 : 0 ≤ k_ov.toInt ∧ k_ov.toInt ≤ 1), (i_3 : k_i.toInt ≤ e_w.toInt), (i_4 : k_b = lackB f_ro g_w p_u k_i.toInt.toNat)⟩ ih_13_5
  replace hl : lv_has ls 6 [(2, .int k_b), (4, .int k_i), (3, .ref a_w), (0, .ref a_ha), (1, .int p_u)] := hl
  refine g5_rs [(a_k, (oc5 a_h a_j a_pt k_ln k_se k_lh k_br k_we k_me k_ce k_wy k_ho k_ov)), (a_h, (oc1 e_wa e_le e_st e_fo e_lc a_l a_g a_b a_s a_p a_w e_gb a_bb)), (a_g, (oc6 6 5 a_gn e_g)), (a_gn, (arI G 30 f_g)), (a_b, (oc6 5 24 a_bn e_b)), (a_bn, (arI G 120 f_b)), (a_p, (oc6 8 5 a_pn e_p)), (a_pn, (arI G 40 f_p)), (a_w, (oc6 6 6 a_wn e_w)), (a_wn, (arI G 36 f_w)), (a_bb, (arJ G 24 f_bb)), (a_j, (oc2 a_as a_sk)), (a_as, (arI G 8 k_as)), (a_sk, (arJ G 50 k_sk)), (a_l, (arW G 6 f_l)), (a_lo, (oc3 e_cl a_hd a_sr a_cd)), (a_sr, (arI G n_sr f_sr)), (a_cd, (arI G n_cd f_cd)), (a_hd, (arI G n_hd f_hd)), (a_pt, (arI G 200 k_pt)), (a_ha, (oc0 a_h a_k e_f1 e_f2 e_f3))] hP hD ?_
  clear hP hD
  intro hP hD
  refine lv_iload hx hb dX0_lacking_13 (lv_at hl 1 rfl) ?_
  refine lv_aload_n hx hb dX0_lacking_15 rfl (lv_at hl 2 rfl) ?_
  refine va_get (D := G.1) (ci := 6) (v := .int e_w) (C := RX6) (T := TX6) (N := 4) hx hb hts inG_X6 hown hK hP 8 rfl rfl 3 (by decide +kernel) (hts _ fl_X0_25) (fun _ h9 => h9) rfl dX0_lacking_16 ?_
  refine lv_icmp_ge (tgt := 112) hx hb dX0_lacking_19 (by decide +kernel) (fun c_6 => ?_) (fun c_6 => ?_)
  ·
    have i_6 : k_i.toInt ≥ e_w.toInt := g5_ge (a := k_i.toInt) (b := e_w.toInt) rfl rfl c_6
    refine lv_iload_n hx hb dX0_lacking_112 rfl (lv_at hl 0 rfl) ?_
    exact W.iret (v := k_b) hx hb hr (fun t ht hW => ⟨⟨k_b, [(a_k, (oc5 a_h a_j a_pt k_ln k_se k_lh k_br k_we k_me k_ce k_wy k_ho k_ov)), (a_h, (oc1 e_wa e_le e_st e_fo e_lc a_l a_g a_b a_s a_p a_w e_gb a_bb)), (a_g, (oc6 6 5 a_gn e_g)), (a_gn, (arI G 30 f_g)), (a_b, (oc6 5 24 a_bn e_b)), (a_bn, (arI G 120 f_b)), (a_p, (oc6 8 5 a_pn e_p)), (a_pn, (arI G 40 f_p)), (a_w, (oc6 6 6 a_wn e_w)), (a_wn, (arI G 36 f_w)), (a_bb, (arJ G 24 f_bb)), (a_j, (oc2 a_as a_sk)), (a_as, (arI G 8 k_as)), (a_sk, (arJ G 50 k_sk)), (a_l, (arW G 6 f_l)), (a_lo, (oc3 e_cl a_hd a_sr a_cd)), (a_sr, (arI G n_sr f_sr)), (a_cd, (arI G n_cd f_cd)), (a_hd, (arI G n_hd f_hd)), (a_pt, (arI G 200 k_pt)), (a_ha, (oc0 a_h a_k e_f1 e_f2 e_f3))], rfl, ⟨k_b, k_ln, k_se, k_lh, k_br, k_we, k_me, k_ce, k_wy, k_ho, k_ov, k_pt, k_as, k_sk, i_2, lck_e i_4 (by rw [e_qw.2.1]; omega), rfl, rfl⟩, by rw [ht]; exact hP.sub [0, 1, 2, 3, 4, 5, 6, 7, 8, 9, 10, 11, 12, 13, 14, 15, 16, 17, 18, 19, 20] rfl, hD.sub [0, 1, 2, 3, 4, 5, 6, 7, 8, 9, 10, 11, 12, 13, 14, 15, 16, 17, 18, 19, 20] (by decide +kernel) rfl⟩, hS.F ht⟩) hS.2.2 dX0_lacking_113
  ·
    have i_6 : k_i.toInt < e_w.toInt := g5_geN (a := k_i.toInt) (b := e_w.toInt) rfl rfl c_6
    refine lv_aload_n hx hb dX0_lacking_22 rfl (lv_at hl 3 rfl) ?_
    refine va_get (D := G.1) (ci := 0) (v := .ref a_k) (C := RX0) (T := TX0) (N := 5) hx hb hts inG_X0 hown hK hP 20 rfl rfl 1 (by decide +kernel) (hts _ fl_X0_15) (fun _ h9 => h9) rfl dX0_lacking_23 ?_
    refine lv_aload_n hx hb dX0_lacking_26 rfl (lv_at hl 2 rfl) ?_
    refine lv_iload hx hb dX0_lacking_27 (lv_at hl 1 rfl) ?_
    refine W.eq (g2 := F0 m 29 ls [.int k_i, .ref a_w, .ref a_k]) rfl ?_
    refine lv_iconst (v := 0) hx hb dX0_lacking_29 (by decide +kernel) ?_
    obtain ⟨hPc, hDc, hFc⟩ := g5_sub3 (wc := [(a_w, (oc6 6 6 a_wn e_w)), (a_wn, (arI G 36 f_w))]) hP hD hS hA [8, 9] (by decide +kernel) rfl
    refine va_calli (va_runV (As := [.int k_i, .int 0]) (rest := [.ref a_k]) ⟨hx, hb, hml, hown, hts⟩ (t_get_W l G a_w a_wn H.size e_w k_i 0 f_w h_e_w) (cwV 2 hts gV_X0_31 rfl rfl rfl hv_X6_get ⟨Nat.le_of_ble_eq_true rfl, Nat.le_of_ble_eq_true rfl⟩) (g5_preV hPc hK hDc hN hT hS hFc (ci := 6) (q0 := 0) rfl rfl) rfl rfl hl.1 rfl (lv_room (Nat.le_of_ble_eq_true rfl)) dX0_lacking_30 ⟨Nat.le_of_ble_eq_true rfl, Nat.le_of_ble_eq_true rfl⟩) hS (fun q _ h => hFc q h) hFc (fun r u t H locs ht hvm hw hB hz1 hk1 hS => ?_)
    obtain ⟨hP1, hD1⟩ := hB
    have hP1 := g5_ht ht hP1
    obtain ⟨z8, (i_7 : z8 = tget f_w e_w.toInt 6 k_i.toInt (0 : Int32).toInt), y9, rfl⟩ := hw
    have hJ9 := va_join (wr := [(a_k, (oc5 a_h a_j a_pt k_ln k_se k_lh k_br k_we k_me k_ce k_wy k_ho k_ov)), (a_h, (oc1 e_wa e_le e_st e_fo e_lc a_l a_g a_b a_s a_p a_w e_gb a_bb)), (a_g, (oc6 6 5 a_gn e_g)), (a_gn, (arI G 30 f_g)), (a_b, (oc6 5 24 a_bn e_b)), (a_bn, (arI G 120 f_b)), (a_p, (oc6 8 5 a_pn e_p)), (a_pn, (arI G 40 f_p)), (a_bb, (arJ G 24 f_bb)), (a_j, (oc2 a_as a_sk)), (a_as, (arI G 8 k_as)), (a_sk, (arJ G 50 k_sk)), (a_l, (arW G 6 f_l)), (a_lo, (oc3 e_cl a_hd a_sr a_cd)), (a_sr, (arI G n_sr f_sr)), (a_cd, (arI G n_cd f_cd)), (a_hd, (arI G n_hd f_hd)), (a_pt, (arI G 200 k_pt)), (a_ha, (oc0 a_h a_k e_f1 e_f2 e_f3))]) hP hD [8, 9] [0, 1, 2, 3, 4, 5, 6, 7, 10, 11, 12, 13, 14, 15, 16, 17, 18, 19, 20] rfl rfl (by decide +kernel) (by decide +kernel) hk1 hFc hP1 hD1
    clear hP hD hPc hDc hFc ht hvm hz1 hk1 hP1 hD1
    obtain ⟨hP, hD⟩ := hJ9
    refine g5_rs [(a_k, (oc5 a_h a_j a_pt k_ln k_se k_lh k_br k_we k_me k_ce k_wy k_ho k_ov)), (a_h, (oc1 e_wa e_le e_st e_fo e_lc a_l a_g a_b a_s a_p a_w e_gb a_bb)), (a_g, (oc6 6 5 a_gn e_g)), (a_gn, (arI G 30 f_g)), (a_b, (oc6 5 24 a_bn e_b)), (a_bn, (arI G 120 f_b)), (a_p, (oc6 8 5 a_pn e_p)), (a_pn, (arI G 40 f_p)), (a_bb, (arJ G 24 f_bb)), (a_j, (oc2 a_as a_sk)), (a_as, (arI G 8 k_as)), (a_sk, (arJ G 50 k_sk)), (a_l, (arW G 6 f_l)), (a_lo, (oc3 e_cl a_hd a_sr a_cd)), (a_sr, (arI G n_sr f_sr)), (a_cd, (arI G n_cd f_cd)), (a_hd, (arI G n_hd f_hd)), (a_pt, (arI G 200 k_pt)), (a_ha, (oc0 a_h a_k e_f1 e_f2 e_f3)), (a_w, (oc6 6 6 a_wn e_w)), (a_wn, (arI G 36 f_w))] hP hD ?_
    clear hP hD
    intro hP hD
    refine g5_ti (v := z8) y9 ?_
    have hw0_10 := wi_col (m := 0) e_qw ⟨by omega, by omega⟩ i_7 (by decide +kernel) (by omega)
    have hg_10 : 0 ≤ z8.toInt ∧ z8.toInt ≤ 63 := by rw [i_7, show (0 : Int32).toInt = 0 by decide]; exact (e_qw.2.2.2 k_i.toInt (by omega) (by omega)).1
    refine lv_aload_n hx hb dX0_lacking_33 rfl (lv_at hl 2 rfl) ?_
    refine lv_iload hx hb dX0_lacking_34 (lv_at hl 1 rfl) ?_
    refine lv_iconst (v := 1) hx hb dX0_lacking_36 (by decide +kernel) ?_
    refine W.eq (g2 := F0 m 37 ls [.int 1, .int k_i, .ref a_w, .int z8, .ref a_k]) rfl ?_
    obtain ⟨hPc, hDc, hFc⟩ := g5_sub3 (wc := [(a_w, (oc6 6 6 a_wn e_w)), (a_wn, (arI G 36 f_w))]) hP hD hS hA [19, 20] (by decide +kernel) rfl
    refine va_calli (va_runV (As := [.int k_i, .int 1]) (rest := [.int z8, .ref a_k]) ⟨hx, hb, hml, hown, hts⟩ (t_get_W l G a_w a_wn H.size e_w k_i 1 f_w h_e_w) (cwV 2 hts gV_X0_31 rfl rfl rfl hv_X6_get ⟨Nat.le_of_ble_eq_true rfl, Nat.le_of_ble_eq_true rfl⟩) (g5_preV hPc hK hDc hN hT hS hFc (ci := 6) (q0 := 0) rfl rfl) rfl rfl hl.1 rfl (lv_room (Nat.le_of_ble_eq_true rfl)) dX0_lacking_37 ⟨Nat.le_of_ble_eq_true rfl, Nat.le_of_ble_eq_true rfl⟩) hS (fun q _ h => hFc q h) hFc (fun r u t H locs ht hvm hw hB hz1 hk1 hS => ?_)
    obtain ⟨hP1, hD1⟩ := hB
    have hP1 := g5_ht ht hP1
    obtain ⟨z12, (i_11 : z12 = tget f_w e_w.toInt 6 k_i.toInt (1 : Int32).toInt), y13, rfl⟩ := hw
    have hJ9 := va_join (wr := [(a_k, (oc5 a_h a_j a_pt k_ln k_se k_lh k_br k_we k_me k_ce k_wy k_ho k_ov)), (a_h, (oc1 e_wa e_le e_st e_fo e_lc a_l a_g a_b a_s a_p a_w e_gb a_bb)), (a_g, (oc6 6 5 a_gn e_g)), (a_gn, (arI G 30 f_g)), (a_b, (oc6 5 24 a_bn e_b)), (a_bn, (arI G 120 f_b)), (a_p, (oc6 8 5 a_pn e_p)), (a_pn, (arI G 40 f_p)), (a_bb, (arJ G 24 f_bb)), (a_j, (oc2 a_as a_sk)), (a_as, (arI G 8 k_as)), (a_sk, (arJ G 50 k_sk)), (a_l, (arW G 6 f_l)), (a_lo, (oc3 e_cl a_hd a_sr a_cd)), (a_sr, (arI G n_sr f_sr)), (a_cd, (arI G n_cd f_cd)), (a_hd, (arI G n_hd f_hd)), (a_pt, (arI G 200 k_pt)), (a_ha, (oc0 a_h a_k e_f1 e_f2 e_f3))]) hP hD [19, 20] [0, 1, 2, 3, 4, 5, 6, 7, 8, 9, 10, 11, 12, 13, 14, 15, 16, 17, 18] rfl rfl (by decide +kernel) (by decide +kernel) hk1 hFc hP1 hD1
    clear hP hD hPc hDc hFc ht hvm hz1 hk1 hP1 hD1
    obtain ⟨hP, hD⟩ := hJ9
    refine g5_rs [(a_k, (oc5 a_h a_j a_pt k_ln k_se k_lh k_br k_we k_me k_ce k_wy k_ho k_ov)), (a_h, (oc1 e_wa e_le e_st e_fo e_lc a_l a_g a_b a_s a_p a_w e_gb a_bb)), (a_g, (oc6 6 5 a_gn e_g)), (a_gn, (arI G 30 f_g)), (a_b, (oc6 5 24 a_bn e_b)), (a_bn, (arI G 120 f_b)), (a_p, (oc6 8 5 a_pn e_p)), (a_pn, (arI G 40 f_p)), (a_bb, (arJ G 24 f_bb)), (a_j, (oc2 a_as a_sk)), (a_as, (arI G 8 k_as)), (a_sk, (arJ G 50 k_sk)), (a_l, (arW G 6 f_l)), (a_lo, (oc3 e_cl a_hd a_sr a_cd)), (a_sr, (arI G n_sr f_sr)), (a_cd, (arI G n_cd f_cd)), (a_hd, (arI G n_hd f_hd)), (a_pt, (arI G 200 k_pt)), (a_ha, (oc0 a_h a_k e_f1 e_f2 e_f3)), (a_w, (oc6 6 6 a_wn e_w)), (a_wn, (arI G 36 f_w))] hP hD ?_
    clear hP hD
    intro hP hD
    refine g5_ti (v := z12) y13 ?_
    have hw1_14 := wi_col (m := 1) e_qw ⟨by omega, by omega⟩ i_11 (by decide +kernel) (by omega)
    have hg_14 : 0 ≤ z12.toInt ∧ z12.toInt ≤ 3 := by rw [i_11, show (1 : Int32).toInt = 1 by decide]; exact (e_qw.2.2.2 k_i.toInt (by omega) (by omega)).2.1
    refine lv_aload_n hx hb dX0_lacking_40 rfl (lv_at hl 2 rfl) ?_
    refine lv_iload hx hb dX0_lacking_41 (lv_at hl 1 rfl) ?_
    refine lv_iconst (v := 2) hx hb dX0_lacking_43 (by decide +kernel) ?_
    obtain ⟨hPc, hDc, hFc⟩ := g5_sub3 (wc := [(a_w, (oc6 6 6 a_wn e_w)), (a_wn, (arI G 36 f_w))]) hP hD hS hA [19, 20] (by decide +kernel) rfl
    refine va_calli (va_runV (As := [.int k_i, .int 2]) (rest := [.int z12, .int z8, .ref a_k]) ⟨hx, hb, hml, hown, hts⟩ (t_get_W l G a_w a_wn H.size e_w k_i 2 f_w h_e_w) (cwV 2 hts gV_X0_31 rfl rfl rfl hv_X6_get ⟨Nat.le_of_ble_eq_true rfl, Nat.le_of_ble_eq_true rfl⟩) (g5_preV hPc hK hDc hN hT hS hFc (ci := 6) (q0 := 0) rfl rfl) rfl rfl hl.1 rfl (lv_room (Nat.le_of_ble_eq_true rfl)) dX0_lacking_44 ⟨Nat.le_of_ble_eq_true rfl, Nat.le_of_ble_eq_true rfl⟩) hS (fun q _ h => hFc q h) hFc (fun r u t H locs ht hvm hw hB hz1 hk1 hS => ?_)
    obtain ⟨hP1, hD1⟩ := hB
    have hP1 := g5_ht ht hP1
    obtain ⟨z16, (i_15 : z16 = tget f_w e_w.toInt 6 k_i.toInt (2 : Int32).toInt), y17, rfl⟩ := hw
    have hJ9 := va_join (wr := [(a_k, (oc5 a_h a_j a_pt k_ln k_se k_lh k_br k_we k_me k_ce k_wy k_ho k_ov)), (a_h, (oc1 e_wa e_le e_st e_fo e_lc a_l a_g a_b a_s a_p a_w e_gb a_bb)), (a_g, (oc6 6 5 a_gn e_g)), (a_gn, (arI G 30 f_g)), (a_b, (oc6 5 24 a_bn e_b)), (a_bn, (arI G 120 f_b)), (a_p, (oc6 8 5 a_pn e_p)), (a_pn, (arI G 40 f_p)), (a_bb, (arJ G 24 f_bb)), (a_j, (oc2 a_as a_sk)), (a_as, (arI G 8 k_as)), (a_sk, (arJ G 50 k_sk)), (a_l, (arW G 6 f_l)), (a_lo, (oc3 e_cl a_hd a_sr a_cd)), (a_sr, (arI G n_sr f_sr)), (a_cd, (arI G n_cd f_cd)), (a_hd, (arI G n_hd f_hd)), (a_pt, (arI G 200 k_pt)), (a_ha, (oc0 a_h a_k e_f1 e_f2 e_f3))]) hP hD [19, 20] [0, 1, 2, 3, 4, 5, 6, 7, 8, 9, 10, 11, 12, 13, 14, 15, 16, 17, 18] rfl rfl (by decide +kernel) (by decide +kernel) hk1 hFc hP1 hD1
    clear hP hD hPc hDc hFc ht hvm hz1 hk1 hP1 hD1
    obtain ⟨hP, hD⟩ := hJ9
    refine g5_rs [(a_k, (oc5 a_h a_j a_pt k_ln k_se k_lh k_br k_we k_me k_ce k_wy k_ho k_ov)), (a_h, (oc1 e_wa e_le e_st e_fo e_lc a_l a_g a_b a_s a_p a_w e_gb a_bb)), (a_g, (oc6 6 5 a_gn e_g)), (a_gn, (arI G 30 f_g)), (a_b, (oc6 5 24 a_bn e_b)), (a_bn, (arI G 120 f_b)), (a_p, (oc6 8 5 a_pn e_p)), (a_pn, (arI G 40 f_p)), (a_bb, (arJ G 24 f_bb)), (a_j, (oc2 a_as a_sk)), (a_as, (arI G 8 k_as)), (a_sk, (arJ G 50 k_sk)), (a_l, (arW G 6 f_l)), (a_lo, (oc3 e_cl a_hd a_sr a_cd)), (a_sr, (arI G n_sr f_sr)), (a_cd, (arI G n_cd f_cd)), (a_hd, (arI G n_hd f_hd)), (a_pt, (arI G 200 k_pt)), (a_ha, (oc0 a_h a_k e_f1 e_f2 e_f3)), (a_w, (oc6 6 6 a_wn e_w)), (a_wn, (arI G 36 f_w))] hP hD ?_
    clear hP hD
    intro hP hD
    refine g5_ti (v := z16) y17 ?_
    have hw2_18 := wi_col (m := 2) e_qw ⟨by omega, by omega⟩ i_15 (by decide +kernel) (by omega)
    have hg_18 : 0 ≤ z16.toInt ∧ z16.toInt ≤ 23 := by rw [i_15, show (2 : Int32).toInt = 2 by decide]; exact (e_qw.2.2.2 k_i.toInt (by omega) (by omega)).2.2.1
    refine W.eq (g2 := F0 m 47 ls [.int z16, .int z12, .int z8, .ref a_k]) rfl ?_
    refine lv_iload_n hx hb dX0_lacking_47 rfl (lv_at hl 4 rfl) ?_
    obtain ⟨hPc, hDc, hFc⟩ := g5_sub3 (wc := [(a_k, (oc5 a_h a_j a_pt k_ln k_se k_lh k_br k_we k_me k_ce k_wy k_ho k_ov)), (a_h, (oc1 e_wa e_le e_st e_fo e_lc a_l a_g a_b a_s a_p a_w e_gb a_bb)), (a_g, (oc6 6 5 a_gn e_g)), (a_gn, (arI G 30 f_g)), (a_b, (oc6 5 24 a_bn e_b)), (a_bn, (arI G 120 f_b)), (a_p, (oc6 8 5 a_pn e_p)), (a_pn, (arI G 40 f_p)), (a_bb, (arJ G 24 f_bb)), (a_j, (oc2 a_as a_sk)), (a_as, (arI G 8 k_as)), (a_sk, (arJ G 50 k_sk)), (a_l, (arW G 6 f_l)), (a_lo, (oc3 e_cl a_hd a_sr a_cd)), (a_sr, (arI G n_sr f_sr)), (a_cd, (arI G n_cd f_cd)), (a_hd, (arI G n_hd f_hd)), (a_pt, (arI G 200 k_pt))]) hP hD hS hA [0, 1, 2, 3, 4, 5, 6, 7, 8, 9, 10, 11, 12, 13, 14, 15, 16, 17] (by decide +kernel) rfl
    refine va_callv (va_runV (As := [.int z8, .int z12, .int z16, .int p_u]) (rest := []) ⟨hx, hb, hml, hown, hts⟩ (k_runHL l G a_k a_h a_g a_gn a_b a_bn a_p a_pn a_bb a_j a_as a_sk a_l a_lo a_sr a_cd a_hd a_pt a_s a_w H.size e_le e_st e_fo e_lc e_g e_b e_p e_cl k_ln k_se k_lh k_br k_we k_me k_ce k_wy k_ho k_ov z8 z12 z16 p_u e_wa e_gb f_g f_b f_p f_bb k_as k_sk f_l f_sr f_cd f_hd k_pt f_ro g_w g_L n_sr n_cd n_hd h_e_g h_e_b h_e_p h_e_cl i_2 (e_gk) (e_pk) (e_qh) (e_qg) (e_qb) (e_qp) (by omega) (e_f) (e_a) (e_hn) (e_hs) (e_hk) (e_c) (e_gw) (e_lw) (e_lv)) (cwV 4 hts gV_X0_35 rfl rfl rfl hv_X5_run ⟨Nat.le_of_ble_eq_true rfl, Nat.le_of_ble_eq_true rfl⟩) (g5_preV hPc hK hDc hN hT hS hFc (ci := 5) (q0 := 0) rfl rfl) rfl rfl hl.1 rfl (lv_room (Nat.le_of_ble_eq_true rfl)) dX0_lacking_48 ⟨Nat.le_of_ble_eq_true rfl, Nat.le_of_ble_eq_true rfl⟩) hS (fun q _ h => hFc q h) hFc (fun u t H locs ht hvm hw hB hz1 hk1 hS => ?_)
    obtain ⟨hP1, hD1⟩ := hB
    have hP1 := g5_ht ht hP1
    obtain ⟨z23, z24, z25, z26, z27, z28, z29, z30, z31, z32, z33, z34, z35, (i_19 : 0 ≤ z23.toInt ∧ z23.toInt ≤ 200), (i_20 : 0 ≤ z32.toInt ∧ z32.toInt ≤ 1), (i_21 : ∀ j : Nat, (j : Int) < z23.toInt → 0 ≤ (z33 j).toInt ∧ (z33 j).toInt ≤ 1535), (i_22 : LKR f_ro g_w p_u z8 z12 z16 z24 z23 z26 z27 z33), rfl⟩ := hw
    have hJ9 := va_join (wr := [(a_ha, (oc0 a_h a_k e_f1 e_f2 e_f3)), (a_w, (oc6 6 6 a_wn e_w)), (a_wn, (arI G 36 f_w))]) hP hD [0, 1, 2, 3, 4, 5, 6, 7, 8, 9, 10, 11, 12, 13, 14, 15, 16, 17] [18, 19, 20] rfl rfl (by decide +kernel) (by decide +kernel) hk1 hFc hP1 hD1
    clear hP hD hPc hDc hFc ht hvm hz1 hk1 hP1 hD1
    obtain ⟨hP, hD⟩ := hJ9
    refine g5_rs [(a_ha, (oc0 a_h a_k e_f1 e_f2 e_f3)), (a_w, (oc6 6 6 a_wn e_w)), (a_wn, (arI G 36 f_w)), (a_k, (oc5 a_h a_j a_pt z23 z24 z25 z26 z27 z28 z29 z30 z31 z32)), (a_h, (oc1 e_wa e_le e_st e_fo e_lc a_l a_g a_b a_s a_p a_w e_gb a_bb)), (a_g, (oc6 6 5 a_gn e_g)), (a_gn, (arI G 30 f_g)), (a_b, (oc6 5 24 a_bn e_b)), (a_bn, (arI G 120 f_b)), (a_p, (oc6 8 5 a_pn e_p)), (a_pn, (arI G 40 f_p)), (a_bb, (arJ G 24 f_bb)), (a_j, (oc2 a_as a_sk)), (a_as, (arI G 8 z34)), (a_sk, (arJ G 50 z35)), (a_l, (arW G 6 f_l)), (a_lo, (oc3 e_cl a_hd a_sr a_cd)), (a_sr, (arI G n_sr f_sr)), (a_cd, (arI G n_cd f_cd)), (a_hd, (arI G n_hd f_hd)), (a_pt, (arI G 200 z33))] hP hD ?_
    clear hP hD
    intro hP hD
    refine lv_aload_n hx hb dX0_lacking_51 rfl (lv_at hl 3 rfl) ?_
    refine va_get (D := G.1) (ci := 0) (v := .ref a_k) (C := RX0) (T := TX0) (N := 5) hx hb hts inG_X0 hown hK hP 0 rfl rfl 1 (by decide +kernel) (hts _ fl_X0_15) (fun _ h9 => h9) rfl dX0_lacking_52 ?_
    refine lv_aload_n hx hb dX0_lacking_55 rfl (lv_at hl 2 rfl) ?_
    refine W.eq (g2 := F0 m 56 ls [.ref a_w, .ref a_k]) rfl ?_
    refine lv_iload hx hb dX0_lacking_56 (lv_at hl 1 rfl) ?_
    refine lv_iconst (v := 4) hx hb dX0_lacking_58 (by decide +kernel) ?_
    obtain ⟨hPc, hDc, hFc⟩ := g5_sub3 (wc := [(a_w, (oc6 6 6 a_wn e_w)), (a_wn, (arI G 36 f_w))]) hP hD hS hA [1, 2] (by decide +kernel) rfl
    refine va_calli (va_runV (As := [.int k_i, .int 4]) (rest := [.ref a_k]) ⟨hx, hb, hml, hown, hts⟩ (t_get_W l G a_w a_wn H.size e_w k_i 4 f_w h_e_w) (cwV 2 hts gV_X0_31 rfl rfl rfl hv_X6_get ⟨Nat.le_of_ble_eq_true rfl, Nat.le_of_ble_eq_true rfl⟩) (g5_preV hPc hK hDc hN hT hS hFc (ci := 6) (q0 := 0) rfl rfl) rfl rfl hl.1 rfl (lv_room (Nat.le_of_ble_eq_true rfl)) dX0_lacking_59 ⟨Nat.le_of_ble_eq_true rfl, Nat.le_of_ble_eq_true rfl⟩) hS (fun q _ h => hFc q h) hFc (fun r u t H locs ht hvm hw hB hz1 hk1 hS => ?_)
    obtain ⟨hP1, hD1⟩ := hB
    have hP1 := g5_ht ht hP1
    obtain ⟨z37, (i_36 : z37 = tget f_w e_w.toInt 6 k_i.toInt (4 : Int32).toInt), y38, rfl⟩ := hw
    have hJ9 := va_join (wr := [(a_ha, (oc0 a_h a_k e_f1 e_f2 e_f3)), (a_k, (oc5 a_h a_j a_pt z23 z24 z25 z26 z27 z28 z29 z30 z31 z32)), (a_h, (oc1 e_wa e_le e_st e_fo e_lc a_l a_g a_b a_s a_p a_w e_gb a_bb)), (a_g, (oc6 6 5 a_gn e_g)), (a_gn, (arI G 30 f_g)), (a_b, (oc6 5 24 a_bn e_b)), (a_bn, (arI G 120 f_b)), (a_p, (oc6 8 5 a_pn e_p)), (a_pn, (arI G 40 f_p)), (a_bb, (arJ G 24 f_bb)), (a_j, (oc2 a_as a_sk)), (a_as, (arI G 8 z34)), (a_sk, (arJ G 50 z35)), (a_l, (arW G 6 f_l)), (a_lo, (oc3 e_cl a_hd a_sr a_cd)), (a_sr, (arI G n_sr f_sr)), (a_cd, (arI G n_cd f_cd)), (a_hd, (arI G n_hd f_hd)), (a_pt, (arI G 200 z33))]) hP hD [1, 2] [0, 3, 4, 5, 6, 7, 8, 9, 10, 11, 12, 13, 14, 15, 16, 17, 18, 19, 20] rfl rfl (by decide +kernel) (by decide +kernel) hk1 hFc hP1 hD1
    clear hP hD hPc hDc hFc ht hvm hz1 hk1 hP1 hD1
    obtain ⟨hP, hD⟩ := hJ9
    refine g5_rs [(a_ha, (oc0 a_h a_k e_f1 e_f2 e_f3)), (a_k, (oc5 a_h a_j a_pt z23 z24 z25 z26 z27 z28 z29 z30 z31 z32)), (a_h, (oc1 e_wa e_le e_st e_fo e_lc a_l a_g a_b a_s a_p a_w e_gb a_bb)), (a_g, (oc6 6 5 a_gn e_g)), (a_gn, (arI G 30 f_g)), (a_b, (oc6 5 24 a_bn e_b)), (a_bn, (arI G 120 f_b)), (a_p, (oc6 8 5 a_pn e_p)), (a_pn, (arI G 40 f_p)), (a_bb, (arJ G 24 f_bb)), (a_j, (oc2 a_as a_sk)), (a_as, (arI G 8 z34)), (a_sk, (arJ G 50 z35)), (a_l, (arW G 6 f_l)), (a_lo, (oc3 e_cl a_hd a_sr a_cd)), (a_sr, (arI G n_sr f_sr)), (a_cd, (arI G n_cd f_cd)), (a_hd, (arI G n_hd f_hd)), (a_pt, (arI G 200 z33)), (a_w, (oc6 6 6 a_wn e_w)), (a_wn, (arI G 36 f_w))] hP hD ?_
    clear hP hD
    intro hP hD
    refine g5_ti (v := z37) y38 ?_
    have hw4_39 := wi_col (m := 4) e_qw ⟨by omega, by omega⟩ i_36 (by decide +kernel) (by omega)
    have hg_39 : 0 ≤ z37.toInt ∧ z37.toInt ≤ 23 := by rw [i_36, show (4 : Int32).toInt = 4 by decide]; exact (e_qw.2.2.2 k_i.toInt (by omega) (by omega)).2.2.2.2.1
    refine lv_bipush (v := 64) hx hb dX0_lacking_62 (by decide +kernel) ?_
    refine lv_imul hx hb dX0_lacking_64 ?_
    have t_40 : (z37 * 64).toInt = z37.toInt * 64 := g5_imul (a := z37.toInt) (b := 64) (by rfl) (by decide +kernel) (by omega) (by omega)
    refine W.eq (g2 := F0 m 65 ls [.int (z37 * 64), .ref a_k]) rfl ?_
    refine lv_aload_n hx hb dX0_lacking_65 rfl (lv_at hl 2 rfl) ?_
    refine lv_iload hx hb dX0_lacking_66 (lv_at hl 1 rfl) ?_
    refine lv_iconst (v := 3) hx hb dX0_lacking_68 (by decide +kernel) ?_
    obtain ⟨hPc, hDc, hFc⟩ := g5_sub3 (wc := [(a_w, (oc6 6 6 a_wn e_w)), (a_wn, (arI G 36 f_w))]) hP hD hS hA [19, 20] (by decide +kernel) rfl
    refine va_calli (va_runV (As := [.int k_i, .int 3]) (rest := [.int (z37 * 64), .ref a_k]) ⟨hx, hb, hml, hown, hts⟩ (t_get_W l G a_w a_wn H.size e_w k_i 3 f_w h_e_w) (cwV 2 hts gV_X0_31 rfl rfl rfl hv_X6_get ⟨Nat.le_of_ble_eq_true rfl, Nat.le_of_ble_eq_true rfl⟩) (g5_preV hPc hK hDc hN hT hS hFc (ci := 6) (q0 := 0) rfl rfl) rfl rfl hl.1 rfl (lv_room (Nat.le_of_ble_eq_true rfl)) dX0_lacking_69 ⟨Nat.le_of_ble_eq_true rfl, Nat.le_of_ble_eq_true rfl⟩) hS (fun q _ h => hFc q h) hFc (fun r u t H locs ht hvm hw hB hz1 hk1 hS => ?_)
    obtain ⟨hP1, hD1⟩ := hB
    have hP1 := g5_ht ht hP1
    obtain ⟨z42, (i_41 : z42 = tget f_w e_w.toInt 6 k_i.toInt (3 : Int32).toInt), y43, rfl⟩ := hw
    have hJ9 := va_join (wr := [(a_ha, (oc0 a_h a_k e_f1 e_f2 e_f3)), (a_k, (oc5 a_h a_j a_pt z23 z24 z25 z26 z27 z28 z29 z30 z31 z32)), (a_h, (oc1 e_wa e_le e_st e_fo e_lc a_l a_g a_b a_s a_p a_w e_gb a_bb)), (a_g, (oc6 6 5 a_gn e_g)), (a_gn, (arI G 30 f_g)), (a_b, (oc6 5 24 a_bn e_b)), (a_bn, (arI G 120 f_b)), (a_p, (oc6 8 5 a_pn e_p)), (a_pn, (arI G 40 f_p)), (a_bb, (arJ G 24 f_bb)), (a_j, (oc2 a_as a_sk)), (a_as, (arI G 8 z34)), (a_sk, (arJ G 50 z35)), (a_l, (arW G 6 f_l)), (a_lo, (oc3 e_cl a_hd a_sr a_cd)), (a_sr, (arI G n_sr f_sr)), (a_cd, (arI G n_cd f_cd)), (a_hd, (arI G n_hd f_hd)), (a_pt, (arI G 200 z33))]) hP hD [19, 20] [0, 1, 2, 3, 4, 5, 6, 7, 8, 9, 10, 11, 12, 13, 14, 15, 16, 17, 18] rfl rfl (by decide +kernel) (by decide +kernel) hk1 hFc hP1 hD1
    clear hP hD hPc hDc hFc ht hvm hz1 hk1 hP1 hD1
    obtain ⟨hP, hD⟩ := hJ9
    refine g5_rs [(a_ha, (oc0 a_h a_k e_f1 e_f2 e_f3)), (a_k, (oc5 a_h a_j a_pt z23 z24 z25 z26 z27 z28 z29 z30 z31 z32)), (a_h, (oc1 e_wa e_le e_st e_fo e_lc a_l a_g a_b a_s a_p a_w e_gb a_bb)), (a_g, (oc6 6 5 a_gn e_g)), (a_gn, (arI G 30 f_g)), (a_b, (oc6 5 24 a_bn e_b)), (a_bn, (arI G 120 f_b)), (a_p, (oc6 8 5 a_pn e_p)), (a_pn, (arI G 40 f_p)), (a_bb, (arJ G 24 f_bb)), (a_j, (oc2 a_as a_sk)), (a_as, (arI G 8 z34)), (a_sk, (arJ G 50 z35)), (a_l, (arW G 6 f_l)), (a_lo, (oc3 e_cl a_hd a_sr a_cd)), (a_sr, (arI G n_sr f_sr)), (a_cd, (arI G n_cd f_cd)), (a_hd, (arI G n_hd f_hd)), (a_pt, (arI G 200 z33)), (a_w, (oc6 6 6 a_wn e_w)), (a_wn, (arI G 36 f_w))] hP hD ?_
    clear hP hD
    intro hP hD
    refine g5_ti (v := z42) y43 ?_
    have hw3_44 := wi_col (m := 3) e_qw ⟨by omega, by omega⟩ i_41 (by decide +kernel) (by omega)
    have hg_44 : 0 ≤ z42.toInt ∧ z42.toInt ≤ 63 := by rw [i_41, show (3 : Int32).toInt = 3 by decide]; exact (e_qw.2.2.2 k_i.toInt (by omega) (by omega)).2.2.2.1
    refine lv_iadd hx hb dX0_lacking_72 ?_
    have t_45 : ((z37 * 64) + z42).toInt = (z37 * 64).toInt + z42.toInt := g5_iadd (a := (z37 * 64).toInt) (b := z42.toInt) (by rfl) (by rfl) (by omega) (by omega)
    refine W.eq (g2 := F0 m 73 ls [.int ((z37 * 64) + z42), .ref a_k]) rfl ?_
    obtain ⟨hPc, hDc, hFc⟩ := g5_sub3 (wc := [(a_k, (oc5 a_h a_j a_pt z23 z24 z25 z26 z27 z28 z29 z30 z31 z32)), (a_pt, (arI G 200 z33))]) hP hD hS hA [1, 18] (by decide +kernel) rfl
    refine va_calli (va_runV (As := [.int ((z37 * 64) + z42)]) (rest := []) ⟨hx, hb, hml, hown, hts⟩ (s_hasPointX l G a_k a_pt a_h a_j H.size z23 z24 z25 z26 z27 z28 z29 z30 z31 z32 ((z37 * 64) + z42) z33 i_19 i_20) (cwV 1 hts gV_X0_41 rfl rfl rfl hv_X5_hasPoint ⟨Nat.le_of_ble_eq_true rfl, Nat.le_of_ble_eq_true rfl⟩) (g5_preV hPc hK hDc hN hT hS hFc (ci := 5) (q0 := 0) rfl rfl) rfl rfl hl.1 rfl (lv_room (Nat.le_of_ble_eq_true rfl)) dX0_lacking_73 ⟨Nat.le_of_ble_eq_true rfl, Nat.le_of_ble_eq_true rfl⟩) hS (fun q _ h => hFc q h) hFc (fun r u t H locs ht hvm hw hB hz1 hk1 hS => ?_)
    obtain ⟨hP1, hD1⟩ := hB
    have hP1 := g5_ht ht hP1
    rcases hw with ⟨(i_46 : ptsE z33 z23 ((z37 * 64) + z42)), rfl, rfl⟩ | ⟨(i_47 : ¬ ptsE z33 z23 ((z37 * 64) + z42)), rfl, rfl⟩
    ·
      have hJ9 := va_join (wr := [(a_ha, (oc0 a_h a_k e_f1 e_f2 e_f3)), (a_h, (oc1 e_wa e_le e_st e_fo e_lc a_l a_g a_b a_s a_p a_w e_gb a_bb)), (a_g, (oc6 6 5 a_gn e_g)), (a_gn, (arI G 30 f_g)), (a_b, (oc6 5 24 a_bn e_b)), (a_bn, (arI G 120 f_b)), (a_p, (oc6 8 5 a_pn e_p)), (a_pn, (arI G 40 f_p)), (a_bb, (arJ G 24 f_bb)), (a_j, (oc2 a_as a_sk)), (a_as, (arI G 8 z34)), (a_sk, (arJ G 50 z35)), (a_l, (arW G 6 f_l)), (a_lo, (oc3 e_cl a_hd a_sr a_cd)), (a_sr, (arI G n_sr f_sr)), (a_cd, (arI G n_cd f_cd)), (a_hd, (arI G n_hd f_hd)), (a_w, (oc6 6 6 a_wn e_w)), (a_wn, (arI G 36 f_w))]) hP hD [1, 18] [0, 2, 3, 4, 5, 6, 7, 8, 9, 10, 11, 12, 13, 14, 15, 16, 17, 19, 20] rfl rfl (by decide +kernel) (by decide +kernel) hk1 hFc hP1 hD1
      clear hP hD hPc hDc hFc ht hvm hz1 hk1 hP1 hD1
      obtain ⟨hP, hD⟩ := hJ9
      refine g5_rs [(a_ha, (oc0 a_h a_k e_f1 e_f2 e_f3)), (a_h, (oc1 e_wa e_le e_st e_fo e_lc a_l a_g a_b a_s a_p a_w e_gb a_bb)), (a_g, (oc6 6 5 a_gn e_g)), (a_gn, (arI G 30 f_g)), (a_b, (oc6 5 24 a_bn e_b)), (a_bn, (arI G 120 f_b)), (a_p, (oc6 8 5 a_pn e_p)), (a_pn, (arI G 40 f_p)), (a_bb, (arJ G 24 f_bb)), (a_j, (oc2 a_as a_sk)), (a_as, (arI G 8 z34)), (a_sk, (arJ G 50 z35)), (a_l, (arW G 6 f_l)), (a_lo, (oc3 e_cl a_hd a_sr a_cd)), (a_sr, (arI G n_sr f_sr)), (a_cd, (arI G n_cd f_cd)), (a_hd, (arI G n_hd f_hd)), (a_w, (oc6 6 6 a_wn e_w)), (a_wn, (arI G 36 f_w)), (a_k, (oc5 a_h a_j a_pt z23 z24 z25 z26 z27 z28 z29 z30 z31 z32)), (a_pt, (arI G 200 z33))] hP hD ?_
      clear hP hD
      intro hP hD
      refine lv_istore (lv' := [(5, .int 1), (2, .int k_b), (4, .int k_i), (3, .ref a_w), (0, .ref a_ha), (1, .int p_u)]) hx hb dX0_lacking_76 hl (by decide +kernel) rfl ?_
      clear hl
      intro ls hl
      refine lv_iload hx hb dX0_lacking_78 (lv_at hl 0 rfl) ?_
      refine lv_aload_n hx hb dX0_lacking_80 rfl (lv_at hl 3 rfl) ?_
      refine lv_iload hx hb dX0_lacking_81 (lv_at hl 2 rfl) ?_
      refine W.eq (g2 := F0 m 83 ls [.int k_i, .ref a_w, .int 1]) rfl ?_
      refine lv_iconst (v := 5) hx hb dX0_lacking_83 (by decide +kernel) ?_
      obtain ⟨hPc, hDc, hFc⟩ := g5_sub3 (wc := [(a_w, (oc6 6 6 a_wn e_w)), (a_wn, (arI G 36 f_w))]) hP hD hS hA [17, 18] (by decide +kernel) rfl
      refine va_calli (va_runV (As := [.int k_i, .int 5]) (rest := [.int 1]) ⟨hx, hb, hml, hown, hts⟩ (t_get_W l G a_w a_wn H.size e_w k_i 5 f_w h_e_w) (cwV 2 hts gV_X0_31 rfl rfl rfl hv_X6_get ⟨Nat.le_of_ble_eq_true rfl, Nat.le_of_ble_eq_true rfl⟩) (g5_preV hPc hK hDc hN hT hS hFc (ci := 6) (q0 := 0) rfl rfl) rfl rfl hl.1 rfl (lv_room (Nat.le_of_ble_eq_true rfl)) dX0_lacking_84 ⟨Nat.le_of_ble_eq_true rfl, Nat.le_of_ble_eq_true rfl⟩) hS (fun q _ h => hFc q h) hFc (fun r u t H locs ht hvm hw hB hz1 hk1 hS => ?_)
      obtain ⟨hP1, hD1⟩ := hB
      have hP1 := g5_ht ht hP1
      obtain ⟨z49, (i_48 : z49 = tget f_w e_w.toInt 6 k_i.toInt (5 : Int32).toInt), y50, rfl⟩ := hw
      have hJ9 := va_join (wr := [(a_ha, (oc0 a_h a_k e_f1 e_f2 e_f3)), (a_h, (oc1 e_wa e_le e_st e_fo e_lc a_l a_g a_b a_s a_p a_w e_gb a_bb)), (a_g, (oc6 6 5 a_gn e_g)), (a_gn, (arI G 30 f_g)), (a_b, (oc6 5 24 a_bn e_b)), (a_bn, (arI G 120 f_b)), (a_p, (oc6 8 5 a_pn e_p)), (a_pn, (arI G 40 f_p)), (a_bb, (arJ G 24 f_bb)), (a_j, (oc2 a_as a_sk)), (a_as, (arI G 8 z34)), (a_sk, (arJ G 50 z35)), (a_l, (arW G 6 f_l)), (a_lo, (oc3 e_cl a_hd a_sr a_cd)), (a_sr, (arI G n_sr f_sr)), (a_cd, (arI G n_cd f_cd)), (a_hd, (arI G n_hd f_hd)), (a_k, (oc5 a_h a_j a_pt z23 z24 z25 z26 z27 z28 z29 z30 z31 z32)), (a_pt, (arI G 200 z33))]) hP hD [17, 18] [0, 1, 2, 3, 4, 5, 6, 7, 8, 9, 10, 11, 12, 13, 14, 15, 16, 19, 20] rfl rfl (by decide +kernel) (by decide +kernel) hk1 hFc hP1 hD1
      clear hP hD hPc hDc hFc ht hvm hz1 hk1 hP1 hD1
      obtain ⟨hP, hD⟩ := hJ9
      refine g5_rs [(a_ha, (oc0 a_h a_k e_f1 e_f2 e_f3)), (a_h, (oc1 e_wa e_le e_st e_fo e_lc a_l a_g a_b a_s a_p a_w e_gb a_bb)), (a_g, (oc6 6 5 a_gn e_g)), (a_gn, (arI G 30 f_g)), (a_b, (oc6 5 24 a_bn e_b)), (a_bn, (arI G 120 f_b)), (a_p, (oc6 8 5 a_pn e_p)), (a_pn, (arI G 40 f_p)), (a_bb, (arJ G 24 f_bb)), (a_j, (oc2 a_as a_sk)), (a_as, (arI G 8 z34)), (a_sk, (arJ G 50 z35)), (a_l, (arW G 6 f_l)), (a_lo, (oc3 e_cl a_hd a_sr a_cd)), (a_sr, (arI G n_sr f_sr)), (a_cd, (arI G n_cd f_cd)), (a_hd, (arI G n_hd f_hd)), (a_k, (oc5 a_h a_j a_pt z23 z24 z25 z26 z27 z28 z29 z30 z31 z32)), (a_pt, (arI G 200 z33)), (a_w, (oc6 6 6 a_wn e_w)), (a_wn, (arI G 36 f_w))] hP hD ?_
      clear hP hD
      intro hP hD
      refine g5_ti (v := z49) y50 ?_
      have hw5_51 := wi_col (m := 5) e_qw ⟨by omega, by omega⟩ i_48 (by decide +kernel) (by omega)
      have hg_51 : 0 ≤ z49.toInt ∧ z49.toInt ≤ 1 := by rw [i_48, show (5 : Int32).toInt = 5 by decide]; exact (e_qw.2.2.2 k_i.toInt (by omega) (by omega)).2.2.2.2.2
      refine lv_iconst (v := 1) hx hb dX0_lacking_87 (by decide +kernel) ?_
      refine lv_icmp_ne (tgt := 95) hx hb dX0_lacking_88 (by decide +kernel) (fun c_52 => ?_) (fun c_52 => ?_)
      ·
        have n_52 : gNe (z49.toInt) (1) := g5_ne (a := z49.toInt) (b := 1) rfl (by decide +kernel) c_52
        have i_52 : z49.toInt ≤ 0 := by have z := g5_ne (a := z49.toInt) (b := 1) (by rfl) (by decide +kernel) c_52; omega
        refine lv_iconst (v := 0) hx hb dX0_lacking_95 (by decide +kernel) ?_
        refine lv_icmp_eq (tgt := 106) hx hb dX0_lacking_96 (by decide +kernel) (fun c_53 => ?_) (fun c_53 => ?_)
        ·
          exact absurd c_53 (by decide +kernel)
        ·
          refine lv_iload_n hx hb dX0_lacking_99 rfl (lv_at hl 1 rfl) ?_
          refine lv_iconst (v := 1) hx hb dX0_lacking_100 (by decide +kernel) ?_
          refine lv_iload hx hb dX0_lacking_101 (lv_at hl 2 rfl) ?_
          refine lv_ishl hx hb dX0_lacking_103 ?_
          refine W.eq (g2 := F0 m 104 ls [.int (1 <<< (k_i &&& 31)), .int k_b]) rfl ?_
          refine lv_ior hx hb dX0_lacking_104 ?_
          refine lv_istore_n (lv' := [(2, .int (k_b ||| (1 <<< (k_i &&& 31)))), (5, .int 1), (4, .int k_i), (3, .ref a_w), (0, .ref a_ha), (1, .int p_u)]) hx hb dX0_lacking_105 rfl hl (by decide +kernel) rfl ?_
          clear hl
          intro ls hl
          refine lv_iinc (v := (k_i + 1)) (lv' := [(4, .int (k_i + 1)), (2, .int (k_b ||| (1 <<< (k_i &&& 31)))), (5, .int 1), (3, .ref a_w), (0, .ref a_ha), (1, .int p_u)]) hx hb dX0_lacking_106 hl (k := 2) rfl rfl (by decide +kernel) rfl ?_
          clear hl
          intro ls hl
          have t_54 : (k_i + 1).toInt = k_i.toInt + 1 := g5_iadd (a := k_i.toInt) (b := 1) rfl (by decide +kernel) (by omega) (by omega)
          refine lv_goto (tgt := 13) hx hb dX0_lacking_109 (by decide +kernel) ?_
          exact ih_13_5 ((k_i + 1), (k_b ||| (1 <<< (k_i &&& 31))), z24, z25, z26, z27, z28, z29, z30, z31, z32, z33, z34, z35, z23) ls H locs (show Int.toNat (6 - (k_i + 1).toInt) < Int.toNat (6 - k_i.toInt) from g_up (show k_i.toInt < (k_i + 1).toInt by omega) (show k_i.toInt < 6 by omega)) ⟨lv_sub hl [1, 0, 3, 4, 5] rfl, hP.sub [17, 1, 2, 3, 4, 5, 6, 7, 19, 20, 8, 9, 10, 11, 12, 13, 14, 15, 16, 18, 0] rfl, hD.sub [17, 1, 2, 3, 4, 5, 6, 7, 19, 20, 8, 9, 10, 11, 12, 13, 14, 15, 16, 18, 0] (by decide +kernel) rfl, hS, ⟨by omega, by omega⟩, i_20, by omega, lck_S (d := 1) i_4 (by omega) (by omega) hw0_10 hw1_14 hw2_18 hw3_44 hw4_39 hw5_51 i_22 (Or.inl ⟨rfl, (by rw [Int32.mul_comm 64]; exact i_46)⟩) (Or.inr ⟨(by first | omega | (unfold gNe at *; omega)), rfl⟩)⟩
      ·
        have i_52 : z49.toInt = 1 := g5_neN (a := z49.toInt) (b := 1) rfl (by decide +kernel) c_52
        refine lv_iconst (v := 1) hx hb dX0_lacking_91 (by decide +kernel) ?_
        refine lv_goto (tgt := 96) hx hb dX0_lacking_92 (by decide +kernel) ?_
        refine lv_icmp_eq (tgt := 106) hx hb dX0_lacking_96 (by decide +kernel) (fun c_55 => ?_) (fun c_55 => ?_)
        ·
          refine lv_iinc (v := (k_i + 1)) (lv' := [(4, .int (k_i + 1)), (5, .int 1), (2, .int k_b), (3, .ref a_w), (0, .ref a_ha), (1, .int p_u)]) hx hb dX0_lacking_106 hl (k := 2) rfl rfl (by decide +kernel) rfl ?_
          clear hl
          intro ls hl
          have t_56 : (k_i + 1).toInt = k_i.toInt + 1 := g5_iadd (a := k_i.toInt) (b := 1) rfl (by decide +kernel) (by omega) (by omega)
          refine lv_goto (tgt := 13) hx hb dX0_lacking_109 (by decide +kernel) ?_
          exact ih_13_5 ((k_i + 1), k_b, z24, z25, z26, z27, z28, z29, z30, z31, z32, z33, z34, z35, z23) ls H locs (show Int.toNat (6 - (k_i + 1).toInt) < Int.toNat (6 - k_i.toInt) from g_up (show k_i.toInt < (k_i + 1).toInt by omega) (show k_i.toInt < 6 by omega)) ⟨lv_sub hl [2, 0, 3, 4, 5] rfl, hP.sub [17, 1, 2, 3, 4, 5, 6, 7, 19, 20, 8, 9, 10, 11, 12, 13, 14, 15, 16, 18, 0] rfl, hD.sub [17, 1, 2, 3, 4, 5, 6, 7, 19, 20, 8, 9, 10, 11, 12, 13, 14, 15, 16, 18, 0] (by decide +kernel) rfl, hS, ⟨by omega, by omega⟩, i_20, by omega, lck_S (d := 1) i_4 (by omega) (by omega) hw0_10 hw1_14 hw2_18 hw3_44 hw4_39 hw5_51 i_22 (Or.inl ⟨rfl, (by rw [Int32.mul_comm 64]; exact i_46)⟩) (Or.inl ⟨(by first | omega | (unfold gNe at *; omega)), rfl⟩)⟩
        ·
          exact absurd c_55 (by decide +kernel)
    ·
      have hJ9 := va_join (wr := [(a_ha, (oc0 a_h a_k e_f1 e_f2 e_f3)), (a_h, (oc1 e_wa e_le e_st e_fo e_lc a_l a_g a_b a_s a_p a_w e_gb a_bb)), (a_g, (oc6 6 5 a_gn e_g)), (a_gn, (arI G 30 f_g)), (a_b, (oc6 5 24 a_bn e_b)), (a_bn, (arI G 120 f_b)), (a_p, (oc6 8 5 a_pn e_p)), (a_pn, (arI G 40 f_p)), (a_bb, (arJ G 24 f_bb)), (a_j, (oc2 a_as a_sk)), (a_as, (arI G 8 z34)), (a_sk, (arJ G 50 z35)), (a_l, (arW G 6 f_l)), (a_lo, (oc3 e_cl a_hd a_sr a_cd)), (a_sr, (arI G n_sr f_sr)), (a_cd, (arI G n_cd f_cd)), (a_hd, (arI G n_hd f_hd)), (a_w, (oc6 6 6 a_wn e_w)), (a_wn, (arI G 36 f_w))]) hP hD [1, 18] [0, 2, 3, 4, 5, 6, 7, 8, 9, 10, 11, 12, 13, 14, 15, 16, 17, 19, 20] rfl rfl (by decide +kernel) (by decide +kernel) hk1 hFc hP1 hD1
      clear hP hD hPc hDc hFc ht hvm hz1 hk1 hP1 hD1
      obtain ⟨hP, hD⟩ := hJ9
      refine g5_rs [(a_ha, (oc0 a_h a_k e_f1 e_f2 e_f3)), (a_h, (oc1 e_wa e_le e_st e_fo e_lc a_l a_g a_b a_s a_p a_w e_gb a_bb)), (a_g, (oc6 6 5 a_gn e_g)), (a_gn, (arI G 30 f_g)), (a_b, (oc6 5 24 a_bn e_b)), (a_bn, (arI G 120 f_b)), (a_p, (oc6 8 5 a_pn e_p)), (a_pn, (arI G 40 f_p)), (a_bb, (arJ G 24 f_bb)), (a_j, (oc2 a_as a_sk)), (a_as, (arI G 8 z34)), (a_sk, (arJ G 50 z35)), (a_l, (arW G 6 f_l)), (a_lo, (oc3 e_cl a_hd a_sr a_cd)), (a_sr, (arI G n_sr f_sr)), (a_cd, (arI G n_cd f_cd)), (a_hd, (arI G n_hd f_hd)), (a_w, (oc6 6 6 a_wn e_w)), (a_wn, (arI G 36 f_w)), (a_k, (oc5 a_h a_j a_pt z23 z24 z25 z26 z27 z28 z29 z30 z31 z32)), (a_pt, (arI G 200 z33))] hP hD ?_
      clear hP hD
      intro hP hD
      refine lv_istore (lv' := [(5, .int 0), (2, .int k_b), (4, .int k_i), (3, .ref a_w), (0, .ref a_ha), (1, .int p_u)]) hx hb dX0_lacking_76 hl (by decide +kernel) rfl ?_
      clear hl
      intro ls hl
      refine lv_iload hx hb dX0_lacking_78 (lv_at hl 0 rfl) ?_
      refine lv_aload_n hx hb dX0_lacking_80 rfl (lv_at hl 3 rfl) ?_
      refine lv_iload hx hb dX0_lacking_81 (lv_at hl 2 rfl) ?_
      refine W.eq (g2 := F0 m 83 ls [.int k_i, .ref a_w, .int 0]) rfl ?_
      refine lv_iconst (v := 5) hx hb dX0_lacking_83 (by decide +kernel) ?_
      obtain ⟨hPc, hDc, hFc⟩ := g5_sub3 (wc := [(a_w, (oc6 6 6 a_wn e_w)), (a_wn, (arI G 36 f_w))]) hP hD hS hA [17, 18] (by decide +kernel) rfl
      refine va_calli (va_runV (As := [.int k_i, .int 5]) (rest := [.int 0]) ⟨hx, hb, hml, hown, hts⟩ (t_get_W l G a_w a_wn H.size e_w k_i 5 f_w h_e_w) (cwV 2 hts gV_X0_31 rfl rfl rfl hv_X6_get ⟨Nat.le_of_ble_eq_true rfl, Nat.le_of_ble_eq_true rfl⟩) (g5_preV hPc hK hDc hN hT hS hFc (ci := 6) (q0 := 0) rfl rfl) rfl rfl hl.1 rfl (lv_room (Nat.le_of_ble_eq_true rfl)) dX0_lacking_84 ⟨Nat.le_of_ble_eq_true rfl, Nat.le_of_ble_eq_true rfl⟩) hS (fun q _ h => hFc q h) hFc (fun r u t H locs ht hvm hw hB hz1 hk1 hS => ?_)
      obtain ⟨hP1, hD1⟩ := hB
      have hP1 := g5_ht ht hP1
      obtain ⟨z58, (i_57 : z58 = tget f_w e_w.toInt 6 k_i.toInt (5 : Int32).toInt), y59, rfl⟩ := hw
      have hJ9 := va_join (wr := [(a_ha, (oc0 a_h a_k e_f1 e_f2 e_f3)), (a_h, (oc1 e_wa e_le e_st e_fo e_lc a_l a_g a_b a_s a_p a_w e_gb a_bb)), (a_g, (oc6 6 5 a_gn e_g)), (a_gn, (arI G 30 f_g)), (a_b, (oc6 5 24 a_bn e_b)), (a_bn, (arI G 120 f_b)), (a_p, (oc6 8 5 a_pn e_p)), (a_pn, (arI G 40 f_p)), (a_bb, (arJ G 24 f_bb)), (a_j, (oc2 a_as a_sk)), (a_as, (arI G 8 z34)), (a_sk, (arJ G 50 z35)), (a_l, (arW G 6 f_l)), (a_lo, (oc3 e_cl a_hd a_sr a_cd)), (a_sr, (arI G n_sr f_sr)), (a_cd, (arI G n_cd f_cd)), (a_hd, (arI G n_hd f_hd)), (a_k, (oc5 a_h a_j a_pt z23 z24 z25 z26 z27 z28 z29 z30 z31 z32)), (a_pt, (arI G 200 z33))]) hP hD [17, 18] [0, 1, 2, 3, 4, 5, 6, 7, 8, 9, 10, 11, 12, 13, 14, 15, 16, 19, 20] rfl rfl (by decide +kernel) (by decide +kernel) hk1 hFc hP1 hD1
      clear hP hD hPc hDc hFc ht hvm hz1 hk1 hP1 hD1
      obtain ⟨hP, hD⟩ := hJ9
      refine g5_rs [(a_ha, (oc0 a_h a_k e_f1 e_f2 e_f3)), (a_h, (oc1 e_wa e_le e_st e_fo e_lc a_l a_g a_b a_s a_p a_w e_gb a_bb)), (a_g, (oc6 6 5 a_gn e_g)), (a_gn, (arI G 30 f_g)), (a_b, (oc6 5 24 a_bn e_b)), (a_bn, (arI G 120 f_b)), (a_p, (oc6 8 5 a_pn e_p)), (a_pn, (arI G 40 f_p)), (a_bb, (arJ G 24 f_bb)), (a_j, (oc2 a_as a_sk)), (a_as, (arI G 8 z34)), (a_sk, (arJ G 50 z35)), (a_l, (arW G 6 f_l)), (a_lo, (oc3 e_cl a_hd a_sr a_cd)), (a_sr, (arI G n_sr f_sr)), (a_cd, (arI G n_cd f_cd)), (a_hd, (arI G n_hd f_hd)), (a_k, (oc5 a_h a_j a_pt z23 z24 z25 z26 z27 z28 z29 z30 z31 z32)), (a_pt, (arI G 200 z33)), (a_w, (oc6 6 6 a_wn e_w)), (a_wn, (arI G 36 f_w))] hP hD ?_
      clear hP hD
      intro hP hD
      refine g5_ti (v := z58) y59 ?_
      have hw5_60 := wi_col (m := 5) e_qw ⟨by omega, by omega⟩ i_57 (by decide +kernel) (by omega)
      have hg_60 : 0 ≤ z58.toInt ∧ z58.toInt ≤ 1 := by rw [i_57, show (5 : Int32).toInt = 5 by decide]; exact (e_qw.2.2.2 k_i.toInt (by omega) (by omega)).2.2.2.2.2
      refine lv_iconst (v := 1) hx hb dX0_lacking_87 (by decide +kernel) ?_
      refine lv_icmp_ne (tgt := 95) hx hb dX0_lacking_88 (by decide +kernel) (fun c_61 => ?_) (fun c_61 => ?_)
      ·
        have n_61 : gNe (z58.toInt) (1) := g5_ne (a := z58.toInt) (b := 1) rfl (by decide +kernel) c_61
        have i_61 : z58.toInt ≤ 0 := by have z := g5_ne (a := z58.toInt) (b := 1) (by rfl) (by decide +kernel) c_61; omega
        refine lv_iconst (v := 0) hx hb dX0_lacking_95 (by decide +kernel) ?_
        refine lv_icmp_eq (tgt := 106) hx hb dX0_lacking_96 (by decide +kernel) (fun c_62 => ?_) (fun c_62 => ?_)
        ·
          refine lv_iinc (v := (k_i + 1)) (lv' := [(4, .int (k_i + 1)), (5, .int 0), (2, .int k_b), (3, .ref a_w), (0, .ref a_ha), (1, .int p_u)]) hx hb dX0_lacking_106 hl (k := 2) rfl rfl (by decide +kernel) rfl ?_
          clear hl
          intro ls hl
          have t_63 : (k_i + 1).toInt = k_i.toInt + 1 := g5_iadd (a := k_i.toInt) (b := 1) rfl (by decide +kernel) (by omega) (by omega)
          refine lv_goto (tgt := 13) hx hb dX0_lacking_109 (by decide +kernel) ?_
          exact ih_13_5 ((k_i + 1), k_b, z24, z25, z26, z27, z28, z29, z30, z31, z32, z33, z34, z35, z23) ls H locs (show Int.toNat (6 - (k_i + 1).toInt) < Int.toNat (6 - k_i.toInt) from g_up (show k_i.toInt < (k_i + 1).toInt by omega) (show k_i.toInt < 6 by omega)) ⟨lv_sub hl [2, 0, 3, 4, 5] rfl, hP.sub [17, 1, 2, 3, 4, 5, 6, 7, 19, 20, 8, 9, 10, 11, 12, 13, 14, 15, 16, 18, 0] rfl, hD.sub [17, 1, 2, 3, 4, 5, 6, 7, 19, 20, 8, 9, 10, 11, 12, 13, 14, 15, 16, 18, 0] (by decide +kernel) rfl, hS, ⟨by omega, by omega⟩, i_20, by omega, lck_S (d := 0) i_4 (by omega) (by omega) hw0_10 hw1_14 hw2_18 hw3_44 hw4_39 hw5_60 i_22 (Or.inr ⟨rfl, (by rw [Int32.mul_comm 64]; exact i_47)⟩) (Or.inl ⟨(by first | omega | (unfold gNe at *; omega)), rfl⟩)⟩
        ·
          exact absurd c_62 (by decide +kernel)
      ·
        have i_61 : z58.toInt = 1 := g5_neN (a := z58.toInt) (b := 1) rfl (by decide +kernel) c_61
        refine lv_iconst (v := 1) hx hb dX0_lacking_91 (by decide +kernel) ?_
        refine lv_goto (tgt := 96) hx hb dX0_lacking_92 (by decide +kernel) ?_
        refine lv_icmp_eq (tgt := 106) hx hb dX0_lacking_96 (by decide +kernel) (fun c_64 => ?_) (fun c_64 => ?_)
        ·
          exact absurd c_64 (by decide +kernel)
        ·
          refine lv_iload_n hx hb dX0_lacking_99 rfl (lv_at hl 1 rfl) ?_
          refine lv_iconst (v := 1) hx hb dX0_lacking_100 (by decide +kernel) ?_
          refine lv_iload hx hb dX0_lacking_101 (lv_at hl 2 rfl) ?_
          refine lv_ishl hx hb dX0_lacking_103 ?_
          refine W.eq (g2 := F0 m 104 ls [.int (1 <<< (k_i &&& 31)), .int k_b]) rfl ?_
          refine lv_ior hx hb dX0_lacking_104 ?_
          refine lv_istore_n (lv' := [(2, .int (k_b ||| (1 <<< (k_i &&& 31)))), (5, .int 0), (4, .int k_i), (3, .ref a_w), (0, .ref a_ha), (1, .int p_u)]) hx hb dX0_lacking_105 rfl hl (by decide +kernel) rfl ?_
          clear hl
          intro ls hl
          refine lv_iinc (v := (k_i + 1)) (lv' := [(4, .int (k_i + 1)), (2, .int (k_b ||| (1 <<< (k_i &&& 31)))), (5, .int 0), (3, .ref a_w), (0, .ref a_ha), (1, .int p_u)]) hx hb dX0_lacking_106 hl (k := 2) rfl rfl (by decide +kernel) rfl ?_
          clear hl
          intro ls hl
          have t_65 : (k_i + 1).toInt = k_i.toInt + 1 := g5_iadd (a := k_i.toInt) (b := 1) rfl (by decide +kernel) (by omega) (by omega)
          refine lv_goto (tgt := 13) hx hb dX0_lacking_109 (by decide +kernel) ?_
          exact ih_13_5 ((k_i + 1), (k_b ||| (1 <<< (k_i &&& 31))), z24, z25, z26, z27, z28, z29, z30, z31, z32, z33, z34, z35, z23) ls H locs (show Int.toNat (6 - (k_i + 1).toInt) < Int.toNat (6 - k_i.toInt) from g_up (show k_i.toInt < (k_i + 1).toInt by omega) (show k_i.toInt < 6 by omega)) ⟨lv_sub hl [1, 0, 3, 4, 5] rfl, hP.sub [17, 1, 2, 3, 4, 5, 6, 7, 19, 20, 8, 9, 10, 11, 12, 13, 14, 15, 16, 18, 0] rfl, hD.sub [17, 1, 2, 3, 4, 5, 6, 7, 19, 20, 8, 9, 10, 11, 12, 13, 14, 15, 16, 18, 0] (by decide +kernel) rfl, hS, ⟨by omega, by omega⟩, i_20, by omega, lck_S (d := 0) i_4 (by omega) (by omega) hw0_10 hw1_14 hw2_18 hw3_44 hw4_39 hw5_60 i_22 (Or.inr ⟨rfl, (by rw [Int32.mul_comm 64]; exact i_47)⟩) (Or.inr ⟨(by first | omega | (unfold gNe at *; omega)), rfl⟩)⟩
set_option maxHeartbeats 4000000 in
set_option maxRecDepth 100000 in
theorem x_lacksXN (l : Launch) (G : g5_G) (a_o a_k a_h a_g a_gn a_b a_bn a_p a_pn a_w a_wn a_bb a_j a_as a_sk a_l a_pt a_ha a_im a_ke a_wa a_th a_wk a_r a_x a_wd a_rf a_s : Nat) (sz : Nat) (e_tl : Int32) (e_fd : Int32) (e_fpl : Int32) (e_wn : Int32) (e_lr : Int32) (e_le : Int32) (e_st : Int32) (e_fo : Int32) (e_lc : Int32) (e_g : Int32) (e_b : Int32) (e_p : Int32) (e_w : Int32) (e_ln : Int32) (e_se : Int32) (e_lh : Int32) (e_br : Int32) (e_we : Int32) (e_me : Int32) (e_ce : Int32) (e_wy : Int32) (e_ho : Int32) (e_ov : Int32) (e_f1 : Int32) (e_f2 : Int32) (e_f3 : Int32) (p_s : Int32) (e_wa : Int64) (e_gb : Int64) (f_g : Nat → Int32) (f_b : Nat → Int32) (f_p : Nat → Int32) (f_w : Nat → Int32) (f_bb : Nat → Int64) (f_as : Nat → Int32) (f_sk : Nat → Int64) (f_l : Nat → Option Nat) (f_pt : Nat → Int32) (f_ro : Nat → Int32) (g_w : Option (List CLT)) (h_e_tl : 0 ≤ e_tl.toInt ∧ e_tl.toInt ≤ 400) (h_e_wn : 0 ≤ e_wn.toInt ∧ e_wn.toInt ≤ 1) (h_e_g : 0 ≤ e_g.toInt ∧ e_g.toInt ≤ 6) (h_e_b : 0 ≤ e_b.toInt ∧ e_b.toInt ≤ 5) (h_e_p : 0 ≤ e_p.toInt ∧ e_p.toInt ≤ 8) (h_e_w : 0 ≤ e_w.toInt ∧ e_w.toInt ≤ 6) (h_e_ov : 0 ≤ e_ov.toInt ∧ e_ov.toInt ≤ 1) (e_gk : gOK f_g e_g.toInt) (e_pk : gOK f_p e_p.toInt) (e_qh : QH e_wa e_le e_st f_ro) (e_qg : QG e_g f_g e_gb f_ro) (e_qb : QB e_b f_b f_bb f_ro) (e_qp : QP e_p f_p f_ro) (e_qw : QW e_w f_w f_ro) (e_f : e_fo.toInt < 0 ∨ e_lc.toInt ≤ e_fo.toInt) (e_gw : g_w = none) : Met l yX11_lacks (wsG yX11_lacks cX11_lacks 2 (some .int)) ({ frames := 5, cells := 0, slots := 0, locals := 126 }) (va_Pc [.ref a_o, .int p_s] (g5_P G [(a_o, (oc11 a_h a_im a_ke a_k a_wa a_th a_ha a_wk a_r a_x e_tl e_fd e_fpl a_wd e_wn a_rf e_lr)), (a_k, (oc5 a_h a_j a_pt e_ln e_se e_lh e_br e_we e_me e_ce e_wy e_ho e_ov)), (a_h, (oc1 e_wa e_le e_st e_fo e_lc a_l a_g a_b a_s a_p a_w e_gb a_bb)), (a_g, (oc6 6 5 a_gn e_g)), (a_gn, (arI G 30 f_g)), (a_b, (oc6 5 24 a_bn e_b)), (a_bn, (arI G 120 f_b)), (a_p, (oc6 8 5 a_pn e_p)), (a_pn, (arI G 40 f_p)), (a_w, (oc6 6 6 a_wn e_w)), (a_wn, (arI G 36 f_w)), (a_bb, (arJ G 24 f_bb)), (a_j, (oc2 a_as a_sk)), (a_as, (arI G 8 f_as)), (a_sk, (arJ G 50 f_sk)), (a_l, (arW G 6 f_l)), (a_pt, (arI G 200 f_pt)), (a_ha, (oc0 a_h a_k e_f1 e_f2 e_f3))] sz)) (va_Qi (fun (r : Int32) (u : va_W) => (∃ (o_r : Int32) (o_ln : Int32) (o_se : Int32) (o_lh : Int32) (o_br : Int32) (o_we : Int32) (o_me : Int32) (o_ce : Int32) (o_wy : Int32) (o_ho : Int32) (o_ov : Int32) (o_pt : Nat → Int32) (o_as : Nat → Int32) (o_sk : Nat → Int64), (0 ≤ o_ov.toInt ∧ o_ov.toInt ≤ 1) ∧ (o_r = alacks f_ro g_w p_s) ∧ (r = o_r) ∧ (u = [(a_o, (oc11 a_h a_im a_ke a_k a_wa a_th a_ha a_wk a_r a_x e_tl e_fd e_fpl a_wd e_wn a_rf e_lr)), (a_k, (oc5 a_h a_j a_pt o_ln o_se o_lh o_br o_we o_me o_ce o_wy o_ho o_ov)), (a_h, (oc1 e_wa e_le e_st e_fo e_lc a_l a_g a_b a_s a_p a_w e_gb a_bb)), (a_g, (oc6 6 5 a_gn e_g)), (a_gn, (arI G 30 f_g)), (a_b, (oc6 5 24 a_bn e_b)), (a_bn, (arI G 120 f_b)), (a_p, (oc6 8 5 a_pn e_p)), (a_pn, (arI G 40 f_p)), (a_w, (oc6 6 6 a_wn e_w)), (a_wn, (arI G 36 f_w)), (a_bb, (arJ G 24 f_bb)), (a_j, (oc2 a_as a_sk)), (a_as, (arI G 8 o_as)), (a_sk, (arJ G 50 o_sk)), (a_l, (arW G 6 f_l)), (a_pt, (arI G 200 o_pt)), (a_ha, (oc0 a_h a_k e_f1 e_f2 e_f3))]))) (g5_B G (va_A [(a_o, (oc11 a_h a_im a_ke a_k a_wa a_th a_ha a_wk a_r a_x e_tl e_fd e_fpl a_wd e_wn a_rf e_lr)), (a_k, (oc5 a_h a_j a_pt e_ln e_se e_lh e_br e_we e_me e_ce e_wy e_ho e_ov)), (a_h, (oc1 e_wa e_le e_st e_fo e_lc a_l a_g a_b a_s a_p a_w e_gb a_bb)), (a_g, (oc6 6 5 a_gn e_g)), (a_gn, (arI G 30 f_g)), (a_b, (oc6 5 24 a_bn e_b)), (a_bn, (arI G 120 f_b)), (a_p, (oc6 8 5 a_pn e_p)), (a_pn, (arI G 40 f_p)), (a_w, (oc6 6 6 a_wn e_w)), (a_wn, (arI G 36 f_w)), (a_bb, (arJ G 24 f_bb)), (a_j, (oc2 a_as a_sk)), (a_as, (arI G 8 f_as)), (a_sk, (arJ G 50 f_sk)), (a_l, (arW G 6 f_l)), (a_pt, (arI G 200 f_pt)), (a_ha, (oc0 a_h a_k e_f1 e_f2 e_f3))] sz)) (va_A [(a_o, (oc11 a_h a_im a_ke a_k a_wa a_th a_ha a_wk a_r a_x e_tl e_fd e_fpl a_wd e_wn a_rf e_lr)), (a_k, (oc5 a_h a_j a_pt e_ln e_se e_lh e_br e_we e_me e_ce e_wy e_ho e_ov)), (a_h, (oc1 e_wa e_le e_st e_fo e_lc a_l a_g a_b a_s a_p a_w e_gb a_bb)), (a_g, (oc6 6 5 a_gn e_g)), (a_gn, (arI G 30 f_g)), (a_b, (oc6 5 24 a_bn e_b)), (a_bn, (arI G 120 f_b)), (a_p, (oc6 8 5 a_pn e_p)), (a_pn, (arI G 40 f_p)), (a_w, (oc6 6 6 a_wn e_w)), (a_wn, (arI G 36 f_w)), (a_bb, (arJ G 24 f_bb)), (a_j, (oc2 a_as a_sk)), (a_as, (arI G 8 f_as)), (a_sk, (arJ G 50 f_sk)), (a_l, (arW G 6 f_l)), (a_pt, (arI G 200 f_pt)), (a_ha, (oc0 a_h a_k e_f1 e_f2 e_f3))] sz)) 0 0 (va_A [(a_o, (oc11 a_h a_im a_ke a_k a_wa a_th a_ha a_wk a_r a_x e_tl e_fd e_fpl a_wd e_wn a_rf e_lr)), (a_k, (oc5 a_h a_j a_pt e_ln e_se e_lh e_br e_we e_me e_ce e_wy e_ho e_ov)), (a_h, (oc1 e_wa e_le e_st e_fo e_lc a_l a_g a_b a_s a_p a_w e_gb a_bb)), (a_g, (oc6 6 5 a_gn e_g)), (a_gn, (arI G 30 f_g)), (a_b, (oc6 5 24 a_bn e_b)), (a_bn, (arI G 120 f_b)), (a_p, (oc6 8 5 a_pn e_p)), (a_pn, (arI G 40 f_p)), (a_w, (oc6 6 6 a_wn e_w)), (a_wn, (arI G 36 f_w)), (a_bb, (arJ G 24 f_bb)), (a_j, (oc2 a_as a_sk)), (a_as, (arI G 8 f_as)), (a_sk, (arJ G 50 f_sk)), (a_l, (arW G 6 f_l)), (a_pt, (arI G 200 f_pt)), (a_ha, (oc0 a_h a_k e_f1 e_f2 e_f3))] sz) := by
  refine Met.ofW (cc := cX11_lacks) (maxL := 2) (ret := (some .int)) (by decide +kernel) rfl ?_
  intro p e s m args below meth c s₁ B hml hv
  obtain ⟨rfl, hsz, hP, hK, hD0, hN, hT⟩ := hv
  have hx := B.exec
  have hb := B.bytes
  have hr := B.returns
  have hts : ∀ w ∈ tblG, w.before _ s = true := fun w h => atoms_spec (ws := (wsG yX11_lacks cX11_lacks 2 (some .int))) B.pre w (List.mem_cons_of_mem _ h)
  have hown : s.vm.findClass RX11 = some m.cls := findClass_of_methodNamed B.named
  have hlocks := B.notSynchronized
  subst hsz
  have hD := hD0.self (sz := s.heap.size)
  generalize hAe : va_A [(a_o, (oc11 a_h a_im a_ke a_k a_wa a_th a_ha a_wk a_r a_x e_tl e_fd e_fpl a_wd e_wn a_rf e_lr)), (a_k, (oc5 a_h a_j a_pt e_ln e_se e_lh e_br e_we e_me e_ce e_wy e_ho e_ov)), (a_h, (oc1 e_wa e_le e_st e_fo e_lc a_l a_g a_b a_s a_p a_w e_gb a_bb)), (a_g, (oc6 6 5 a_gn e_g)), (a_gn, (arI G 30 f_g)), (a_b, (oc6 5 24 a_bn e_b)), (a_bn, (arI G 120 f_b)), (a_p, (oc6 8 5 a_pn e_p)), (a_pn, (arI G 40 f_p)), (a_w, (oc6 6 6 a_wn e_w)), (a_wn, (arI G 36 f_w)), (a_bb, (arJ G 24 f_bb)), (a_j, (oc2 a_as a_sk)), (a_as, (arI G 8 f_as)), (a_sk, (arJ G 50 f_sk)), (a_l, (arW G 6 f_l)), (a_pt, (arI G 200 f_pt)), (a_ha, (oc0 a_h a_k e_f1 e_f2 e_f3))] s.heap.size = A at hD hT ⊢
  have hA : ∀ q : Nat, s.heap.size ≤ q → A q := fun q h => by rw [← hAe]; exact Or.inr h
  have hS : va_S A s.heap s.heap [] := va_S.rf
  replace hP : va_P G.1 vwCl [(a_o, (oc11 a_h a_im a_ke a_k a_wa a_th a_ha a_wk a_r a_x e_tl e_fd e_fpl a_wd e_wn a_rf e_lr)), (a_k, (oc5 a_h a_j a_pt e_ln e_se e_lh e_br e_we e_me e_ce e_wy e_ho e_ov)), (a_h, (oc1 e_wa e_le e_st e_fo e_lc a_l a_g a_b a_s a_p a_w e_gb a_bb)), (a_g, (oc6 6 5 a_gn e_g)), (a_gn, (arI G 30 f_g)), (a_b, (oc6 5 24 a_bn e_b)), (a_bn, (arI G 120 f_b)), (a_p, (oc6 8 5 a_pn e_p)), (a_pn, (arI G 40 f_p)), (a_w, (oc6 6 6 a_wn e_w)), (a_wn, (arI G 36 f_w)), (a_bb, (arJ G 24 f_bb)), (a_j, (oc2 a_as a_sk)), (a_as, (arI G 8 f_as)), (a_sk, (arJ G 50 f_sk)), (a_l, (arW G 6 f_l)), (a_pt, (arI G 200 f_pt)), (a_ha, (oc0 a_h a_k e_f1 e_f2 e_f3))] s.heap := hP
  have hl := lv_entry ([.ref a_o, .int p_s]) (n := 2) (Nat.le_of_ble_eq_true rfl)
  rw [lg_entry_eq]
  generalize (lg_sl ([.ref a_o, .int p_s]) ++ List.replicate (2 - (lg_sl ([.ref a_o, .int p_s])).length) Slot.unset).toArray = ls at hl ⊢
  replace hl : lv_has ls 2 [(0, .ref a_o), (1, .int p_s)] := hl
  refine lv_iload_n hx hb dX11_lacks_0 rfl (lv_at hl 1 rfl) ?_
  refine lv_if_lt (tgt := 20) hx hb dX11_lacks_1 (by decide +kernel) (fun c_1 => ?_) (fun c_1 => ?_)
  ·
    have i_1 : p_s.toInt < 0 := g5_lt (a := p_s.toInt) (b := 0) rfl (by decide +kernel) c_1
    refine lv_iconst (v := (-1)) hx hb dX11_lacks_20 (by decide +kernel) ?_
    exact W.iret (v := (-1)) hx hb hr (fun t ht hW => ⟨⟨(-1), [(a_o, (oc11 a_h a_im a_ke a_k a_wa a_th a_ha a_wk a_r a_x e_tl e_fd e_fpl a_wd e_wn a_rf e_lr)), (a_k, (oc5 a_h a_j a_pt e_ln e_se e_lh e_br e_we e_me e_ce e_wy e_ho e_ov)), (a_h, (oc1 e_wa e_le e_st e_fo e_lc a_l a_g a_b a_s a_p a_w e_gb a_bb)), (a_g, (oc6 6 5 a_gn e_g)), (a_gn, (arI G 30 f_g)), (a_b, (oc6 5 24 a_bn e_b)), (a_bn, (arI G 120 f_b)), (a_p, (oc6 8 5 a_pn e_p)), (a_pn, (arI G 40 f_p)), (a_w, (oc6 6 6 a_wn e_w)), (a_wn, (arI G 36 f_w)), (a_bb, (arJ G 24 f_bb)), (a_j, (oc2 a_as a_sk)), (a_as, (arI G 8 f_as)), (a_sk, (arJ G 50 f_sk)), (a_l, (arW G 6 f_l)), (a_pt, (arI G 200 f_pt)), (a_ha, (oc0 a_h a_k e_f1 e_f2 e_f3))], rfl, ⟨(-1), e_ln, e_se, e_lh, e_br, e_we, e_me, e_ce, e_wy, e_ho, e_ov, f_pt, f_as, f_sk, h_e_ov, lac_n (fun q9 => by rw [e_qp.2.1] at q9; omega), rfl, rfl⟩, by rw [ht]; exact hP.sub [0, 1, 2, 3, 4, 5, 6, 7, 8, 9, 10, 11, 12, 13, 14, 15, 16, 17] rfl, hD.sub [0, 1, 2, 3, 4, 5, 6, 7, 8, 9, 10, 11, 12, 13, 14, 15, 16, 17] (by decide +kernel) rfl⟩, hS.F ht⟩) hS.2.2 dX11_lacks_21
  ·
    have i_1 : p_s.toInt ≥ 0 := g5_ltN (a := p_s.toInt) (b := 0) rfl (by decide +kernel) c_1
    refine lv_iload_n hx hb dX11_lacks_4 rfl (lv_at hl 1 rfl) ?_
    refine lv_iconst (v := 1) hx hb dX11_lacks_5 (by decide +kernel) ?_
    refine lv_aload_n hx hb dX11_lacks_6 rfl (lv_at hl 0 rfl) ?_
    refine va_get (D := G.1) (ci := 11) (v := .ref a_h) (C := RX11) (T := TX11) (N := 17) hx hb hts inG_X11 hown hK hP 0 rfl rfl 0 (by decide +kernel) (hts _ fl_X11_12) (fun _ h9 => h9) rfl dX11_lacks_7 ?_
    refine W.eq (g2 := F0 m 10 ls [.ref a_h, .int 1, .int p_s]) rfl ?_
    refine va_get (D := G.1) (ci := 1) (v := .ref a_p) (C := RX1) (T := TX1) (N := 13) hx hb hts inG_X1 hown hK hP 2 rfl rfl 9 (by decide +kernel) (hts _ fl_X11_306) (fun _ h9 => h9) rfl dX11_lacks_10 ?_
    refine va_get (D := G.1) (ci := 6) (v := .int e_p) (C := RX6) (T := TX6) (N := 4) hx hb hts inG_X6 hown hK hP 7 rfl rfl 3 (by decide +kernel) (hts _ fl_X11_238) (fun _ h9 => h9) rfl dX11_lacks_13 ?_
    refine lv_ishl hx hb dX11_lacks_16 ?_
    refine lv_icmp_lt (tgt := 22) hx hb dX11_lacks_17 (by decide +kernel) (fun c_2 => ?_) (fun c_2 => ?_)
    ·
      have i_2 : p_s.toInt < (1 <<< (e_p &&& 31)).toInt := g5_lt (a := p_s.toInt) (b := (1 <<< (e_p &&& 31)).toInt) rfl rfl c_2
      refine lv_aload_n hx hb dX11_lacks_22 rfl (lv_at hl 0 rfl) ?_
      refine va_get (D := G.1) (ci := 11) (v := .ref a_ha) (C := RX11) (T := TX11) (N := 17) hx hb hts inG_X11 hown hK hP 0 rfl rfl 6 (by decide +kernel) (hts _ fl_X11_52) (fun _ h9 => h9) rfl dX11_lacks_23 ?_
      refine lv_iload_n hx hb dX11_lacks_26 rfl (lv_at hl 1 rfl) ?_
      obtain ⟨hPc, hDc, hFc⟩ := g5_sub3 (wc := [(a_k, (oc5 a_h a_j a_pt e_ln e_se e_lh e_br e_we e_me e_ce e_wy e_ho e_ov)), (a_h, (oc1 e_wa e_le e_st e_fo e_lc a_l a_g a_b a_s a_p a_w e_gb a_bb)), (a_g, (oc6 6 5 a_gn e_g)), (a_gn, (arI G 30 f_g)), (a_b, (oc6 5 24 a_bn e_b)), (a_bn, (arI G 120 f_b)), (a_p, (oc6 8 5 a_pn e_p)), (a_pn, (arI G 40 f_p)), (a_w, (oc6 6 6 a_wn e_w)), (a_wn, (arI G 36 f_w)), (a_bb, (arJ G 24 f_bb)), (a_j, (oc2 a_as a_sk)), (a_as, (arI G 8 f_as)), (a_sk, (arJ G 50 f_sk)), (a_l, (arW G 6 f_l)), (a_pt, (arI G 200 f_pt)), (a_ha, (oc0 a_h a_k e_f1 e_f2 e_f3))]) hP hD hS hA [1, 2, 3, 4, 5, 6, 7, 8, 9, 10, 11, 12, 13, 14, 15, 16, 17] (by decide +kernel) rfl
      refine va_calli (va_runV (As := [.int p_s]) (rest := []) ⟨hx, hb, hml, hown, hts⟩ (g_lackingXN l G a_k a_h a_g a_gn a_b a_bn a_p a_pn a_w a_wn a_bb a_j a_as a_sk a_l a_pt a_ha a_s s.heap.size e_le e_st e_fo e_lc e_g e_b e_p e_w e_ln e_se e_lh e_br e_we e_me e_ce e_wy e_ho e_ov e_f1 e_f2 e_f3 p_s e_wa e_gb f_g f_b f_p f_w f_bb f_as f_sk f_l f_pt f_ro g_w h_e_g h_e_b h_e_p h_e_w h_e_ov (e_gk) (e_pk) (e_qh) (e_qg) (e_qb) (e_qp) (e_qw) (e_f) (e_gw)) (cwV 1 hts gV_X11_312 rfl rfl rfl hv_X0_lacking ⟨Nat.le_of_ble_eq_true rfl, Nat.le_of_ble_eq_true rfl⟩) (g5_preV hPc hK hDc hN hT hS hFc (ci := 0) (q0 := 16) rfl rfl) rfl rfl hl.1 rfl (lv_room (Nat.le_of_ble_eq_true rfl)) dX11_lacks_27 ⟨Nat.le_of_ble_eq_true rfl, Nat.le_of_ble_eq_true rfl⟩) hS (fun q _ h => hFc q h) hFc (fun r u t H locs ht hvm hw hB hz1 hk1 hS => ?_)
      obtain ⟨hP1, hD1⟩ := hB
      have hP1 := g5_ht ht hP1
      obtain ⟨z5, z6, z7, z8, z9, z10, z11, z12, z13, z14, z15, z16, z17, z18, (i_3 : 0 ≤ z15.toInt ∧ z15.toInt ≤ 1), (i_4 : z5 = lackF f_ro g_w p_s), y19, rfl⟩ := hw
      have hJ9 := va_join (wr := [(a_o, (oc11 a_h a_im a_ke a_k a_wa a_th a_ha a_wk a_r a_x e_tl e_fd e_fpl a_wd e_wn a_rf e_lr))]) hP hD [1, 2, 3, 4, 5, 6, 7, 8, 9, 10, 11, 12, 13, 14, 15, 16, 17] [0] rfl rfl (by decide +kernel) (by decide +kernel) hk1 hFc hP1 hD1
      clear hP hD hPc hDc hFc ht hvm hz1 hk1 hP1 hD1
      obtain ⟨hP, hD⟩ := hJ9
      refine g5_rs [(a_o, (oc11 a_h a_im a_ke a_k a_wa a_th a_ha a_wk a_r a_x e_tl e_fd e_fpl a_wd e_wn a_rf e_lr)), (a_k, (oc5 a_h a_j a_pt z6 z7 z8 z9 z10 z11 z12 z13 z14 z15)), (a_h, (oc1 e_wa e_le e_st e_fo e_lc a_l a_g a_b a_s a_p a_w e_gb a_bb)), (a_g, (oc6 6 5 a_gn e_g)), (a_gn, (arI G 30 f_g)), (a_b, (oc6 5 24 a_bn e_b)), (a_bn, (arI G 120 f_b)), (a_p, (oc6 8 5 a_pn e_p)), (a_pn, (arI G 40 f_p)), (a_w, (oc6 6 6 a_wn e_w)), (a_wn, (arI G 36 f_w)), (a_bb, (arJ G 24 f_bb)), (a_j, (oc2 a_as a_sk)), (a_as, (arI G 8 z17)), (a_sk, (arJ G 50 z18)), (a_l, (arW G 6 f_l)), (a_pt, (arI G 200 z16)), (a_ha, (oc0 a_h a_k e_f1 e_f2 e_f3))] hP hD ?_
      clear hP hD
      intro hP hD
      refine g5_ti (v := z5) y19 ?_
      refine W.eq (g2 := F0 m 30 ls [.int z5]) rfl ?_
      exact W.iret (v := z5) hx hb hr (fun t ht hW => ⟨⟨z5, [(a_o, (oc11 a_h a_im a_ke a_k a_wa a_th a_ha a_wk a_r a_x e_tl e_fd e_fpl a_wd e_wn a_rf e_lr)), (a_k, (oc5 a_h a_j a_pt z6 z7 z8 z9 z10 z11 z12 z13 z14 z15)), (a_h, (oc1 e_wa e_le e_st e_fo e_lc a_l a_g a_b a_s a_p a_w e_gb a_bb)), (a_g, (oc6 6 5 a_gn e_g)), (a_gn, (arI G 30 f_g)), (a_b, (oc6 5 24 a_bn e_b)), (a_bn, (arI G 120 f_b)), (a_p, (oc6 8 5 a_pn e_p)), (a_pn, (arI G 40 f_p)), (a_w, (oc6 6 6 a_wn e_w)), (a_wn, (arI G 36 f_w)), (a_bb, (arJ G 24 f_bb)), (a_j, (oc2 a_as a_sk)), (a_as, (arI G 8 z17)), (a_sk, (arJ G 50 z18)), (a_l, (arW G 6 f_l)), (a_pt, (arI G 200 z16)), (a_ha, (oc0 a_h a_k e_f1 e_f2 e_f3))], rfl, ⟨z5, z6, z7, z8, z9, z10, z11, z12, z13, z14, z15, z16, z17, z18, i_3, lac_y (by rw [e_qp.2.1]; exact ⟨by omega, by omega⟩) i_4, rfl, rfl⟩, by rw [ht]; exact hP.sub [0, 1, 2, 3, 4, 5, 6, 7, 8, 9, 10, 11, 12, 13, 14, 15, 16, 17] rfl, hD.sub [0, 1, 2, 3, 4, 5, 6, 7, 8, 9, 10, 11, 12, 13, 14, 15, 16, 17] (by decide +kernel) rfl⟩, hS.F ht⟩) hS.2.2 dX11_lacks_30
    ·
      have i_2 : p_s.toInt ≥ (1 <<< (e_p &&& 31)).toInt := g5_ltN (a := p_s.toInt) (b := (1 <<< (e_p &&& 31)).toInt) rfl rfl c_2
      refine lv_iconst (v := (-1)) hx hb dX11_lacks_20 (by decide +kernel) ?_
      exact W.iret (v := (-1)) hx hb hr (fun t ht hW => ⟨⟨(-1), [(a_o, (oc11 a_h a_im a_ke a_k a_wa a_th a_ha a_wk a_r a_x e_tl e_fd e_fpl a_wd e_wn a_rf e_lr)), (a_k, (oc5 a_h a_j a_pt e_ln e_se e_lh e_br e_we e_me e_ce e_wy e_ho e_ov)), (a_h, (oc1 e_wa e_le e_st e_fo e_lc a_l a_g a_b a_s a_p a_w e_gb a_bb)), (a_g, (oc6 6 5 a_gn e_g)), (a_gn, (arI G 30 f_g)), (a_b, (oc6 5 24 a_bn e_b)), (a_bn, (arI G 120 f_b)), (a_p, (oc6 8 5 a_pn e_p)), (a_pn, (arI G 40 f_p)), (a_w, (oc6 6 6 a_wn e_w)), (a_wn, (arI G 36 f_w)), (a_bb, (arJ G 24 f_bb)), (a_j, (oc2 a_as a_sk)), (a_as, (arI G 8 f_as)), (a_sk, (arJ G 50 f_sk)), (a_l, (arW G 6 f_l)), (a_pt, (arI G 200 f_pt)), (a_ha, (oc0 a_h a_k e_f1 e_f2 e_f3))], rfl, ⟨(-1), e_ln, e_se, e_lh, e_br, e_we, e_me, e_ce, e_wy, e_ho, e_ov, f_pt, f_as, f_sk, h_e_ov, lac_n (fun q9 => by rw [e_qp.2.1] at q9; omega), rfl, rfl⟩, by rw [ht]; exact hP.sub [0, 1, 2, 3, 4, 5, 6, 7, 8, 9, 10, 11, 12, 13, 14, 15, 16, 17] rfl, hD.sub [0, 1, 2, 3, 4, 5, 6, 7, 8, 9, 10, 11, 12, 13, 14, 15, 16, 17] (by decide +kernel) rfl⟩, hS.F ht⟩) hS.2.2 dX11_lacks_21
set_option maxHeartbeats 4000000 in
set_option maxRecDepth 100000 in
theorem x_lacksXL (l : Launch) (G : g5_G) (a_o a_k a_h a_g a_gn a_b a_bn a_p a_pn a_w a_wn a_bb a_j a_as a_sk a_l a_lo a_sr a_cd a_hd a_pt a_ha a_im a_ke a_wa a_th a_wk a_r a_x a_wd a_rf a_s : Nat) (sz : Nat) (e_tl : Int32) (e_fd : Int32) (e_fpl : Int32) (e_wn : Int32) (e_lr : Int32) (e_le : Int32) (e_st : Int32) (e_fo : Int32) (e_lc : Int32) (e_g : Int32) (e_b : Int32) (e_p : Int32) (e_w : Int32) (e_cl : Int32) (e_ln : Int32) (e_se : Int32) (e_lh : Int32) (e_br : Int32) (e_we : Int32) (e_me : Int32) (e_ce : Int32) (e_wy : Int32) (e_ho : Int32) (e_ov : Int32) (e_f1 : Int32) (e_f2 : Int32) (e_f3 : Int32) (p_s : Int32) (e_wa : Int64) (e_gb : Int64) (f_g : Nat → Int32) (f_b : Nat → Int32) (f_p : Nat → Int32) (f_w : Nat → Int32) (f_bb : Nat → Int64) (f_as : Nat → Int32) (f_sk : Nat → Int64) (f_l : Nat → Option Nat) (f_sr : Nat → Int32) (f_cd : Nat → Int32) (f_hd : Nat → Int32) (f_pt : Nat → Int32) (f_ro : Nat → Int32) (g_w : Option (List CLT)) (g_L : List CLT) (n_sr : Nat) (n_cd : Nat) (n_hd : Nat) (h_e_tl : 0 ≤ e_tl.toInt ∧ e_tl.toInt ≤ 400) (h_e_wn : 0 ≤ e_wn.toInt ∧ e_wn.toInt ≤ 1) (h_e_g : 0 ≤ e_g.toInt ∧ e_g.toInt ≤ 6) (h_e_b : 0 ≤ e_b.toInt ∧ e_b.toInt ≤ 5) (h_e_p : 0 ≤ e_p.toInt ∧ e_p.toInt ≤ 8) (h_e_w : 0 ≤ e_w.toInt ∧ e_w.toInt ≤ 6) (h_e_cl : 0 ≤ e_cl.toInt ∧ e_cl.toInt ≤ 12) (h_e_ov : 0 ≤ e_ov.toInt ∧ e_ov.toInt ≤ 1) (e_gk : gOK f_g e_g.toInt) (e_pk : gOK f_p e_p.toInt) (e_qh : QH e_wa e_le e_st f_ro) (e_qg : QG e_g f_g e_gb f_ro) (e_qb : QB e_b f_b f_bb f_ro) (e_qp : QP e_p f_p f_ro) (e_qw : QW e_w f_w f_ro) (e_f : 0 ≤ e_fo.toInt ∧ e_fo.toInt < e_lc.toInt ∧ e_lc.toInt ≤ 6) (e_a : f_l e_fo.toNatClampNeg = some a_lo) (e_hn : n_cd ≤ 400) (e_hs : ∀ j : Nat, j < n_sr → 0 ≤ (f_sr j).toInt ∧ (f_sr j).toInt ≤ (n_cd : Int)) (e_hk : ∀ j : Nat, j < n_cd → (f_cd j >>> (12 &&& 31)).toInt = 1 → (f_cd j &&& 4095).toInt < 8) (e_c : (e_cl.toInt : Int) ≤ (n_hd : Int) ∧ (e_cl.toInt + 1 : Int) ≤ (n_sr : Int)) (e_gw : g_w = some g_L) (e_lw : LWC f_hd f_sr f_cd g_L e_cl.toInt.toNat) (e_lv : lvC f_cd n_cd ≤ 50) : Met l yX11_lacks (wsG yX11_lacks cX11_lacks 2 (some .int)) ({ frames := 6, cells := 0, slots := 0, locals := 159 }) (va_Pc [.ref a_o, .int p_s] (g5_P G [(a_o, (oc11 a_h a_im a_ke a_k a_wa a_th a_ha a_wk a_r a_x e_tl e_fd e_fpl a_wd e_wn a_rf e_lr)), (a_k, (oc5 a_h a_j a_pt e_ln e_se e_lh e_br e_we e_me e_ce e_wy e_ho e_ov)), (a_h, (oc1 e_wa e_le e_st e_fo e_lc a_l a_g a_b a_s a_p a_w e_gb a_bb)), (a_g, (oc6 6 5 a_gn e_g)), (a_gn, (arI G 30 f_g)), (a_b, (oc6 5 24 a_bn e_b)), (a_bn, (arI G 120 f_b)), (a_p, (oc6 8 5 a_pn e_p)), (a_pn, (arI G 40 f_p)), (a_w, (oc6 6 6 a_wn e_w)), (a_wn, (arI G 36 f_w)), (a_bb, (arJ G 24 f_bb)), (a_j, (oc2 a_as a_sk)), (a_as, (arI G 8 f_as)), (a_sk, (arJ G 50 f_sk)), (a_l, (arW G 6 f_l)), (a_lo, (oc3 e_cl a_hd a_sr a_cd)), (a_sr, (arI G n_sr f_sr)), (a_cd, (arI G n_cd f_cd)), (a_hd, (arI G n_hd f_hd)), (a_pt, (arI G 200 f_pt)), (a_ha, (oc0 a_h a_k e_f1 e_f2 e_f3))] sz)) (va_Qi (fun (r : Int32) (u : va_W) => (∃ (o_r : Int32) (o_ln : Int32) (o_se : Int32) (o_lh : Int32) (o_br : Int32) (o_we : Int32) (o_me : Int32) (o_ce : Int32) (o_wy : Int32) (o_ho : Int32) (o_ov : Int32) (o_pt : Nat → Int32) (o_as : Nat → Int32) (o_sk : Nat → Int64), (0 ≤ o_ov.toInt ∧ o_ov.toInt ≤ 1) ∧ (o_r = alacks f_ro g_w p_s) ∧ (r = o_r) ∧ (u = [(a_o, (oc11 a_h a_im a_ke a_k a_wa a_th a_ha a_wk a_r a_x e_tl e_fd e_fpl a_wd e_wn a_rf e_lr)), (a_k, (oc5 a_h a_j a_pt o_ln o_se o_lh o_br o_we o_me o_ce o_wy o_ho o_ov)), (a_h, (oc1 e_wa e_le e_st e_fo e_lc a_l a_g a_b a_s a_p a_w e_gb a_bb)), (a_g, (oc6 6 5 a_gn e_g)), (a_gn, (arI G 30 f_g)), (a_b, (oc6 5 24 a_bn e_b)), (a_bn, (arI G 120 f_b)), (a_p, (oc6 8 5 a_pn e_p)), (a_pn, (arI G 40 f_p)), (a_w, (oc6 6 6 a_wn e_w)), (a_wn, (arI G 36 f_w)), (a_bb, (arJ G 24 f_bb)), (a_j, (oc2 a_as a_sk)), (a_as, (arI G 8 o_as)), (a_sk, (arJ G 50 o_sk)), (a_l, (arW G 6 f_l)), (a_lo, (oc3 e_cl a_hd a_sr a_cd)), (a_sr, (arI G n_sr f_sr)), (a_cd, (arI G n_cd f_cd)), (a_hd, (arI G n_hd f_hd)), (a_pt, (arI G 200 o_pt)), (a_ha, (oc0 a_h a_k e_f1 e_f2 e_f3))]))) (g5_B G (va_A [(a_o, (oc11 a_h a_im a_ke a_k a_wa a_th a_ha a_wk a_r a_x e_tl e_fd e_fpl a_wd e_wn a_rf e_lr)), (a_k, (oc5 a_h a_j a_pt e_ln e_se e_lh e_br e_we e_me e_ce e_wy e_ho e_ov)), (a_h, (oc1 e_wa e_le e_st e_fo e_lc a_l a_g a_b a_s a_p a_w e_gb a_bb)), (a_g, (oc6 6 5 a_gn e_g)), (a_gn, (arI G 30 f_g)), (a_b, (oc6 5 24 a_bn e_b)), (a_bn, (arI G 120 f_b)), (a_p, (oc6 8 5 a_pn e_p)), (a_pn, (arI G 40 f_p)), (a_w, (oc6 6 6 a_wn e_w)), (a_wn, (arI G 36 f_w)), (a_bb, (arJ G 24 f_bb)), (a_j, (oc2 a_as a_sk)), (a_as, (arI G 8 f_as)), (a_sk, (arJ G 50 f_sk)), (a_l, (arW G 6 f_l)), (a_lo, (oc3 e_cl a_hd a_sr a_cd)), (a_sr, (arI G n_sr f_sr)), (a_cd, (arI G n_cd f_cd)), (a_hd, (arI G n_hd f_hd)), (a_pt, (arI G 200 f_pt)), (a_ha, (oc0 a_h a_k e_f1 e_f2 e_f3))] sz)) (va_A [(a_o, (oc11 a_h a_im a_ke a_k a_wa a_th a_ha a_wk a_r a_x e_tl e_fd e_fpl a_wd e_wn a_rf e_lr)), (a_k, (oc5 a_h a_j a_pt e_ln e_se e_lh e_br e_we e_me e_ce e_wy e_ho e_ov)), (a_h, (oc1 e_wa e_le e_st e_fo e_lc a_l a_g a_b a_s a_p a_w e_gb a_bb)), (a_g, (oc6 6 5 a_gn e_g)), (a_gn, (arI G 30 f_g)), (a_b, (oc6 5 24 a_bn e_b)), (a_bn, (arI G 120 f_b)), (a_p, (oc6 8 5 a_pn e_p)), (a_pn, (arI G 40 f_p)), (a_w, (oc6 6 6 a_wn e_w)), (a_wn, (arI G 36 f_w)), (a_bb, (arJ G 24 f_bb)), (a_j, (oc2 a_as a_sk)), (a_as, (arI G 8 f_as)), (a_sk, (arJ G 50 f_sk)), (a_l, (arW G 6 f_l)), (a_lo, (oc3 e_cl a_hd a_sr a_cd)), (a_sr, (arI G n_sr f_sr)), (a_cd, (arI G n_cd f_cd)), (a_hd, (arI G n_hd f_hd)), (a_pt, (arI G 200 f_pt)), (a_ha, (oc0 a_h a_k e_f1 e_f2 e_f3))] sz)) 0 0 (va_A [(a_o, (oc11 a_h a_im a_ke a_k a_wa a_th a_ha a_wk a_r a_x e_tl e_fd e_fpl a_wd e_wn a_rf e_lr)), (a_k, (oc5 a_h a_j a_pt e_ln e_se e_lh e_br e_we e_me e_ce e_wy e_ho e_ov)), (a_h, (oc1 e_wa e_le e_st e_fo e_lc a_l a_g a_b a_s a_p a_w e_gb a_bb)), (a_g, (oc6 6 5 a_gn e_g)), (a_gn, (arI G 30 f_g)), (a_b, (oc6 5 24 a_bn e_b)), (a_bn, (arI G 120 f_b)), (a_p, (oc6 8 5 a_pn e_p)), (a_pn, (arI G 40 f_p)), (a_w, (oc6 6 6 a_wn e_w)), (a_wn, (arI G 36 f_w)), (a_bb, (arJ G 24 f_bb)), (a_j, (oc2 a_as a_sk)), (a_as, (arI G 8 f_as)), (a_sk, (arJ G 50 f_sk)), (a_l, (arW G 6 f_l)), (a_lo, (oc3 e_cl a_hd a_sr a_cd)), (a_sr, (arI G n_sr f_sr)), (a_cd, (arI G n_cd f_cd)), (a_hd, (arI G n_hd f_hd)), (a_pt, (arI G 200 f_pt)), (a_ha, (oc0 a_h a_k e_f1 e_f2 e_f3))] sz) := by
  refine Met.ofW (cc := cX11_lacks) (maxL := 2) (ret := (some .int)) (by decide +kernel) rfl ?_
  intro p e s m args below meth c s₁ B hml hv
  obtain ⟨rfl, hsz, hP, hK, hD0, hN, hT⟩ := hv
  have hx := B.exec
  have hb := B.bytes
  have hr := B.returns
  have hts : ∀ w ∈ tblG, w.before _ s = true := fun w h => atoms_spec (ws := (wsG yX11_lacks cX11_lacks 2 (some .int))) B.pre w (List.mem_cons_of_mem _ h)
  have hown : s.vm.findClass RX11 = some m.cls := findClass_of_methodNamed B.named
  have hlocks := B.notSynchronized
  subst hsz
  have hD := hD0.self (sz := s.heap.size)
  generalize hAe : va_A [(a_o, (oc11 a_h a_im a_ke a_k a_wa a_th a_ha a_wk a_r a_x e_tl e_fd e_fpl a_wd e_wn a_rf e_lr)), (a_k, (oc5 a_h a_j a_pt e_ln e_se e_lh e_br e_we e_me e_ce e_wy e_ho e_ov)), (a_h, (oc1 e_wa e_le e_st e_fo e_lc a_l a_g a_b a_s a_p a_w e_gb a_bb)), (a_g, (oc6 6 5 a_gn e_g)), (a_gn, (arI G 30 f_g)), (a_b, (oc6 5 24 a_bn e_b)), (a_bn, (arI G 120 f_b)), (a_p, (oc6 8 5 a_pn e_p)), (a_pn, (arI G 40 f_p)), (a_w, (oc6 6 6 a_wn e_w)), (a_wn, (arI G 36 f_w)), (a_bb, (arJ G 24 f_bb)), (a_j, (oc2 a_as a_sk)), (a_as, (arI G 8 f_as)), (a_sk, (arJ G 50 f_sk)), (a_l, (arW G 6 f_l)), (a_lo, (oc3 e_cl a_hd a_sr a_cd)), (a_sr, (arI G n_sr f_sr)), (a_cd, (arI G n_cd f_cd)), (a_hd, (arI G n_hd f_hd)), (a_pt, (arI G 200 f_pt)), (a_ha, (oc0 a_h a_k e_f1 e_f2 e_f3))] s.heap.size = A at hD hT ⊢
  have hA : ∀ q : Nat, s.heap.size ≤ q → A q := fun q h => by rw [← hAe]; exact Or.inr h
  have hS : va_S A s.heap s.heap [] := va_S.rf
  replace hP : va_P G.1 vwCl [(a_o, (oc11 a_h a_im a_ke a_k a_wa a_th a_ha a_wk a_r a_x e_tl e_fd e_fpl a_wd e_wn a_rf e_lr)), (a_k, (oc5 a_h a_j a_pt e_ln e_se e_lh e_br e_we e_me e_ce e_wy e_ho e_ov)), (a_h, (oc1 e_wa e_le e_st e_fo e_lc a_l a_g a_b a_s a_p a_w e_gb a_bb)), (a_g, (oc6 6 5 a_gn e_g)), (a_gn, (arI G 30 f_g)), (a_b, (oc6 5 24 a_bn e_b)), (a_bn, (arI G 120 f_b)), (a_p, (oc6 8 5 a_pn e_p)), (a_pn, (arI G 40 f_p)), (a_w, (oc6 6 6 a_wn e_w)), (a_wn, (arI G 36 f_w)), (a_bb, (arJ G 24 f_bb)), (a_j, (oc2 a_as a_sk)), (a_as, (arI G 8 f_as)), (a_sk, (arJ G 50 f_sk)), (a_l, (arW G 6 f_l)), (a_lo, (oc3 e_cl a_hd a_sr a_cd)), (a_sr, (arI G n_sr f_sr)), (a_cd, (arI G n_cd f_cd)), (a_hd, (arI G n_hd f_hd)), (a_pt, (arI G 200 f_pt)), (a_ha, (oc0 a_h a_k e_f1 e_f2 e_f3))] s.heap := hP
  have hl := lv_entry ([.ref a_o, .int p_s]) (n := 2) (Nat.le_of_ble_eq_true rfl)
  rw [lg_entry_eq]
  generalize (lg_sl ([.ref a_o, .int p_s]) ++ List.replicate (2 - (lg_sl ([.ref a_o, .int p_s])).length) Slot.unset).toArray = ls at hl ⊢
  replace hl : lv_has ls 2 [(0, .ref a_o), (1, .int p_s)] := hl
  refine lv_iload_n hx hb dX11_lacks_0 rfl (lv_at hl 1 rfl) ?_
  refine lv_if_lt (tgt := 20) hx hb dX11_lacks_1 (by decide +kernel) (fun c_1 => ?_) (fun c_1 => ?_)
  ·
    have i_1 : p_s.toInt < 0 := g5_lt (a := p_s.toInt) (b := 0) rfl (by decide +kernel) c_1
    refine lv_iconst (v := (-1)) hx hb dX11_lacks_20 (by decide +kernel) ?_
    exact W.iret (v := (-1)) hx hb hr (fun t ht hW => ⟨⟨(-1), [(a_o, (oc11 a_h a_im a_ke a_k a_wa a_th a_ha a_wk a_r a_x e_tl e_fd e_fpl a_wd e_wn a_rf e_lr)), (a_k, (oc5 a_h a_j a_pt e_ln e_se e_lh e_br e_we e_me e_ce e_wy e_ho e_ov)), (a_h, (oc1 e_wa e_le e_st e_fo e_lc a_l a_g a_b a_s a_p a_w e_gb a_bb)), (a_g, (oc6 6 5 a_gn e_g)), (a_gn, (arI G 30 f_g)), (a_b, (oc6 5 24 a_bn e_b)), (a_bn, (arI G 120 f_b)), (a_p, (oc6 8 5 a_pn e_p)), (a_pn, (arI G 40 f_p)), (a_w, (oc6 6 6 a_wn e_w)), (a_wn, (arI G 36 f_w)), (a_bb, (arJ G 24 f_bb)), (a_j, (oc2 a_as a_sk)), (a_as, (arI G 8 f_as)), (a_sk, (arJ G 50 f_sk)), (a_l, (arW G 6 f_l)), (a_lo, (oc3 e_cl a_hd a_sr a_cd)), (a_sr, (arI G n_sr f_sr)), (a_cd, (arI G n_cd f_cd)), (a_hd, (arI G n_hd f_hd)), (a_pt, (arI G 200 f_pt)), (a_ha, (oc0 a_h a_k e_f1 e_f2 e_f3))], rfl, ⟨(-1), e_ln, e_se, e_lh, e_br, e_we, e_me, e_ce, e_wy, e_ho, e_ov, f_pt, f_as, f_sk, h_e_ov, lac_n (fun q9 => by rw [e_qp.2.1] at q9; omega), rfl, rfl⟩, by rw [ht]; exact hP.sub [0, 1, 2, 3, 4, 5, 6, 7, 8, 9, 10, 11, 12, 13, 14, 15, 16, 17, 18, 19, 20, 21] rfl, hD.sub [0, 1, 2, 3, 4, 5, 6, 7, 8, 9, 10, 11, 12, 13, 14, 15, 16, 17, 18, 19, 20, 21] (by decide +kernel) rfl⟩, hS.F ht⟩) hS.2.2 dX11_lacks_21
  ·
    have i_1 : p_s.toInt ≥ 0 := g5_ltN (a := p_s.toInt) (b := 0) rfl (by decide +kernel) c_1
    refine lv_iload_n hx hb dX11_lacks_4 rfl (lv_at hl 1 rfl) ?_
    refine lv_iconst (v := 1) hx hb dX11_lacks_5 (by decide +kernel) ?_
    refine lv_aload_n hx hb dX11_lacks_6 rfl (lv_at hl 0 rfl) ?_
    refine va_get (D := G.1) (ci := 11) (v := .ref a_h) (C := RX11) (T := TX11) (N := 17) hx hb hts inG_X11 hown hK hP 0 rfl rfl 0 (by decide +kernel) (hts _ fl_X11_12) (fun _ h9 => h9) rfl dX11_lacks_7 ?_
    refine W.eq (g2 := F0 m 10 ls [.ref a_h, .int 1, .int p_s]) rfl ?_
    refine va_get (D := G.1) (ci := 1) (v := .ref a_p) (C := RX1) (T := TX1) (N := 13) hx hb hts inG_X1 hown hK hP 2 rfl rfl 9 (by decide +kernel) (hts _ fl_X11_306) (fun _ h9 => h9) rfl dX11_lacks_10 ?_
    refine va_get (D := G.1) (ci := 6) (v := .int e_p) (C := RX6) (T := TX6) (N := 4) hx hb hts inG_X6 hown hK hP 7 rfl rfl 3 (by decide +kernel) (hts _ fl_X11_238) (fun _ h9 => h9) rfl dX11_lacks_13 ?_
    refine lv_ishl hx hb dX11_lacks_16 ?_
    refine lv_icmp_lt (tgt := 22) hx hb dX11_lacks_17 (by decide +kernel) (fun c_2 => ?_) (fun c_2 => ?_)
    ·
      have i_2 : p_s.toInt < (1 <<< (e_p &&& 31)).toInt := g5_lt (a := p_s.toInt) (b := (1 <<< (e_p &&& 31)).toInt) rfl rfl c_2
      refine lv_aload_n hx hb dX11_lacks_22 rfl (lv_at hl 0 rfl) ?_
      refine va_get (D := G.1) (ci := 11) (v := .ref a_ha) (C := RX11) (T := TX11) (N := 17) hx hb hts inG_X11 hown hK hP 0 rfl rfl 6 (by decide +kernel) (hts _ fl_X11_52) (fun _ h9 => h9) rfl dX11_lacks_23 ?_
      refine lv_iload_n hx hb dX11_lacks_26 rfl (lv_at hl 1 rfl) ?_
      obtain ⟨hPc, hDc, hFc⟩ := g5_sub3 (wc := [(a_k, (oc5 a_h a_j a_pt e_ln e_se e_lh e_br e_we e_me e_ce e_wy e_ho e_ov)), (a_h, (oc1 e_wa e_le e_st e_fo e_lc a_l a_g a_b a_s a_p a_w e_gb a_bb)), (a_g, (oc6 6 5 a_gn e_g)), (a_gn, (arI G 30 f_g)), (a_b, (oc6 5 24 a_bn e_b)), (a_bn, (arI G 120 f_b)), (a_p, (oc6 8 5 a_pn e_p)), (a_pn, (arI G 40 f_p)), (a_w, (oc6 6 6 a_wn e_w)), (a_wn, (arI G 36 f_w)), (a_bb, (arJ G 24 f_bb)), (a_j, (oc2 a_as a_sk)), (a_as, (arI G 8 f_as)), (a_sk, (arJ G 50 f_sk)), (a_l, (arW G 6 f_l)), (a_lo, (oc3 e_cl a_hd a_sr a_cd)), (a_sr, (arI G n_sr f_sr)), (a_cd, (arI G n_cd f_cd)), (a_hd, (arI G n_hd f_hd)), (a_pt, (arI G 200 f_pt)), (a_ha, (oc0 a_h a_k e_f1 e_f2 e_f3))]) hP hD hS hA [1, 2, 3, 4, 5, 6, 7, 8, 9, 10, 11, 12, 13, 14, 15, 16, 17, 18, 19, 20, 21] (by decide +kernel) rfl
      refine va_calli (va_runV (As := [.int p_s]) (rest := []) ⟨hx, hb, hml, hown, hts⟩ (g_lackingXL l G a_k a_h a_g a_gn a_b a_bn a_p a_pn a_w a_wn a_bb a_j a_as a_sk a_l a_lo a_sr a_cd a_hd a_pt a_ha a_s s.heap.size e_le e_st e_fo e_lc e_g e_b e_p e_w e_cl e_ln e_se e_lh e_br e_we e_me e_ce e_wy e_ho e_ov e_f1 e_f2 e_f3 p_s e_wa e_gb f_g f_b f_p f_w f_bb f_as f_sk f_l f_sr f_cd f_hd f_pt f_ro g_w g_L n_sr n_cd n_hd h_e_g h_e_b h_e_p h_e_w h_e_cl h_e_ov (e_gk) (e_pk) (e_qh) (e_qg) (e_qb) (e_qp) (e_qw) (e_f) (e_a) (e_hn) (e_hs) (e_hk) (e_c) (e_gw) (e_lw) (e_lv)) (cwV 1 hts gV_X11_312 rfl rfl rfl hv_X0_lacking ⟨Nat.le_of_ble_eq_true rfl, Nat.le_of_ble_eq_true rfl⟩) (g5_preV hPc hK hDc hN hT hS hFc (ci := 0) (q0 := 20) rfl rfl) rfl rfl hl.1 rfl (lv_room (Nat.le_of_ble_eq_true rfl)) dX11_lacks_27 ⟨Nat.le_of_ble_eq_true rfl, Nat.le_of_ble_eq_true rfl⟩) hS (fun q _ h => hFc q h) hFc (fun r u t H locs ht hvm hw hB hz1 hk1 hS => ?_)
      obtain ⟨hP1, hD1⟩ := hB
      have hP1 := g5_ht ht hP1
      obtain ⟨z5, z6, z7, z8, z9, z10, z11, z12, z13, z14, z15, z16, z17, z18, (i_3 : 0 ≤ z15.toInt ∧ z15.toInt ≤ 1), (i_4 : z5 = lackF f_ro g_w p_s), y19, rfl⟩ := hw
      have hJ9 := va_join (wr := [(a_o, (oc11 a_h a_im a_ke a_k a_wa a_th a_ha a_wk a_r a_x e_tl e_fd e_fpl a_wd e_wn a_rf e_lr))]) hP hD [1, 2, 3, 4, 5, 6, 7, 8, 9, 10, 11, 12, 13, 14, 15, 16, 17, 18, 19, 20, 21] [0] rfl rfl (by decide +kernel) (by decide +kernel) hk1 hFc hP1 hD1
      clear hP hD hPc hDc hFc ht hvm hz1 hk1 hP1 hD1
      obtain ⟨hP, hD⟩ := hJ9
      refine g5_rs [(a_o, (oc11 a_h a_im a_ke a_k a_wa a_th a_ha a_wk a_r a_x e_tl e_fd e_fpl a_wd e_wn a_rf e_lr)), (a_k, (oc5 a_h a_j a_pt z6 z7 z8 z9 z10 z11 z12 z13 z14 z15)), (a_h, (oc1 e_wa e_le e_st e_fo e_lc a_l a_g a_b a_s a_p a_w e_gb a_bb)), (a_g, (oc6 6 5 a_gn e_g)), (a_gn, (arI G 30 f_g)), (a_b, (oc6 5 24 a_bn e_b)), (a_bn, (arI G 120 f_b)), (a_p, (oc6 8 5 a_pn e_p)), (a_pn, (arI G 40 f_p)), (a_w, (oc6 6 6 a_wn e_w)), (a_wn, (arI G 36 f_w)), (a_bb, (arJ G 24 f_bb)), (a_j, (oc2 a_as a_sk)), (a_as, (arI G 8 z17)), (a_sk, (arJ G 50 z18)), (a_l, (arW G 6 f_l)), (a_lo, (oc3 e_cl a_hd a_sr a_cd)), (a_sr, (arI G n_sr f_sr)), (a_cd, (arI G n_cd f_cd)), (a_hd, (arI G n_hd f_hd)), (a_pt, (arI G 200 z16)), (a_ha, (oc0 a_h a_k e_f1 e_f2 e_f3))] hP hD ?_
      clear hP hD
      intro hP hD
      refine g5_ti (v := z5) y19 ?_
      refine W.eq (g2 := F0 m 30 ls [.int z5]) rfl ?_
      exact W.iret (v := z5) hx hb hr (fun t ht hW => ⟨⟨z5, [(a_o, (oc11 a_h a_im a_ke a_k a_wa a_th a_ha a_wk a_r a_x e_tl e_fd e_fpl a_wd e_wn a_rf e_lr)), (a_k, (oc5 a_h a_j a_pt z6 z7 z8 z9 z10 z11 z12 z13 z14 z15)), (a_h, (oc1 e_wa e_le e_st e_fo e_lc a_l a_g a_b a_s a_p a_w e_gb a_bb)), (a_g, (oc6 6 5 a_gn e_g)), (a_gn, (arI G 30 f_g)), (a_b, (oc6 5 24 a_bn e_b)), (a_bn, (arI G 120 f_b)), (a_p, (oc6 8 5 a_pn e_p)), (a_pn, (arI G 40 f_p)), (a_w, (oc6 6 6 a_wn e_w)), (a_wn, (arI G 36 f_w)), (a_bb, (arJ G 24 f_bb)), (a_j, (oc2 a_as a_sk)), (a_as, (arI G 8 z17)), (a_sk, (arJ G 50 z18)), (a_l, (arW G 6 f_l)), (a_lo, (oc3 e_cl a_hd a_sr a_cd)), (a_sr, (arI G n_sr f_sr)), (a_cd, (arI G n_cd f_cd)), (a_hd, (arI G n_hd f_hd)), (a_pt, (arI G 200 z16)), (a_ha, (oc0 a_h a_k e_f1 e_f2 e_f3))], rfl, ⟨z5, z6, z7, z8, z9, z10, z11, z12, z13, z14, z15, z16, z17, z18, i_3, lac_y (by rw [e_qp.2.1]; exact ⟨by omega, by omega⟩) i_4, rfl, rfl⟩, by rw [ht]; exact hP.sub [0, 1, 2, 3, 4, 5, 6, 7, 8, 9, 10, 11, 12, 13, 14, 15, 16, 17, 18, 19, 20, 21] rfl, hD.sub [0, 1, 2, 3, 4, 5, 6, 7, 8, 9, 10, 11, 12, 13, 14, 15, 16, 17, 18, 19, 20, 21] (by decide +kernel) rfl⟩, hS.F ht⟩) hS.2.2 dX11_lacks_30
    ·
      have i_2 : p_s.toInt ≥ (1 <<< (e_p &&& 31)).toInt := g5_ltN (a := p_s.toInt) (b := (1 <<< (e_p &&& 31)).toInt) rfl rfl c_2
      refine lv_iconst (v := (-1)) hx hb dX11_lacks_20 (by decide +kernel) ?_
      exact W.iret (v := (-1)) hx hb hr (fun t ht hW => ⟨⟨(-1), [(a_o, (oc11 a_h a_im a_ke a_k a_wa a_th a_ha a_wk a_r a_x e_tl e_fd e_fpl a_wd e_wn a_rf e_lr)), (a_k, (oc5 a_h a_j a_pt e_ln e_se e_lh e_br e_we e_me e_ce e_wy e_ho e_ov)), (a_h, (oc1 e_wa e_le e_st e_fo e_lc a_l a_g a_b a_s a_p a_w e_gb a_bb)), (a_g, (oc6 6 5 a_gn e_g)), (a_gn, (arI G 30 f_g)), (a_b, (oc6 5 24 a_bn e_b)), (a_bn, (arI G 120 f_b)), (a_p, (oc6 8 5 a_pn e_p)), (a_pn, (arI G 40 f_p)), (a_w, (oc6 6 6 a_wn e_w)), (a_wn, (arI G 36 f_w)), (a_bb, (arJ G 24 f_bb)), (a_j, (oc2 a_as a_sk)), (a_as, (arI G 8 f_as)), (a_sk, (arJ G 50 f_sk)), (a_l, (arW G 6 f_l)), (a_lo, (oc3 e_cl a_hd a_sr a_cd)), (a_sr, (arI G n_sr f_sr)), (a_cd, (arI G n_cd f_cd)), (a_hd, (arI G n_hd f_hd)), (a_pt, (arI G 200 f_pt)), (a_ha, (oc0 a_h a_k e_f1 e_f2 e_f3))], rfl, ⟨(-1), e_ln, e_se, e_lh, e_br, e_we, e_me, e_ce, e_wy, e_ho, e_ov, f_pt, f_as, f_sk, h_e_ov, lac_n (fun q9 => by rw [e_qp.2.1] at q9; omega), rfl, rfl⟩, by rw [ht]; exact hP.sub [0, 1, 2, 3, 4, 5, 6, 7, 8, 9, 10, 11, 12, 13, 14, 15, 16, 17, 18, 19, 20, 21] rfl, hD.sub [0, 1, 2, 3, 4, 5, 6, 7, 8, 9, 10, 11, 12, 13, 14, 15, 16, 17, 18, 19, 20, 21] (by decide +kernel) rfl⟩, hS.F ht⟩) hS.2.2 dX11_lacks_21
set_option maxHeartbeats 4000000 in
set_option maxRecDepth 100000 in
theorem n_lackingX (l : Launch) (G : g5_G) (b_o b_ro b_se b_re b_pt b_rf b_im b_ke b_tp b_nl b_op b_ar b_pi b_pa b_ws b_hw b_ip b_ah b_be b_me b_tr b_ld b_wn : Nat) (sz : Nat) (u_th : Int32) (u_sa : Int32) (u_fd : Int32) (u_td : Int32) (u_fr : Int32) (u_to : Int32) (u_so : Int32) (u_fa : Int32) (u_bd : Int32) (u_nc : Int32) (u_co : Int32) (u_le : Int32) (u_pd : Int32) (u_od : Int32) (u_la : Int32) (u_bk : Int32) (u_ce : Int32) (u_ho : Int32) (u_wy : Int32) (u_bt : Int32) (u_ps : Int32) (u_tg : Int32) (u_sn : Int32) (u_ic : Int32) (u_wd : Int32) (u_id : Int32) (p_1 : Int32) (u_wo : Int64) (u_va : Int64) (u_su : Int64) (u_st : Int64) (v_ro : Nat → Int32) (v_se : Nat → Int64) (v_re : Nat → Int64) (v_pt : Nat → Int32) (g_w : Option (List CLT)) (h_u_td : 0 ≤ u_td.toInt ∧ u_td.toInt ≤ 400) (h_u_fr : 0 ≤ u_fr.toInt ∧ u_fr.toInt ≤ 400) (h_u_to : 0 ≤ u_to.toInt ∧ u_to.toInt ≤ 400) (h_u_bd : 0 ≤ u_bd.toInt ∧ u_bd.toInt ≤ 1) (h_u_nc : 0 ≤ u_nc.toInt ∧ u_nc.toInt ≤ 12) (h_u_co : 0 ≤ u_co.toInt ∧ u_co.toInt ≤ 400) (h_u_pd : 0 ≤ u_pd.toInt ∧ u_pd.toInt ≤ 400) (h_u_la : 0 ≤ u_la.toInt ∧ u_la.toInt ≤ 4840) (h_u_bk : 0 ≤ u_bk.toInt ∧ u_bk.toInt ≤ 1) (h_u_ce : 0 ≤ u_ce.toInt ∧ u_ce.toInt ≤ 63) (h_u_ho : 0 ≤ u_ho.toInt ∧ u_ho.toInt ≤ 23) (h_u_wy : 0 ≤ u_wy.toInt ∧ u_wy.toInt ≤ 3) (h_u_bt : 0 ≤ u_bt.toInt ∧ u_bt.toInt ≤ 1000000) (h_u_ps : 0 ≤ u_ps.toInt ∧ u_ps.toInt ≤ 200) (h_u_ic : 0 ≤ u_ic.toInt ∧ u_ic.toInt ≤ 1) (h_u_id : 0 ≤ u_id.toInt ∧ u_id.toInt ≤ 1) (r_ro : MI v_ro) (r_pt : PTI v_pt) (e_mf : MLF v_ro g_w) : Met l yX12_lacking (wsG yX12_lacking cX12_lacking 7 (some .int)) ({ frames := 7, cells := 0, slots := 0, locals := 176 }) (va_Pc [.ref b_o, .int p_1] (g5_P G [(b_o, (oc12 u_th u_sa b_rf b_ro b_im b_ke u_fd b_tp u_td u_fr u_to u_so u_wo u_fa u_bd u_nc b_nl u_co b_op b_ar u_le b_pi b_pa u_pd u_od b_ws b_hw u_la b_se b_re u_bk u_va u_su u_ce u_ho u_wy u_bt u_ps b_pt u_tg u_sn b_ip u_ic b_ah b_be b_me u_wd b_tr b_ld u_st b_wn u_id)), (b_ro, (arI G 5740 v_ro)), (b_se, (arJ G 13 v_se)), (b_re, (arJ G 400 v_re)), (b_pt, (arI G 200 v_pt))] sz)) (va_Qi (fun (r : Int32) (u : va_W) => (∃ (o_r : Int32) (o_la : Int32) (o_bk : Int32) (o_va : Int64) (o_su : Int64) (o_ce : Int32) (o_ho : Int32) (o_wy : Int32) (o_bt : Int32) (o_ps : Int32) (o_tg : Int32) (o_sn : Int32) (o_se : Nat → Int64) (o_re : Nat → Int64) (o_pt : Nat → Int32), (0 ≤ o_la.toInt ∧ o_la.toInt ≤ 4840) ∧ (0 ≤ o_bk.toInt ∧ o_bk.toInt ≤ 1) ∧ (0 ≤ o_ce.toInt ∧ o_ce.toInt ≤ 63) ∧ (0 ≤ o_ho.toInt ∧ o_ho.toInt ≤ 23) ∧ (0 ≤ o_wy.toInt ∧ o_wy.toInt ≤ 3) ∧ (0 ≤ o_bt.toInt ∧ o_bt.toInt ≤ 1000000) ∧ (0 ≤ o_ps.toInt ∧ o_ps.toInt ≤ 200) ∧ (PTI o_pt) ∧ (o_r = lackF v_ro g_w p_1) ∧ (r = o_r) ∧ (u = [(b_o, (oc12 u_th u_sa b_rf b_ro b_im b_ke u_fd b_tp u_td u_fr u_to u_so u_wo u_fa u_bd u_nc b_nl u_co b_op b_ar u_le b_pi b_pa u_pd u_od b_ws b_hw o_la b_se b_re o_bk o_va o_su o_ce o_ho o_wy o_bt o_ps b_pt o_tg o_sn b_ip u_ic b_ah b_be b_me u_wd b_tr b_ld u_st b_wn u_id)), (b_ro, (arI G 5740 v_ro)), (b_se, (arJ G 13 o_se)), (b_re, (arJ G 400 o_re)), (b_pt, (arI G 200 o_pt))]))) (g5_B G (va_A [(b_o, (oc12 u_th u_sa b_rf b_ro b_im b_ke u_fd b_tp u_td u_fr u_to u_so u_wo u_fa u_bd u_nc b_nl u_co b_op b_ar u_le b_pi b_pa u_pd u_od b_ws b_hw u_la b_se b_re u_bk u_va u_su u_ce u_ho u_wy u_bt u_ps b_pt u_tg u_sn b_ip u_ic b_ah b_be b_me u_wd b_tr b_ld u_st b_wn u_id)), (b_ro, (arI G 5740 v_ro)), (b_se, (arJ G 13 v_se)), (b_re, (arJ G 400 v_re)), (b_pt, (arI G 200 v_pt))] sz)) (va_A [(b_o, (oc12 u_th u_sa b_rf b_ro b_im b_ke u_fd b_tp u_td u_fr u_to u_so u_wo u_fa u_bd u_nc b_nl u_co b_op b_ar u_le b_pi b_pa u_pd u_od b_ws b_hw u_la b_se b_re u_bk u_va u_su u_ce u_ho u_wy u_bt u_ps b_pt u_tg u_sn b_ip u_ic b_ah b_be b_me u_wd b_tr b_ld u_st b_wn u_id)), (b_ro, (arI G 5740 v_ro)), (b_se, (arJ G 13 v_se)), (b_re, (arJ G 400 v_re)), (b_pt, (arI G 200 v_pt))] sz)) 0 0 (va_A [(b_o, (oc12 u_th u_sa b_rf b_ro b_im b_ke u_fd b_tp u_td u_fr u_to u_so u_wo u_fa u_bd u_nc b_nl u_co b_op b_ar u_le b_pi b_pa u_pd u_od b_ws b_hw u_la b_se b_re u_bk u_va u_su u_ce u_ho u_wy u_bt u_ps b_pt u_tg u_sn b_ip u_ic b_ah b_be b_me u_wd b_tr b_ld u_st b_wn u_id)), (b_ro, (arI G 5740 v_ro)), (b_se, (arJ G 13 v_se)), (b_re, (arJ G 400 v_re)), (b_pt, (arI G 200 v_pt))] sz) := by
  refine Met.ofW (cc := cX12_lacking) (maxL := 7) (ret := (some .int)) (by decide +kernel) rfl ?_
  intro p e s m args below meth c s₁ B hml hv
  obtain ⟨rfl, hsz, hP, hK, hD0, hN, hT⟩ := hv
  have hx := B.exec
  have hb := B.bytes
  have hr := B.returns
  have hts : ∀ w ∈ tblG, w.before _ s = true := fun w h => atoms_spec (ws := (wsG yX12_lacking cX12_lacking 7 (some .int))) B.pre w (List.mem_cons_of_mem _ h)
  have hown : s.vm.findClass RX12 = some m.cls := findClass_of_methodNamed B.named
  have hlocks := B.notSynchronized
  subst hsz
  have hD := hD0.self (sz := s.heap.size)
  generalize hAe : va_A [(b_o, (oc12 u_th u_sa b_rf b_ro b_im b_ke u_fd b_tp u_td u_fr u_to u_so u_wo u_fa u_bd u_nc b_nl u_co b_op b_ar u_le b_pi b_pa u_pd u_od b_ws b_hw u_la b_se b_re u_bk u_va u_su u_ce u_ho u_wy u_bt u_ps b_pt u_tg u_sn b_ip u_ic b_ah b_be b_me u_wd b_tr b_ld u_st b_wn u_id)), (b_ro, (arI G 5740 v_ro)), (b_se, (arJ G 13 v_se)), (b_re, (arJ G 400 v_re)), (b_pt, (arI G 200 v_pt))] s.heap.size = A at hD hT ⊢
  have hA : ∀ q : Nat, s.heap.size ≤ q → A q := fun q h => by rw [← hAe]; exact Or.inr h
  have hS : va_S A s.heap s.heap [] := va_S.rf
  replace hP : va_P G.1 vwCl [(b_o, (oc12 u_th u_sa b_rf b_ro b_im b_ke u_fd b_tp u_td u_fr u_to u_so u_wo u_fa u_bd u_nc b_nl u_co b_op b_ar u_le b_pi b_pa u_pd u_od b_ws b_hw u_la b_se b_re u_bk u_va u_su u_ce u_ho u_wy u_bt u_ps b_pt u_tg u_sn b_ip u_ic b_ah b_be b_me u_wd b_tr b_ld u_st b_wn u_id)), (b_ro, (arI G 5740 v_ro)), (b_se, (arJ G 13 v_se)), (b_re, (arJ G 400 v_re)), (b_pt, (arI G 200 v_pt))] s.heap := hP
  have hl := lv_entry ([.ref b_o, .int p_1]) (n := 7) (Nat.le_of_ble_eq_true rfl)
  rw [lg_entry_eq]
  generalize (lg_sl ([.ref b_o, .int p_1]) ++ List.replicate (7 - (lg_sl ([.ref b_o, .int p_1])).length) Slot.unset).toArray = ls at hl ⊢
  replace hl : lv_has ls 7 [(0, .ref b_o), (1, .int p_1)] := hl
  have hm8 := mi_8 r_ro
  refine lv_iconst (v := 0) hx hb dX12_lacking_0 (by decide +kernel) ?_
  refine lv_istore_n (lv' := [(2, .int 0), (0, .ref b_o), (1, .int p_1)]) hx hb dX12_lacking_1 rfl hl (by decide +kernel) rfl ?_
  clear hl
  intro ls hl
  refine lv_iconst (v := 0) hx hb dX12_lacking_2 (by decide +kernel) ?_
  refine lv_istore_n (lv' := [(3, .int 0), (2, .int 0), (0, .ref b_o), (1, .int p_1)]) hx hb dX12_lacking_3 rfl hl (by decide +kernel) rfl ?_
  clear hl
  intro ls hl
  refine g5_loop (α := (Int32) × (Int32) × (Int32) × (Int32) × (Int64) × (Int64) × (Int32) × (Int32) × (Int32) × (Int32) × (Int32) × (Int32) × (Int32) × (Nat → Int64) × (Nat → Int64) × (Nat → Int32)) (fun (q : (Int32) × (Int32) × (Int32) × (Int32) × (Int64) × (Int64) × (Int32) × (Int32) × (Int32) × (Int32) × (Int32) × (Int32) × (Int32) × (Nat → Int64) × (Nat → Int64) × (Nat → Int32)) (ls : Array Slot) (H : Heap) (locs : List Loc) => match q with | (k4_3, k4_2, k4_la, k4_bk, k4_va, k4_su, k4_ce, k4_ho, k4_wy, k4_bt, k4_ps, k4_tg, k4_sn, k4_se, k4_re, k4_pt) => lv_has ls 7 [(2, .int k4_2), (3, .int k4_3), (0, .ref b_o), (1, .int p_1)] ∧ va_P G.1 vwCl [(b_o, (oc12 u_th u_sa b_rf b_ro b_im b_ke u_fd b_tp u_td u_fr u_to u_so u_wo u_fa u_bd u_nc b_nl u_co b_op b_ar u_le b_pi b_pa u_pd u_od b_ws b_hw k4_la b_se b_re k4_bk k4_va k4_su k4_ce k4_ho k4_wy k4_bt k4_ps b_pt k4_tg k4_sn b_ip u_ic b_ah b_be b_me u_wd b_tr b_ld u_st b_wn u_id)), (b_ro, (arI G 5740 v_ro)), (b_se, (arJ G 13 k4_se)), (b_re, (arJ G 400 k4_re)), (b_pt, (arI G 200 k4_pt))] H ∧ va_D A [(b_o, (oc12 u_th u_sa b_rf b_ro b_im b_ke u_fd b_tp u_td u_fr u_to u_so u_wo u_fa u_bd u_nc b_nl u_co b_op b_ar u_le b_pi b_pa u_pd u_od b_ws b_hw k4_la b_se b_re k4_bk k4_va k4_su k4_ce k4_ho k4_wy k4_bt k4_ps b_pt k4_tg k4_sn b_ip u_ic b_ah b_be b_me u_wd b_tr b_ld u_st b_wn u_id)), (b_ro, (arI G 5740 v_ro)), (b_se, (arJ G 13 k4_se)), (b_re, (arJ G 400 k4_re)), (b_pt, (arI G 200 k4_pt))] ∧ va_S A s.heap H locs ∧ (0 ≤ k4_3.toInt ∧ k4_3.toInt ≤ 6) ∧ (0 ≤ k4_la.toInt ∧ k4_la.toInt ≤ 4840) ∧ (0 ≤ k4_bk.toInt ∧ k4_bk.toInt ≤ 1) ∧ (0 ≤ k4_ce.toInt ∧ k4_ce.toInt ≤ 63) ∧ (0 ≤ k4_ho.toInt ∧ k4_ho.toInt ≤ 23) ∧ (0 ≤ k4_wy.toInt ∧ k4_wy.toInt ≤ 3) ∧ (0 ≤ k4_bt.toInt ∧ k4_bt.toInt ≤ 1000000) ∧ (0 ≤ k4_ps.toInt ∧ k4_ps.toInt ≤ 200) ∧ (PTI k4_pt) ∧ (k4_2 = lackB v_ro g_w p_1 k4_3.toInt.toNat) ∧ (k4_3.toInt ≤ (v_ro 8).toInt)) (fun (q : (Int32) × (Int32) × (Int32) × (Int32) × (Int64) × (Int64) × (Int32) × (Int32) × (Int32) × (Int32) × (Int32) × (Int32) × (Int32) × (Nat → Int64) × (Nat → Int64) × (Nat → Int32)) => match q with | (k4_3, k4_2, k4_la, k4_bk, k4_va, k4_su, k4_ce, k4_ho, k4_wy, k4_bt, k4_ps, k4_tg, k4_sn, k4_se, k4_re, k4_pt) => Int.toNat (6 - k4_3.toInt)) (0, 0, u_la, u_bk, u_va, u_su, u_ce, u_ho, u_wy, u_bt, u_ps, u_tg, u_sn, v_se, v_re, v_pt) ⟨lv_sub hl [1, 0, 2, 3] rfl, hP, hD, hS, ⟨by decide, by decide⟩, h_u_la, h_u_bk, h_u_ce, h_u_ho, h_u_wy, h_u_bt, h_u_ps, r_pt, lck_0 (by decide +kernel) rfl, by have z9 : (0 : Int32).toInt = 0 := (by decide +kernel); omega⟩ ?_
  rintro ⟨k4_3, k4_2, k4_la, k4_bk, k4_va, k4_su, k4_ce, k4_ho, k4_wy, k4_bt, k4_ps, k4_tg, k4_sn, k4_se, k4_re, k4_pt⟩ ls H locs ⟨hl, hP, hD, hS, (i_1 : 0 ≤ k4_3.toInt ∧ k4_3.toInt ≤ 6), (i_2 : 0 ≤ k4_la.toInt ∧ k4_la.toInt ≤ 4840), (i_3 : 0 ≤ k4_bk.toInt ∧ k4_bk.toInt ≤ 1), (i_4 : 0 ≤ k4_ce.toInt ∧ k4_ce.toInt ≤ 63), (i_5 : 0 ≤ k4_ho.toInt ∧ k4_ho.toInt ≤ 23), (i_6 : 0 ≤ k4_wy.toInt ∧ k4_wy.toInt ≤ 3), (i_7 : 0 ≤ k4_bt.toInt ∧ k4_bt.toInt ≤ 1000000), (i_8 : 0 ≤ k4_ps.toInt ∧ k4_ps.toInt ≤ 200), (i_9 : PTI k4_pt), (i_10 : k4_2 = lackB v_ro g_w p_1 k4_3.toInt.toNat), (i_11 : k4_3.toInt ≤ (v_ro 8).toInt)⟩ ih_4_12
  replace hl : lv_has ls 7 [(2, .int k4_2), (3, .int k4_3), (0, .ref b_o), (1, .int p_1)] := hl
  refine g5_rs [(b_o, (oc12 u_th u_sa b_rf b_ro b_im b_ke u_fd b_tp u_td u_fr u_to u_so u_wo u_fa u_bd u_nc b_nl u_co b_op b_ar u_le b_pi b_pa u_pd u_od b_ws b_hw k4_la b_se b_re k4_bk k4_va k4_su k4_ce k4_ho k4_wy k4_bt k4_ps b_pt k4_tg k4_sn b_ip u_ic b_ah b_be b_me u_wd b_tr b_ld u_st b_wn u_id)), (b_ro, (arI G 5740 v_ro)), (b_se, (arJ G 13 k4_se)), (b_re, (arJ G 400 k4_re)), (b_pt, (arI G 200 k4_pt))] hP hD ?_
  clear hP hD
  intro hP hD
  refine lv_iload_n hx hb dX12_lacking_4 rfl (lv_at hl 1 rfl) ?_
  refine lv_aload_n hx hb dX12_lacking_5 rfl (lv_at hl 2 rfl) ?_
  refine va_get (D := G.1) (ci := 12) (v := .ref b_ro) (C := RX12) (T := TX12) (N := 52) hx hb hts inG_X12 hown hK hP 0 rfl rfl 3 (by decide +kernel) (hts _ fl_X12_13) (fun _ h9 => h9) rfl dX12_lacking_6 ?_
  refine lv_bipush (v := 8) hx hb dX12_lacking_9 (by decide +kernel) ?_
  refine W.eq (g2 := F0 m 11 ls [.int 8, .ref b_ro, .int k4_3]) rfl ?_
  refine va_iald hx hb hK hP 1 0 rfl rfl (i := 8) (by unfold vp_in; decide) dX12_lacking_11 ?_
  refine g5_ti (v := (v_ro 8)) rfl ?_
  have hr_13 : 0 ≤ (v_ro 8).toInt ∧ (v_ro 8).toInt ≤ 6 := mi_8 r_ro
  refine lv_icmp_ge (tgt := 146) hx hb dX12_lacking_12 (by decide +kernel) (fun c_14 => ?_) (fun c_14 => ?_)
  ·
    have i_14 : k4_3.toInt ≥ (v_ro 8).toInt := g5_ge (a := k4_3.toInt) (b := (v_ro 8).toInt) rfl rfl c_14
    refine lv_iload_n hx hb dX12_lacking_146 rfl (lv_at hl 0 rfl) ?_
    exact W.iret (v := k4_2) hx hb hr (fun t ht hW => ⟨⟨k4_2, [(b_o, (oc12 u_th u_sa b_rf b_ro b_im b_ke u_fd b_tp u_td u_fr u_to u_so u_wo u_fa u_bd u_nc b_nl u_co b_op b_ar u_le b_pi b_pa u_pd u_od b_ws b_hw k4_la b_se b_re k4_bk k4_va k4_su k4_ce k4_ho k4_wy k4_bt k4_ps b_pt k4_tg k4_sn b_ip u_ic b_ah b_be b_me u_wd b_tr b_ld u_st b_wn u_id)), (b_ro, (arI G 5740 v_ro)), (b_se, (arJ G 13 k4_se)), (b_re, (arJ G 400 k4_re)), (b_pt, (arI G 200 k4_pt))], rfl, ⟨k4_2, k4_la, k4_bk, k4_va, k4_su, k4_ce, k4_ho, k4_wy, k4_bt, k4_ps, k4_tg, k4_sn, k4_se, k4_re, k4_pt, i_2, i_3, i_4, i_5, i_6, i_7, i_8, i_9, lck_e i_10 (by omega), rfl, rfl⟩, by rw [ht]; exact hP.sub [0, 1, 2, 3, 4] rfl, hD.sub [0, 1, 2, 3, 4] (by decide +kernel) rfl⟩, hS.F ht⟩) hS.2.2 dX12_lacking_147
  ·
    have i_14 : k4_3.toInt < (v_ro 8).toInt := g5_geN (a := k4_3.toInt) (b := (v_ro 8).toInt) rfl rfl c_14
    refine lv_sipush (v := 300) hx hb dX12_lacking_15 (by decide +kernel) ?_
    refine lv_bipush (v := 6) hx hb dX12_lacking_18 (by decide +kernel) ?_
    refine lv_iload_n hx hb dX12_lacking_20 rfl (lv_at hl 1 rfl) ?_
    refine lv_imul hx hb dX12_lacking_21 ?_
    have t_15 : (6 * k4_3).toInt = 6 * k4_3.toInt := g5_imul (a := 6) (b := k4_3.toInt) (by decide +kernel) (by rfl) (by omega) (by omega)
    refine W.eq (g2 := F0 m 22 ls [.int (6 * k4_3), .int 300]) rfl ?_
    refine lv_iadd hx hb dX12_lacking_22 ?_
    have t_16 : (300 + (6 * k4_3)).toInt = 300 + (6 * k4_3).toInt := g5_iadd (a := 300) (b := (6 * k4_3).toInt) (by decide +kernel) (by rfl) (by omega) (by omega)
    refine lv_istore (lv' := [(4, .int (300 + (6 * k4_3))), (2, .int k4_2), (3, .int k4_3), (0, .ref b_o), (1, .int p_1)]) hx hb dX12_lacking_23 hl (by decide +kernel) rfl ?_
    clear hl
    intro ls hl
    refine lv_aload_n hx hb dX12_lacking_25 rfl (lv_at hl 3 rfl) ?_
    refine lv_aload_n hx hb dX12_lacking_26 rfl (lv_at hl 3 rfl) ?_
    refine va_get (D := G.1) (ci := 12) (v := .ref b_ro) (C := RX12) (T := TX12) (N := 52) hx hb hts inG_X12 hown hK hP 0 rfl rfl 3 (by decide +kernel) (hts _ fl_X12_13) (fun _ h9 => h9) rfl dX12_lacking_27 ?_
    refine W.eq (g2 := F0 m 30 ls [.ref b_ro, .ref b_o]) rfl ?_
    refine lv_iload hx hb dX12_lacking_30 (lv_at hl 0 rfl) ?_
    refine va_iald hx hb hK hP 1 0 rfl rfl (i := (300 + (6 * k4_3))) (vp_in_iff.mpr ⟨by omega, by omega⟩) dX12_lacking_32 ?_
    have hv_17 : 0 ≤ (v_ro (300 + (6 * k4_3)).toNatClampNeg).toInt ∧ (v_ro (300 + (6 * k4_3)).toNatClampNeg).toInt ≤ 63 := mi_300_0 r_ro (by have zz := g5_clamp (300 + (6 * k4_3)); omega) (by have zz := g5_clamp (300 + (6 * k4_3)); omega) (by have zz := g5_clamp (300 + (6 * k4_3)); omega)
    have he0 : v_ro (300 + 6 * k4_3.toInt.toNat) = (v_ro (300 + (6 * k4_3)).toNatClampNeg) := congrArg v_ro (by have zz := g5_clamp (300 + (6 * k4_3)); omega)
    refine lv_aload_n hx hb dX12_lacking_33 rfl (lv_at hl 3 rfl) ?_
    refine va_get (D := G.1) (ci := 12) (v := .ref b_ro) (C := RX12) (T := TX12) (N := 52) hx hb hts inG_X12 hown hK hP 0 rfl rfl 3 (by decide +kernel) (hts _ fl_X12_13) (fun _ h9 => h9) rfl dX12_lacking_34 ?_
    refine lv_iload hx hb dX12_lacking_37 (lv_at hl 0 rfl) ?_
    refine W.eq (g2 := F0 m 39 ls [.int (300 + (6 * k4_3)), .ref b_ro, .int (v_ro (300 + (6 * k4_3)).toNatClampNeg), .ref b_o]) rfl ?_
    refine lv_iconst (v := 1) hx hb dX12_lacking_39 (by decide +kernel) ?_
    refine lv_iadd hx hb dX12_lacking_40 ?_
    have t_18 : ((300 + (6 * k4_3)) + 1).toInt = (300 + (6 * k4_3)).toInt + 1 := g5_iadd (a := (300 + (6 * k4_3)).toInt) (b := 1) (by rfl) (by decide +kernel) (by omega) (by omega)
    refine va_iald hx hb hK hP 1 0 rfl rfl (i := ((300 + (6 * k4_3)) + 1)) (vp_in_iff.mpr ⟨by omega, by omega⟩) dX12_lacking_41 ?_
    have hv_19 : 0 ≤ (v_ro ((300 + (6 * k4_3)) + 1).toNatClampNeg).toInt ∧ (v_ro ((300 + (6 * k4_3)) + 1).toNatClampNeg).toInt ≤ 3 := mi_300_1 r_ro (by have zz := g5_clamp ((300 + (6 * k4_3)) + 1); omega) (by have zz := g5_clamp ((300 + (6 * k4_3)) + 1); omega) (by have zz := g5_clamp ((300 + (6 * k4_3)) + 1); omega)
    have he1 : v_ro (300 + 6 * k4_3.toInt.toNat + 1) = (v_ro ((300 + (6 * k4_3)) + 1).toNatClampNeg) := congrArg v_ro (by have zz := g5_clamp ((300 + (6 * k4_3)) + 1); omega)
    refine lv_aload_n hx hb dX12_lacking_42 rfl (lv_at hl 3 rfl) ?_
    refine va_get (D := G.1) (ci := 12) (v := .ref b_ro) (C := RX12) (T := TX12) (N := 52) hx hb hts inG_X12 hown hK hP 0 rfl rfl 3 (by decide +kernel) (hts _ fl_X12_13) (fun _ h9 => h9) rfl dX12_lacking_43 ?_
    refine W.eq (g2 := F0 m 46 ls [.ref b_ro, .int (v_ro ((300 + (6 * k4_3)) + 1).toNatClampNeg), .int (v_ro (300 + (6 * k4_3)).toNatClampNeg), .ref b_o]) rfl ?_
    refine lv_iload hx hb dX12_lacking_46 (lv_at hl 0 rfl) ?_
    refine lv_iconst (v := 2) hx hb dX12_lacking_48 (by decide +kernel) ?_
    refine lv_iadd hx hb dX12_lacking_49 ?_
    have t_20 : ((300 + (6 * k4_3)) + 2).toInt = (300 + (6 * k4_3)).toInt + 2 := g5_iadd (a := (300 + (6 * k4_3)).toInt) (b := 2) (by rfl) (by decide +kernel) (by omega) (by omega)
    refine va_iald hx hb hK hP 1 0 rfl rfl (i := ((300 + (6 * k4_3)) + 2)) (vp_in_iff.mpr ⟨by omega, by omega⟩) dX12_lacking_50 ?_
    have hv_21 : 0 ≤ (v_ro ((300 + (6 * k4_3)) + 2).toNatClampNeg).toInt ∧ (v_ro ((300 + (6 * k4_3)) + 2).toNatClampNeg).toInt ≤ 23 := mi_300_2 r_ro (by have zz := g5_clamp ((300 + (6 * k4_3)) + 2); omega) (by have zz := g5_clamp ((300 + (6 * k4_3)) + 2); omega) (by have zz := g5_clamp ((300 + (6 * k4_3)) + 2); omega)
    have he2 : v_ro (300 + 6 * k4_3.toInt.toNat + 2) = (v_ro ((300 + (6 * k4_3)) + 2).toNatClampNeg) := congrArg v_ro (by have zz := g5_clamp ((300 + (6 * k4_3)) + 2); omega)
    refine lv_iload_n hx hb dX12_lacking_51 rfl (lv_at hl 4 rfl) ?_
    refine W.eq (g2 := F0 m 52 ls [.int p_1, .int (v_ro ((300 + (6 * k4_3)) + 2).toNatClampNeg), .int (v_ro ((300 + (6 * k4_3)) + 1).toNatClampNeg), .int (v_ro (300 + (6 * k4_3)).toNatClampNeg), .ref b_o]) rfl ?_
    obtain ⟨hPc, hDc, hFc⟩ := g5_sub3 (wc := [(b_o, (oc12 u_th u_sa b_rf b_ro b_im b_ke u_fd b_tp u_td u_fr u_to u_so u_wo u_fa u_bd u_nc b_nl u_co b_op b_ar u_le b_pi b_pa u_pd u_od b_ws b_hw k4_la b_se b_re k4_bk k4_va k4_su k4_ce k4_ho k4_wy k4_bt k4_ps b_pt k4_tg k4_sn b_ip u_ic b_ah b_be b_me u_wd b_tr b_ld u_st b_wn u_id)), (b_ro, (arI G 5740 v_ro)), (b_se, (arJ G 13 k4_se)), (b_re, (arJ G 400 k4_re)), (b_pt, (arI G 200 k4_pt))]) hP hD hS hA [0, 1, 2, 3, 4] (by decide +kernel) rfl
    refine va_callv (va_runV (As := [.int (v_ro (300 + (6 * k4_3)).toNatClampNeg), .int (v_ro ((300 + (6 * k4_3)) + 1).toNatClampNeg), .int (v_ro ((300 + (6 * k4_3)) + 2).toNatClampNeg), .int p_1]) (rest := []) ⟨hx, hb, hml, hown, hts⟩ (n_goX l G b_o b_ro b_se b_re b_pt b_rf b_im b_ke b_tp b_nl b_op b_ar b_pi b_pa b_ws b_hw b_ip b_ah b_be b_me b_tr b_ld b_wn H.size u_th u_sa u_fd u_td u_fr u_to u_so u_fa u_bd u_nc u_co u_le u_pd u_od k4_la k4_bk k4_ce k4_ho k4_wy k4_bt k4_ps k4_tg k4_sn u_ic u_wd u_id (v_ro (300 + (6 * k4_3)).toNatClampNeg) (v_ro ((300 + (6 * k4_3)) + 1).toNatClampNeg) (v_ro ((300 + (6 * k4_3)) + 2).toNatClampNeg) p_1 u_wo k4_va k4_su u_st v_ro k4_se k4_re k4_pt g_w h_u_td h_u_fr h_u_to h_u_bd h_u_nc h_u_co h_u_pd i_2 i_3 i_4 i_5 i_6 i_7 i_8 h_u_ic h_u_id ⟨by omega, by omega⟩ ⟨by omega, by omega⟩ ⟨by omega, by omega⟩ (r_ro) (i_9) (e_mf)) (cwV 4 hts gV_X12_401 rfl rfl rfl hv_X12_go ⟨Nat.le_of_ble_eq_true rfl, Nat.le_of_ble_eq_true rfl⟩) (g5_preV hPc hK hDc hN hT hS hFc (ci := 12) (q0 := 0) rfl rfl) rfl rfl hl.1 rfl (lv_room (Nat.le_of_ble_eq_true rfl)) dX12_lacking_52 ⟨Nat.le_of_ble_eq_true rfl, Nat.le_of_ble_eq_true rfl⟩) hS (fun q _ h => hFc q h) hFc (fun u t H locs ht hvm hw hB hz1 hk1 hS => ?_)
    obtain ⟨hP1, hD1⟩ := hB
    have hP1 := g5_ht ht hP1
    obtain ⟨z31, z32, z33, z34, z35, z36, z37, z38, z39, z40, z41, z42, z43, z44, (i_22 : 0 ≤ z31.toInt ∧ z31.toInt ≤ 4840), (i_23 : 0 ≤ z32.toInt ∧ z32.toInt ≤ 1), (i_24 : 0 ≤ z35.toInt ∧ z35.toInt ≤ 63), (i_25 : 0 ≤ z36.toInt ∧ z36.toInt ≤ 23), (i_26 : 0 ≤ z37.toInt ∧ z37.toInt ≤ 3), (i_27 : 0 ≤ z38.toInt ∧ z38.toInt ≤ 1000000), (i_28 : 0 ≤ z39.toInt ∧ z39.toInt ≤ 200), (i_29 : PTI z44), (i_30 : LKR v_ro g_w p_1 (v_ro (300 + (6 * k4_3)).toNatClampNeg) (v_ro ((300 + (6 * k4_3)) + 1).toNatClampNeg) (v_ro ((300 + (6 * k4_3)) + 2).toNatClampNeg) z41 z39 z38 z40 z44), rfl⟩ := hw
    have hJ9 := va_join (wr := []) hP hD [0, 1, 2, 3, 4] [] rfl rfl (by decide +kernel) (by decide +kernel) hk1 hFc hP1 hD1
    clear hP hD hPc hDc hFc ht hvm hz1 hk1 hP1 hD1
    obtain ⟨hP, hD⟩ := hJ9
    refine g5_rs [(b_o, (oc12 u_th u_sa b_rf b_ro b_im b_ke u_fd b_tp u_td u_fr u_to u_so u_wo u_fa u_bd u_nc b_nl u_co b_op b_ar u_le b_pi b_pa u_pd u_od b_ws b_hw z31 b_se b_re z32 z33 z34 z35 z36 z37 z38 z39 b_pt z40 z41 b_ip u_ic b_ah b_be b_me u_wd b_tr b_ld u_st b_wn u_id)), (b_ro, (arI G 5740 v_ro)), (b_se, (arJ G 13 z42)), (b_re, (arJ G 400 z43)), (b_pt, (arI G 200 z44))] hP hD ?_
    clear hP hD
    intro hP hD
    refine lv_iconst (v := 0) hx hb dX12_lacking_55 (by decide +kernel) ?_
    refine lv_istore (lv' := [(5, .int 0), (4, .int (300 + (6 * k4_3))), (2, .int k4_2), (3, .int k4_3), (0, .ref b_o), (1, .int p_1)]) hx hb dX12_lacking_56 hl (by decide +kernel) rfl ?_
    clear hl
    intro ls hl
    refine lv_iconst (v := 0) hx hb dX12_lacking_58 (by decide +kernel) ?_
    refine lv_istore (lv' := [(6, .int 0), (5, .int 0), (4, .int (300 + (6 * k4_3))), (2, .int k4_2), (3, .int k4_3), (0, .ref b_o), (1, .int p_1)]) hx hb dX12_lacking_59 hl (by decide +kernel) rfl ?_
    clear hl
    intro ls hl
    refine g5_loop (α := (Int32) × (Int32)) (fun (q : (Int32) × (Int32)) (ls : Array Slot) (H : Heap) (locs : List Loc) => match q with | (k61_6, k61_5) => lv_has ls 7 [(5, .int k61_5), (6, .int k61_6), (4, .int (300 + (6 * k4_3))), (2, .int k4_2), (3, .int k4_3), (0, .ref b_o), (1, .int p_1)] ∧ va_P G.1 vwCl [(b_o, (oc12 u_th u_sa b_rf b_ro b_im b_ke u_fd b_tp u_td u_fr u_to u_so u_wo u_fa u_bd u_nc b_nl u_co b_op b_ar u_le b_pi b_pa u_pd u_od b_ws b_hw z31 b_se b_re z32 z33 z34 z35 z36 z37 z38 z39 b_pt z40 z41 b_ip u_ic b_ah b_be b_me u_wd b_tr b_ld u_st b_wn u_id)), (b_ro, (arI G 5740 v_ro)), (b_se, (arJ G 13 z42)), (b_re, (arJ G 400 z43)), (b_pt, (arI G 200 z44))] H ∧ va_D A [(b_o, (oc12 u_th u_sa b_rf b_ro b_im b_ke u_fd b_tp u_td u_fr u_to u_so u_wo u_fa u_bd u_nc b_nl u_co b_op b_ar u_le b_pi b_pa u_pd u_od b_ws b_hw z31 b_se b_re z32 z33 z34 z35 z36 z37 z38 z39 b_pt z40 z41 b_ip u_ic b_ah b_be b_me u_wd b_tr b_ld u_st b_wn u_id)), (b_ro, (arI G 5740 v_ro)), (b_se, (arJ G 13 z42)), (b_re, (arJ G 400 z43)), (b_pt, (arI G 200 z44))] ∧ va_S A s.heap H locs ∧ (0 ≤ k61_6.toInt ∧ k61_6.toInt ≤ 200) ∧ (0 ≤ k61_5.toInt ∧ k61_5.toInt ≤ 1) ∧ (k61_6.toInt ≤ z39.toInt) ∧ (PED k61_5.toInt z44 k61_6 (64 * v_ro (300 + 6 * k4_3.toInt.toNat + 4) + v_ro (300 + 6 * k4_3.toInt.toNat + 3)))) (fun (q : (Int32) × (Int32)) => match q with | (k61_6, k61_5) => Int.toNat (200 - k61_6.toInt)) (0, 0) ⟨lv_sub hl [1, 0, 2, 3, 4, 5, 6] rfl, hP, hD, hS, ⟨by decide, by decide⟩, ⟨by decide, by decide⟩, by have z9 : (0 : Int32).toInt = 0 := (by decide +kernel); omega, ped_0 (by decide +kernel) (by decide +kernel)⟩ ?_
    rintro ⟨k61_6, k61_5⟩ ls H locs ⟨hl, hP, hD, hS, (i_45 : 0 ≤ k61_6.toInt ∧ k61_6.toInt ≤ 200), (i_46 : 0 ≤ k61_5.toInt ∧ k61_5.toInt ≤ 1), (i_47 : k61_6.toInt ≤ z39.toInt), (i_48 : PED k61_5.toInt z44 k61_6 (64 * v_ro (300 + 6 * k4_3.toInt.toNat + 4) + v_ro (300 + 6 * k4_3.toInt.toNat + 3)))⟩ ih_61_49
    replace hl : lv_has ls 7 [(5, .int k61_5), (6, .int k61_6), (4, .int (300 + (6 * k4_3))), (2, .int k4_2), (3, .int k4_3), (0, .ref b_o), (1, .int p_1)] := hl
    refine g5_rs [(b_o, (oc12 u_th u_sa b_rf b_ro b_im b_ke u_fd b_tp u_td u_fr u_to u_so u_wo u_fa u_bd u_nc b_nl u_co b_op b_ar u_le b_pi b_pa u_pd u_od b_ws b_hw z31 b_se b_re z32 z33 z34 z35 z36 z37 z38 z39 b_pt z40 z41 b_ip u_ic b_ah b_be b_me u_wd b_tr b_ld u_st b_wn u_id)), (b_ro, (arI G 5740 v_ro)), (b_se, (arJ G 13 z42)), (b_re, (arJ G 400 z43)), (b_pt, (arI G 200 z44))] hP hD ?_
    clear hP hD
    intro hP hD
    refine lv_iload hx hb dX12_lacking_61 (lv_at hl 1 rfl) ?_
    refine lv_aload_n hx hb dX12_lacking_63 rfl (lv_at hl 5 rfl) ?_
    refine va_get (D := G.1) (ci := 12) (v := .int z39) (C := RX12) (T := TX12) (N := 52) hx hb hts inG_X12 hown hK hP 0 rfl rfl 37 (by decide +kernel) (hts _ fl_X12_358) (fun _ h9 => h9) rfl dX12_lacking_64 ?_
    refine lv_icmp_ge (tgt := 116) hx hb dX12_lacking_67 (by decide +kernel) (fun c_50 => ?_) (fun c_50 => ?_)
    ·
      have i_50 : k61_6.toInt ≥ z39.toInt := g5_ge (a := k61_6.toInt) (b := z39.toInt) rfl rfl c_50
      refine lv_iload_n hx hb dX12_lacking_116 rfl (lv_at hl 3 rfl) ?_
      refine lv_iload hx hb dX12_lacking_117 (lv_at hl 0 rfl) ?_
      refine lv_aload_n hx hb dX12_lacking_119 rfl (lv_at hl 5 rfl) ?_
      refine va_get (D := G.1) (ci := 12) (v := .ref b_ro) (C := RX12) (T := TX12) (N := 52) hx hb hts inG_X12 hown hK hP 0 rfl rfl 3 (by decide +kernel) (hts _ fl_X12_13) (fun _ h9 => h9) rfl dX12_lacking_120 ?_
      refine W.eq (g2 := F0 m 123 ls [.ref b_ro, .int k61_5, .int k4_2]) rfl ?_
      refine lv_iload hx hb dX12_lacking_123 (lv_at hl 2 rfl) ?_
      refine lv_iconst (v := 5) hx hb dX12_lacking_125 (by decide +kernel) ?_
      refine lv_iadd hx hb dX12_lacking_126 ?_
      have t_51 : ((300 + (6 * k4_3)) + 5).toInt = (300 + (6 * k4_3)).toInt + 5 := g5_iadd (a := (300 + (6 * k4_3)).toInt) (b := 5) (by rfl) (by decide +kernel) (by omega) (by omega)
      refine va_iald hx hb hK hP 1 0 rfl rfl (i := ((300 + (6 * k4_3)) + 5)) (vp_in_iff.mpr ⟨by omega, by omega⟩) dX12_lacking_127 ?_
      have he5 : v_ro (300 + 6 * k4_3.toInt.toNat + 5) = (v_ro ((300 + (6 * k4_3)) + 5).toNatClampNeg) := congrArg v_ro (by have zz := g5_clamp ((300 + (6 * k4_3)) + 5); omega)
      refine lv_icmp_eq (tgt := 137) hx hb dX12_lacking_128 (by decide +kernel) (fun c_52 => ?_) (fun c_52 => ?_)
      ·
        have i_52 : k61_5.toInt = (v_ro ((300 + (6 * k4_3)) + 5).toNatClampNeg).toInt := g5_eq (a := k61_5.toInt) (b := (v_ro ((300 + (6 * k4_3)) + 5).toNatClampNeg).toInt) rfl rfl c_52
        refine lv_iconst (v := 0) hx hb dX12_lacking_137 (by decide +kernel) ?_
        refine lv_ior hx hb dX12_lacking_138 ?_
        refine g5_ti (v := k4_2) (by simp) ?_
        refine lv_istore_n (lv' := [(2, .int k4_2), (5, .int k61_5), (6, .int k61_6), (4, .int (300 + (6 * k4_3))), (3, .int k4_3), (0, .ref b_o), (1, .int p_1)]) hx hb dX12_lacking_139 rfl hl (by decide +kernel) rfl ?_
        clear hl
        intro ls hl
        refine lv_iinc (v := (k4_3 + 1)) (lv' := [(3, .int (k4_3 + 1)), (2, .int k4_2), (5, .int k61_5), (6, .int k61_6), (4, .int (300 + (6 * k4_3))), (0, .ref b_o), (1, .int p_1)]) hx hb dX12_lacking_140 hl (k := 4) rfl rfl (by decide +kernel) rfl ?_
        clear hl
        intro ls hl
        have t_53 : (k4_3 + 1).toInt = k4_3.toInt + 1 := g5_iadd (a := k4_3.toInt) (b := 1) rfl (by decide +kernel) (by omega) (by omega)
        refine W.eq (g2 := F0 m 143 ls []) rfl ?_
        refine lv_goto (tgt := 4) hx hb dX12_lacking_143 (by decide +kernel) ?_
        exact ih_4_12 ((k4_3 + 1), k4_2, z31, z32, z33, z34, z35, z36, z37, z38, z39, z40, z41, z42, z43, z44) ls H locs (show Int.toNat (6 - (k4_3 + 1).toInt) < Int.toNat (6 - k4_3.toInt) from g_up (show k4_3.toInt < (k4_3 + 1).toInt by omega) (show k4_3.toInt < 6 by omega)) ⟨lv_sub hl [1, 0, 5, 6] rfl, hP, hD, hS, ⟨by omega, by omega⟩, i_22, i_23, i_24, i_25, i_26, i_27, i_28, i_29, lck_S (d := k61_5.toInt) i_10 (by omega) (by omega) he0 he1 he2 rfl rfl he5 i_30 (ped_e i_48 (by omega)) (Or.inl ⟨by omega, rfl⟩), by omega⟩
      ·
        have n_52 : gNe (k61_5.toInt) ((v_ro ((300 + (6 * k4_3)) + 5).toNatClampNeg).toInt) := g5_eqN (a := k61_5.toInt) (b := (v_ro ((300 + (6 * k4_3)) + 5).toNatClampNeg).toInt) rfl rfl c_52
        refine lv_iconst (v := 1) hx hb dX12_lacking_131 (by decide +kernel) ?_
        refine lv_iload_n hx hb dX12_lacking_132 rfl (lv_at hl 4 rfl) ?_
        refine lv_ishl hx hb dX12_lacking_133 ?_
        refine lv_goto (tgt := 138) hx hb dX12_lacking_134 (by decide +kernel) ?_
        refine W.eq (g2 := F0 m 138 ls [.int (1 <<< (k4_3 &&& 31)), .int k4_2]) rfl ?_
        refine lv_ior hx hb dX12_lacking_138 ?_
        refine lv_istore_n (lv' := [(2, .int (k4_2 ||| (1 <<< (k4_3 &&& 31)))), (5, .int k61_5), (6, .int k61_6), (4, .int (300 + (6 * k4_3))), (3, .int k4_3), (0, .ref b_o), (1, .int p_1)]) hx hb dX12_lacking_139 rfl hl (by decide +kernel) rfl ?_
        clear hl
        intro ls hl
        refine lv_iinc (v := (k4_3 + 1)) (lv' := [(3, .int (k4_3 + 1)), (2, .int (k4_2 ||| (1 <<< (k4_3 &&& 31)))), (5, .int k61_5), (6, .int k61_6), (4, .int (300 + (6 * k4_3))), (0, .ref b_o), (1, .int p_1)]) hx hb dX12_lacking_140 hl (k := 4) rfl rfl (by decide +kernel) rfl ?_
        clear hl
        intro ls hl
        have t_54 : (k4_3 + 1).toInt = k4_3.toInt + 1 := g5_iadd (a := k4_3.toInt) (b := 1) rfl (by decide +kernel) (by omega) (by omega)
        refine lv_goto (tgt := 4) hx hb dX12_lacking_143 (by decide +kernel) ?_
        exact ih_4_12 ((k4_3 + 1), (k4_2 ||| (1 <<< (k4_3 &&& 31))), z31, z32, z33, z34, z35, z36, z37, z38, z39, z40, z41, z42, z43, z44) ls H locs (show Int.toNat (6 - (k4_3 + 1).toInt) < Int.toNat (6 - k4_3.toInt) from g_up (show k4_3.toInt < (k4_3 + 1).toInt by omega) (show k4_3.toInt < 6 by omega)) ⟨lv_sub hl [1, 0, 5, 6] rfl, hP, hD, hS, ⟨by omega, by omega⟩, i_22, i_23, i_24, i_25, i_26, i_27, i_28, i_29, lck_S (d := k61_5.toInt) i_10 (by omega) (by omega) he0 he1 he2 rfl rfl he5 i_30 (ped_e i_48 (by omega)) (Or.inr ⟨(by first | omega | (unfold gNe at *; omega)), rfl⟩), by omega⟩
    ·
      have i_50 : k61_6.toInt < z39.toInt := g5_geN (a := k61_6.toInt) (b := z39.toInt) rfl rfl c_50
      refine lv_aload_n hx hb dX12_lacking_70 rfl (lv_at hl 5 rfl) ?_
      refine va_get (D := G.1) (ci := 12) (v := .ref b_pt) (C := RX12) (T := TX12) (N := 52) hx hb hts inG_X12 hown hK hP 0 rfl rfl 38 (by decide +kernel) (hts _ fl_X12_82) (fun _ h9 => h9) rfl dX12_lacking_71 ?_
      refine lv_iload hx hb dX12_lacking_74 (lv_at hl 1 rfl) ?_
      refine va_iald hx hb hK hP 4 0 rfl rfl (i := k61_6) (vp_in_iff.mpr ⟨by omega, by omega⟩) dX12_lacking_76 ?_
      have hr_55 : 0 ≤ (z44 k61_6.toNatClampNeg).toInt ∧ (z44 k61_6.toNatClampNeg).toInt ≤ 1535 := i_29 (k61_6.toNatClampNeg)
      refine W.eq (g2 := F0 m 77 ls [.int (z44 k61_6.toNatClampNeg)]) rfl ?_
      refine lv_bipush (v := 64) hx hb dX12_lacking_77 (by decide +kernel) ?_
      refine lv_aload_n hx hb dX12_lacking_79 rfl (lv_at hl 5 rfl) ?_
      refine va_get (D := G.1) (ci := 12) (v := .ref b_ro) (C := RX12) (T := TX12) (N := 52) hx hb hts inG_X12 hown hK hP 0 rfl rfl 3 (by decide +kernel) (hts _ fl_X12_13) (fun _ h9 => h9) rfl dX12_lacking_80 ?_
      refine lv_iload hx hb dX12_lacking_83 (lv_at hl 2 rfl) ?_
      refine lv_iconst (v := 4) hx hb dX12_lacking_85 (by decide +kernel) ?_
      refine W.eq (g2 := F0 m 86 ls [.int 4, .int (300 + (6 * k4_3)), .ref b_ro, .int 64, .int (z44 k61_6.toNatClampNeg)]) rfl ?_
      refine lv_iadd hx hb dX12_lacking_86 ?_
      have t_56 : ((300 + (6 * k4_3)) + 4).toInt = (300 + (6 * k4_3)).toInt + 4 := g5_iadd (a := (300 + (6 * k4_3)).toInt) (b := 4) (by rfl) (by decide +kernel) (by omega) (by omega)
      refine va_iald hx hb hK hP 1 0 rfl rfl (i := ((300 + (6 * k4_3)) + 4)) (vp_in_iff.mpr ⟨by omega, by omega⟩) dX12_lacking_87 ?_
      have he4 : v_ro (300 + 6 * k4_3.toInt.toNat + 4) = (v_ro ((300 + (6 * k4_3)) + 4).toNatClampNeg) := congrArg v_ro (by have zz := g5_clamp ((300 + (6 * k4_3)) + 4); omega)
      refine lv_imul hx hb dX12_lacking_88 ?_
      refine lv_aload_n hx hb dX12_lacking_89 rfl (lv_at hl 5 rfl) ?_
      refine va_get (D := G.1) (ci := 12) (v := .ref b_ro) (C := RX12) (T := TX12) (N := 52) hx hb hts inG_X12 hown hK hP 0 rfl rfl 3 (by decide +kernel) (hts _ fl_X12_13) (fun _ h9 => h9) rfl dX12_lacking_90 ?_
      refine W.eq (g2 := F0 m 93 ls [.ref b_ro, .int (64 * (v_ro ((300 + (6 * k4_3)) + 4).toNatClampNeg)), .int (z44 k61_6.toNatClampNeg)]) rfl ?_
      refine lv_iload hx hb dX12_lacking_93 (lv_at hl 2 rfl) ?_
      refine lv_iconst (v := 3) hx hb dX12_lacking_95 (by decide +kernel) ?_
      refine lv_iadd hx hb dX12_lacking_96 ?_
      have t_57 : ((300 + (6 * k4_3)) + 3).toInt = (300 + (6 * k4_3)).toInt + 3 := g5_iadd (a := (300 + (6 * k4_3)).toInt) (b := 3) (by rfl) (by decide +kernel) (by omega) (by omega)
      refine va_iald hx hb hK hP 1 0 rfl rfl (i := ((300 + (6 * k4_3)) + 3)) (vp_in_iff.mpr ⟨by omega, by omega⟩) dX12_lacking_97 ?_
      have he3 : v_ro (300 + 6 * k4_3.toInt.toNat + 3) = (v_ro ((300 + (6 * k4_3)) + 3).toNatClampNeg) := congrArg v_ro (by have zz := g5_clamp ((300 + (6 * k4_3)) + 3); omega)
      refine lv_iadd hx hb dX12_lacking_98 ?_
      have hV9 : ((64 * (v_ro ((300 + (6 * k4_3)) + 4).toNatClampNeg)) + (v_ro ((300 + (6 * k4_3)) + 3).toNatClampNeg)) = 64 * v_ro (300 + 6 * k4_3.toInt.toNat + 4) + v_ro (300 + 6 * k4_3.toInt.toNat + 3) := by rw [he4, he3]
      refine W.eq (g2 := F0 m 99 ls [.int ((64 * (v_ro ((300 + (6 * k4_3)) + 4).toNatClampNeg)) + (v_ro ((300 + (6 * k4_3)) + 3).toNatClampNeg)), .int (z44 k61_6.toNatClampNeg)]) rfl ?_
      refine lv_icmp_ne (tgt := 106) hx hb dX12_lacking_99 (by decide +kernel) (fun c_58 => ?_) (fun c_58 => ?_)
      ·
        have n_58 : gNe ((z44 k61_6.toNatClampNeg).toInt) (((64 * (v_ro ((300 + (6 * k4_3)) + 4).toNatClampNeg)) + (v_ro ((300 + (6 * k4_3)) + 3).toNatClampNeg)).toInt) := g5_ne (a := (z44 k61_6.toNatClampNeg).toInt) (b := ((64 * (v_ro ((300 + (6 * k4_3)) + 4).toNatClampNeg)) + (v_ro ((300 + (6 * k4_3)) + 3).toNatClampNeg)).toInt) rfl rfl c_58
        refine lv_iload hx hb dX12_lacking_106 (lv_at hl 0 rfl) ?_
        refine lv_istore (lv' := [(5, .int k61_5), (6, .int k61_6), (4, .int (300 + (6 * k4_3))), (2, .int k4_2), (3, .int k4_3), (0, .ref b_o), (1, .int p_1)]) hx hb dX12_lacking_108 hl (by decide +kernel) rfl ?_
        clear hl
        intro ls hl
        refine lv_iinc (v := (k61_6 + 1)) (lv' := [(6, .int (k61_6 + 1)), (5, .int k61_5), (4, .int (300 + (6 * k4_3))), (2, .int k4_2), (3, .int k4_3), (0, .ref b_o), (1, .int p_1)]) hx hb dX12_lacking_110 hl (k := 1) rfl rfl (by decide +kernel) rfl ?_
        clear hl
        intro ls hl
        have t_59 : (k61_6 + 1).toInt = k61_6.toInt + 1 := g5_iadd (a := k61_6.toInt) (b := 1) rfl (by decide +kernel) (by omega) (by omega)
        refine lv_goto (tgt := 61) hx hb dX12_lacking_113 (by decide +kernel) ?_
        exact ih_61_49 ((k61_6 + 1), k61_5) ls H locs (show Int.toNat (200 - (k61_6 + 1).toInt) < Int.toNat (200 - k61_6.toInt) from g_up (show k61_6.toInt < (k61_6 + 1).toInt by omega) (show k61_6.toInt < 200 by omega)) ⟨lv_sub hl [1, 0, 2, 3, 4, 5, 6] rfl, hP, hD, hS, ⟨by omega, by omega⟩, i_46, by omega, ped_S i_48 (by omega) (by omega) hV9 (Or.inr ⟨(by first | omega | (unfold gNe at *; omega)), by omega⟩)⟩
      ·
        have i_58 : (z44 k61_6.toNatClampNeg).toInt = ((64 * (v_ro ((300 + (6 * k4_3)) + 4).toNatClampNeg)) + (v_ro ((300 + (6 * k4_3)) + 3).toNatClampNeg)).toInt := g5_neN (a := (z44 k61_6.toNatClampNeg).toInt) (b := ((64 * (v_ro ((300 + (6 * k4_3)) + 4).toNatClampNeg)) + (v_ro ((300 + (6 * k4_3)) + 3).toNatClampNeg)).toInt) rfl rfl c_58
        refine lv_iconst (v := 1) hx hb dX12_lacking_102 (by decide +kernel) ?_
        refine lv_goto (tgt := 108) hx hb dX12_lacking_103 (by decide +kernel) ?_
        refine lv_istore (lv' := [(5, .int 1), (6, .int k61_6), (4, .int (300 + (6 * k4_3))), (2, .int k4_2), (3, .int k4_3), (0, .ref b_o), (1, .int p_1)]) hx hb dX12_lacking_108 hl (by decide +kernel) rfl ?_
        clear hl
        intro ls hl
        refine lv_iinc (v := (k61_6 + 1)) (lv' := [(6, .int (k61_6 + 1)), (5, .int 1), (4, .int (300 + (6 * k4_3))), (2, .int k4_2), (3, .int k4_3), (0, .ref b_o), (1, .int p_1)]) hx hb dX12_lacking_110 hl (k := 1) rfl rfl (by decide +kernel) rfl ?_
        clear hl
        intro ls hl
        have t_60 : (k61_6 + 1).toInt = k61_6.toInt + 1 := g5_iadd (a := k61_6.toInt) (b := 1) rfl (by decide +kernel) (by omega) (by omega)
        refine W.eq (g2 := F0 m 113 ls []) rfl ?_
        refine lv_goto (tgt := 61) hx hb dX12_lacking_113 (by decide +kernel) ?_
        exact ih_61_49 ((k61_6 + 1), 1) ls H locs (show Int.toNat (200 - (k61_6 + 1).toInt) < Int.toNat (200 - k61_6.toInt) from g_up (show k61_6.toInt < (k61_6 + 1).toInt by omega) (show k61_6.toInt < 200 by omega)) ⟨lv_sub hl [1, 0, 2, 3, 4, 5, 6] rfl, hP, hD, hS, ⟨by omega, by omega⟩, ⟨by decide, by decide⟩, by omega, ped_S i_48 (by omega) (by omega) hV9 (Or.inl ⟨by omega, by decide⟩)⟩
set_option maxHeartbeats 4000000 in
set_option maxRecDepth 100000 in
theorem n_areSpotsX (l : Launch) (G : g5_G) (b_o b_ro b_rf b_im b_ke b_tp b_nl b_op b_ar b_pi b_pa b_ws b_hw b_se b_re b_pt b_ip b_ah b_be b_me b_tr b_ld b_wn : Nat) (sz : Nat) (u_th : Int32) (u_sa : Int32) (u_fd : Int32) (u_td : Int32) (u_fr : Int32) (u_to : Int32) (u_so : Int32) (u_fa : Int32) (u_bd : Int32) (u_nc : Int32) (u_co : Int32) (u_le : Int32) (u_pd : Int32) (u_od : Int32) (u_la : Int32) (u_bk : Int32) (u_ce : Int32) (u_ho : Int32) (u_wy : Int32) (u_bt : Int32) (u_ps : Int32) (u_tg : Int32) (u_sn : Int32) (u_ic : Int32) (u_wd : Int32) (u_id : Int32) (p_1 : Int32) (u_wo : Int64) (u_va : Int64) (u_su : Int64) (u_st : Int64) (v_ro : Nat → Int32) (h_u_td : 0 ≤ u_td.toInt ∧ u_td.toInt ≤ 400) (h_u_fr : 0 ≤ u_fr.toInt ∧ u_fr.toInt ≤ 400) (h_u_to : 0 ≤ u_to.toInt ∧ u_to.toInt ≤ 400) (h_u_bd : 0 ≤ u_bd.toInt ∧ u_bd.toInt ≤ 1) (h_u_nc : 0 ≤ u_nc.toInt ∧ u_nc.toInt ≤ 12) (h_u_co : 0 ≤ u_co.toInt ∧ u_co.toInt ≤ 400) (h_u_pd : 0 ≤ u_pd.toInt ∧ u_pd.toInt ≤ 400) (h_u_la : 0 ≤ u_la.toInt ∧ u_la.toInt ≤ 4840) (h_u_bk : 0 ≤ u_bk.toInt ∧ u_bk.toInt ≤ 1) (h_u_ce : 0 ≤ u_ce.toInt ∧ u_ce.toInt ≤ 63) (h_u_ho : 0 ≤ u_ho.toInt ∧ u_ho.toInt ≤ 23) (h_u_wy : 0 ≤ u_wy.toInt ∧ u_wy.toInt ≤ 3) (h_u_bt : 0 ≤ u_bt.toInt ∧ u_bt.toInt ≤ 1000000) (h_u_ps : 0 ≤ u_ps.toInt ∧ u_ps.toInt ≤ 200) (h_u_ic : 0 ≤ u_ic.toInt ∧ u_ic.toInt ≤ 1) (h_u_id : 0 ≤ u_id.toInt ∧ u_id.toInt ≤ 1) (r_ro : MI v_ro) : Met l yX12_areSpots (wsG yX12_areSpots cX12_areSpots 2 (some .boolean)) ({ frames := 1, cells := 0, slots := 0, locals := 25 }) (va_Pc [.ref b_o, .int p_1] (g5_P G [(b_o, (oc12 u_th u_sa b_rf b_ro b_im b_ke u_fd b_tp u_td u_fr u_to u_so u_wo u_fa u_bd u_nc b_nl u_co b_op b_ar u_le b_pi b_pa u_pd u_od b_ws b_hw u_la b_se b_re u_bk u_va u_su u_ce u_ho u_wy u_bt u_ps b_pt u_tg u_sn b_ip u_ic b_ah b_be b_me u_wd b_tr b_ld u_st b_wn u_id)), (b_ro, (arI G 5740 v_ro))] sz)) (va_Qi (fun (r : Int32) (u : va_W) => (∃ (o_r : Int32), (0 ≤ o_r.toInt ∧ o_r.toInt ≤ 1) ∧ ((o_r.toInt = 1 ∧ 0 ≤ p_1.toInt ∧ p_1.toInt < ((1 : Int32) <<< (v_ro 7 &&& 31)).toInt) ∨ (o_r.toInt = 0 ∧ ¬ (0 ≤ p_1.toInt ∧ p_1.toInt < ((1 : Int32) <<< (v_ro 7 &&& 31)).toInt))) ∧ (r = o_r) ∧ (u = [(b_o, (oc12 u_th u_sa b_rf b_ro b_im b_ke u_fd b_tp u_td u_fr u_to u_so u_wo u_fa u_bd u_nc b_nl u_co b_op b_ar u_le b_pi b_pa u_pd u_od b_ws b_hw u_la b_se b_re u_bk u_va u_su u_ce u_ho u_wy u_bt u_ps b_pt u_tg u_sn b_ip u_ic b_ah b_be b_me u_wd b_tr b_ld u_st b_wn u_id)), (b_ro, (arI G 5740 v_ro))]))) (g5_B G (va_A [(b_o, (oc12 u_th u_sa b_rf b_ro b_im b_ke u_fd b_tp u_td u_fr u_to u_so u_wo u_fa u_bd u_nc b_nl u_co b_op b_ar u_le b_pi b_pa u_pd u_od b_ws b_hw u_la b_se b_re u_bk u_va u_su u_ce u_ho u_wy u_bt u_ps b_pt u_tg u_sn b_ip u_ic b_ah b_be b_me u_wd b_tr b_ld u_st b_wn u_id)), (b_ro, (arI G 5740 v_ro))] sz)) (va_A [(b_o, (oc12 u_th u_sa b_rf b_ro b_im b_ke u_fd b_tp u_td u_fr u_to u_so u_wo u_fa u_bd u_nc b_nl u_co b_op b_ar u_le b_pi b_pa u_pd u_od b_ws b_hw u_la b_se b_re u_bk u_va u_su u_ce u_ho u_wy u_bt u_ps b_pt u_tg u_sn b_ip u_ic b_ah b_be b_me u_wd b_tr b_ld u_st b_wn u_id)), (b_ro, (arI G 5740 v_ro))] sz)) 0 0 (va_A [(b_o, (oc12 u_th u_sa b_rf b_ro b_im b_ke u_fd b_tp u_td u_fr u_to u_so u_wo u_fa u_bd u_nc b_nl u_co b_op b_ar u_le b_pi b_pa u_pd u_od b_ws b_hw u_la b_se b_re u_bk u_va u_su u_ce u_ho u_wy u_bt u_ps b_pt u_tg u_sn b_ip u_ic b_ah b_be b_me u_wd b_tr b_ld u_st b_wn u_id)), (b_ro, (arI G 5740 v_ro))] sz) := by
  refine Met.ofW (cc := cX12_areSpots) (maxL := 2) (ret := (some .boolean)) (by decide +kernel) rfl ?_
  intro p e s m args below meth c s₁ B hml hv
  obtain ⟨rfl, hsz, hP, hK, hD0, hN, hT⟩ := hv
  have hx := B.exec
  have hb := B.bytes
  have hr := B.returns
  have hts : ∀ w ∈ tblG, w.before _ s = true := fun w h => atoms_spec (ws := (wsG yX12_areSpots cX12_areSpots 2 (some .boolean))) B.pre w (List.mem_cons_of_mem _ h)
  have hown : s.vm.findClass RX12 = some m.cls := findClass_of_methodNamed B.named
  have hlocks := B.notSynchronized
  subst hsz
  have hD := hD0.self (sz := s.heap.size)
  generalize hAe : va_A [(b_o, (oc12 u_th u_sa b_rf b_ro b_im b_ke u_fd b_tp u_td u_fr u_to u_so u_wo u_fa u_bd u_nc b_nl u_co b_op b_ar u_le b_pi b_pa u_pd u_od b_ws b_hw u_la b_se b_re u_bk u_va u_su u_ce u_ho u_wy u_bt u_ps b_pt u_tg u_sn b_ip u_ic b_ah b_be b_me u_wd b_tr b_ld u_st b_wn u_id)), (b_ro, (arI G 5740 v_ro))] s.heap.size = A at hD hT ⊢
  have hA : ∀ q : Nat, s.heap.size ≤ q → A q := fun q h => by rw [← hAe]; exact Or.inr h
  have hS : va_S A s.heap s.heap [] := va_S.rf
  replace hP : va_P G.1 vwCl [(b_o, (oc12 u_th u_sa b_rf b_ro b_im b_ke u_fd b_tp u_td u_fr u_to u_so u_wo u_fa u_bd u_nc b_nl u_co b_op b_ar u_le b_pi b_pa u_pd u_od b_ws b_hw u_la b_se b_re u_bk u_va u_su u_ce u_ho u_wy u_bt u_ps b_pt u_tg u_sn b_ip u_ic b_ah b_be b_me u_wd b_tr b_ld u_st b_wn u_id)), (b_ro, (arI G 5740 v_ro))] s.heap := hP
  have hl := lv_entry ([.ref b_o, .int p_1]) (n := 2) (Nat.le_of_ble_eq_true rfl)
  rw [lg_entry_eq]
  generalize (lg_sl ([.ref b_o, .int p_1]) ++ List.replicate (2 - (lg_sl ([.ref b_o, .int p_1])).length) Slot.unset).toArray = ls at hl ⊢
  replace hl : lv_has ls 2 [(0, .ref b_o), (1, .int p_1)] := hl
  refine lv_iload_n hx hb dX12_areSpots_0 rfl (lv_at hl 1 rfl) ?_
  refine lv_i2l (v := p_1.toInt64) hx hb dX12_areSpots_1 rfl ?_
  refine lv_lconst (v := 0) hx hb dX12_areSpots_2 (by decide +kernel) ?_
  refine lv_iconst (v := 1) hx hb dX12_areSpots_3 (by decide +kernel) ?_
  refine W.eq (g2 := F0 m 4 ls [.int 1, .long 0, .long p_1.toInt64]) rfl ?_
  refine lv_aload_n hx hb dX12_areSpots_4 rfl (lv_at hl 0 rfl) ?_
  refine va_get (D := G.1) (ci := 12) (v := .ref b_ro) (C := RX12) (T := TX12) (N := 52) hx hb hts inG_X12 hown hK hP 0 rfl rfl 3 (by decide +kernel) (hts _ fl_X12_13) (fun _ h9 => h9) rfl dX12_areSpots_5 ?_
  refine lv_bipush (v := 7) hx hb dX12_areSpots_8 (by decide +kernel) ?_
  refine va_iald hx hb hK hP 1 0 rfl rfl (i := 7) (by unfold vp_in; decide) dX12_areSpots_10 ?_
  refine g5_ti (v := (v_ro 7)) rfl ?_
  have hr_1 : 0 ≤ (v_ro 7).toInt ∧ (v_ro 7).toInt ≤ 8 := mi_7 r_ro
  refine lv_ishl hx hb dX12_areSpots_11 ?_
  have hm7 := mi_7 r_ro
  have hs_2 := g_shl8 (e := (v_ro 7)) (by omega) (by omega)
  refine W.eq (g2 := F0 m 12 ls [.int (1 <<< ((v_ro 7) &&& 31)), .long 0, .long p_1.toInt64]) rfl ?_
  refine lv_i2l (v := (1 <<< ((v_ro 7) &&& 31)).toInt64) hx hb dX12_areSpots_12 rfl ?_
  refine lv_lconst (v := 1) hx hb dX12_areSpots_13 (by decide +kernel) ?_
  refine lv_lsub hx hb dX12_areSpots_14 ?_
  obtain ⟨hPc, hDc, hFc⟩ := g5_sub3 (wc := []) hP hD hS hA [] (by decide +kernel) rfl
  refine va_calli (va_runS (As := [.long p_1.toInt64, .long 0, .long (((1 <<< ((v_ro 7) &&& 31)).toInt64) - 1)]) (rest := []) ⟨hx, hb, hml, hown, hts⟩ (n_in_n l G s.heap.size p_1 (1 <<< ((v_ro 7) &&& 31)) ⟨by omega, by omega⟩) (va_cwS 3 hts gS_X12_121 rfl rfl rfl hs_X12_in ⟨Nat.le_of_ble_eq_true rfl, Nat.le_of_ble_eq_true rfl⟩) (g5_preS hPc hK hDc hN hT hS hFc) rfl rfl hl.1 rfl (lv_room (Nat.le_of_ble_eq_true rfl)) dX12_areSpots_15 ⟨Nat.le_of_ble_eq_true rfl, Nat.le_of_ble_eq_true rfl⟩) hS (fun q _ h => hFc q h) hFc (fun r u t H locs ht hvm hw hB hz1 hk1 hS => ?_)
  obtain ⟨hP1, hD1⟩ := hB
  have hP1 := g5_ht ht hP1
  rcases hw with ⟨(i_3 : p_1.toInt < 0 ∨ (1 <<< ((v_ro 7) &&& 31)).toInt ≤ p_1.toInt), rfl, rfl⟩ | ⟨(i_4 : 0 ≤ p_1.toInt ∧ p_1.toInt < (1 <<< ((v_ro 7) &&& 31)).toInt), rfl, rfl⟩
  ·
    have hJ9 := g5_same hP hk1
    clear hP hPc hDc hFc ht hvm hz1 hk1 hP1 hD1
    have hP := hJ9
    clear hJ9
    exact W.zret (v := 0) hx hb hr rfl (fun t ht hW => ⟨⟨0, [(b_o, (oc12 u_th u_sa b_rf b_ro b_im b_ke u_fd b_tp u_td u_fr u_to u_so u_wo u_fa u_bd u_nc b_nl u_co b_op b_ar u_le b_pi b_pa u_pd u_od b_ws b_hw u_la b_se b_re u_bk u_va u_su u_ce u_ho u_wy u_bt u_ps b_pt u_tg u_sn b_ip u_ic b_ah b_be b_me u_wd b_tr b_ld u_st b_wn u_id)), (b_ro, (arI G 5740 v_ro))], rfl, ⟨0, ⟨by have zc_o_r : (0 : Int32).toInt = 0 := (by decide +kernel); omega, by have zc_o_r : (0 : Int32).toInt = 0 := (by decide +kernel); omega⟩, Or.inr ⟨by decide, fun q9 => by omega⟩, rfl, rfl⟩, by rw [ht]; exact hP.sub [0, 1] rfl, hD.sub [0, 1] (by decide +kernel) rfl⟩, hS.F ht⟩) hS.2.2 dX12_areSpots_18
  ·
    have hJ9 := g5_same hP hk1
    clear hP hPc hDc hFc ht hvm hz1 hk1 hP1 hD1
    have hP := hJ9
    clear hJ9
    exact W.zret (v := 1) hx hb hr rfl (fun t ht hW => ⟨⟨1, [(b_o, (oc12 u_th u_sa b_rf b_ro b_im b_ke u_fd b_tp u_td u_fr u_to u_so u_wo u_fa u_bd u_nc b_nl u_co b_op b_ar u_le b_pi b_pa u_pd u_od b_ws b_hw u_la b_se b_re u_bk u_va u_su u_ce u_ho u_wy u_bt u_ps b_pt u_tg u_sn b_ip u_ic b_ah b_be b_me u_wd b_tr b_ld u_st b_wn u_id)), (b_ro, (arI G 5740 v_ro))], rfl, ⟨1, ⟨by have zc_o_r : (1 : Int32).toInt = 1 := (by decide +kernel); omega, by have zc_o_r : (1 : Int32).toInt = 1 := (by decide +kernel); omega⟩, Or.inl ⟨by decide, by omega, by omega⟩, rfl, rfl⟩, by rw [ht]; exact hP.sub [0, 1] rfl, hD.sub [0, 1] (by decide +kernel) rfl⟩, hS.F ht⟩) hS.2.2 dX12_areSpots_18
set_option maxHeartbeats 4000000 in
set_option maxRecDepth 100000 in
theorem n_lacksX (l : Launch) (G : g5_G) (b_o b_ro b_se b_re b_pt b_rf b_im b_ke b_tp b_nl b_op b_ar b_pi b_pa b_ws b_hw b_ip b_ah b_be b_me b_tr b_ld b_wn : Nat) (sz : Nat) (u_th : Int32) (u_sa : Int32) (u_fd : Int32) (u_td : Int32) (u_fr : Int32) (u_to : Int32) (u_so : Int32) (u_fa : Int32) (u_bd : Int32) (u_nc : Int32) (u_co : Int32) (u_le : Int32) (u_pd : Int32) (u_od : Int32) (u_la : Int32) (u_bk : Int32) (u_ce : Int32) (u_ho : Int32) (u_wy : Int32) (u_bt : Int32) (u_ps : Int32) (u_tg : Int32) (u_sn : Int32) (u_ic : Int32) (u_wd : Int32) (u_id : Int32) (p_1 : Int32) (u_wo : Int64) (u_va : Int64) (u_su : Int64) (u_st : Int64) (v_ro : Nat → Int32) (v_se : Nat → Int64) (v_re : Nat → Int64) (v_pt : Nat → Int32) (g_w : Option (List CLT)) (h_u_td : 0 ≤ u_td.toInt ∧ u_td.toInt ≤ 400) (h_u_fr : 0 ≤ u_fr.toInt ∧ u_fr.toInt ≤ 400) (h_u_to : 0 ≤ u_to.toInt ∧ u_to.toInt ≤ 400) (h_u_bd : 0 ≤ u_bd.toInt ∧ u_bd.toInt ≤ 1) (h_u_nc : 0 ≤ u_nc.toInt ∧ u_nc.toInt ≤ 12) (h_u_co : 0 ≤ u_co.toInt ∧ u_co.toInt ≤ 400) (h_u_pd : 0 ≤ u_pd.toInt ∧ u_pd.toInt ≤ 400) (h_u_la : 0 ≤ u_la.toInt ∧ u_la.toInt ≤ 4840) (h_u_bk : 0 ≤ u_bk.toInt ∧ u_bk.toInt ≤ 1) (h_u_ce : 0 ≤ u_ce.toInt ∧ u_ce.toInt ≤ 63) (h_u_ho : 0 ≤ u_ho.toInt ∧ u_ho.toInt ≤ 23) (h_u_wy : 0 ≤ u_wy.toInt ∧ u_wy.toInt ≤ 3) (h_u_bt : 0 ≤ u_bt.toInt ∧ u_bt.toInt ≤ 1000000) (h_u_ps : 0 ≤ u_ps.toInt ∧ u_ps.toInt ≤ 200) (h_u_ic : 0 ≤ u_ic.toInt ∧ u_ic.toInt ≤ 1) (h_u_id : 0 ≤ u_id.toInt ∧ u_id.toInt ≤ 1) (r_ro : MI v_ro) (r_pt : PTI v_pt) (e_mf : MLF v_ro g_w) : Met l yX12_lacks (wsG yX12_lacks cX12_lacks 2 (some .int)) ({ frames := 8, cells := 0, slots := 0, locals := 202 }) (va_Pc [.ref b_o, .int p_1] (g5_P G [(b_o, (oc12 u_th u_sa b_rf b_ro b_im b_ke u_fd b_tp u_td u_fr u_to u_so u_wo u_fa u_bd u_nc b_nl u_co b_op b_ar u_le b_pi b_pa u_pd u_od b_ws b_hw u_la b_se b_re u_bk u_va u_su u_ce u_ho u_wy u_bt u_ps b_pt u_tg u_sn b_ip u_ic b_ah b_be b_me u_wd b_tr b_ld u_st b_wn u_id)), (b_ro, (arI G 5740 v_ro)), (b_se, (arJ G 13 v_se)), (b_re, (arJ G 400 v_re)), (b_pt, (arI G 200 v_pt))] sz)) (va_Qi (fun (r : Int32) (u : va_W) => (∃ (o_r : Int32) (o_th : Int32) (o_la : Int32) (o_bk : Int32) (o_va : Int64) (o_su : Int64) (o_ce : Int32) (o_ho : Int32) (o_wy : Int32) (o_bt : Int32) (o_ps : Int32) (o_tg : Int32) (o_sn : Int32) (o_se : Nat → Int64) (o_re : Nat → Int64) (o_pt : Nat → Int32), (0 ≤ o_la.toInt ∧ o_la.toInt ≤ 4840) ∧ (0 ≤ o_bk.toInt ∧ o_bk.toInt ≤ 1) ∧ (0 ≤ o_ce.toInt ∧ o_ce.toInt ≤ 63) ∧ (0 ≤ o_ho.toInt ∧ o_ho.toInt ≤ 23) ∧ (0 ≤ o_wy.toInt ∧ o_wy.toInt ≤ 3) ∧ (0 ≤ o_bt.toInt ∧ o_bt.toInt ≤ 1000000) ∧ (0 ≤ o_ps.toInt ∧ o_ps.toInt ≤ 200) ∧ (PTI o_pt) ∧ (o_r = alacks v_ro g_w p_1) ∧ (r = o_r) ∧ (u = [(b_o, (oc12 o_th u_sa b_rf b_ro b_im b_ke u_fd b_tp u_td u_fr u_to u_so u_wo u_fa u_bd u_nc b_nl u_co b_op b_ar u_le b_pi b_pa u_pd u_od b_ws b_hw o_la b_se b_re o_bk o_va o_su o_ce o_ho o_wy o_bt o_ps b_pt o_tg o_sn b_ip u_ic b_ah b_be b_me u_wd b_tr b_ld u_st b_wn u_id)), (b_ro, (arI G 5740 v_ro)), (b_se, (arJ G 13 o_se)), (b_re, (arJ G 400 o_re)), (b_pt, (arI G 200 o_pt))]))) (g5_B G (va_A [(b_o, (oc12 u_th u_sa b_rf b_ro b_im b_ke u_fd b_tp u_td u_fr u_to u_so u_wo u_fa u_bd u_nc b_nl u_co b_op b_ar u_le b_pi b_pa u_pd u_od b_ws b_hw u_la b_se b_re u_bk u_va u_su u_ce u_ho u_wy u_bt u_ps b_pt u_tg u_sn b_ip u_ic b_ah b_be b_me u_wd b_tr b_ld u_st b_wn u_id)), (b_ro, (arI G 5740 v_ro)), (b_se, (arJ G 13 v_se)), (b_re, (arJ G 400 v_re)), (b_pt, (arI G 200 v_pt))] sz)) (va_A [(b_o, (oc12 u_th u_sa b_rf b_ro b_im b_ke u_fd b_tp u_td u_fr u_to u_so u_wo u_fa u_bd u_nc b_nl u_co b_op b_ar u_le b_pi b_pa u_pd u_od b_ws b_hw u_la b_se b_re u_bk u_va u_su u_ce u_ho u_wy u_bt u_ps b_pt u_tg u_sn b_ip u_ic b_ah b_be b_me u_wd b_tr b_ld u_st b_wn u_id)), (b_ro, (arI G 5740 v_ro)), (b_se, (arJ G 13 v_se)), (b_re, (arJ G 400 v_re)), (b_pt, (arI G 200 v_pt))] sz)) 0 0 (va_A [(b_o, (oc12 u_th u_sa b_rf b_ro b_im b_ke u_fd b_tp u_td u_fr u_to u_so u_wo u_fa u_bd u_nc b_nl u_co b_op b_ar u_le b_pi b_pa u_pd u_od b_ws b_hw u_la b_se b_re u_bk u_va u_su u_ce u_ho u_wy u_bt u_ps b_pt u_tg u_sn b_ip u_ic b_ah b_be b_me u_wd b_tr b_ld u_st b_wn u_id)), (b_ro, (arI G 5740 v_ro)), (b_se, (arJ G 13 v_se)), (b_re, (arJ G 400 v_re)), (b_pt, (arI G 200 v_pt))] sz) := by
  refine Met.ofW (cc := cX12_lacks) (maxL := 2) (ret := (some .int)) (by decide +kernel) rfl ?_
  intro p e s m args below meth c s₁ B hml hv
  obtain ⟨rfl, hsz, hP, hK, hD0, hN, hT⟩ := hv
  have hx := B.exec
  have hb := B.bytes
  have hr := B.returns
  have hts : ∀ w ∈ tblG, w.before _ s = true := fun w h => atoms_spec (ws := (wsG yX12_lacks cX12_lacks 2 (some .int))) B.pre w (List.mem_cons_of_mem _ h)
  have hown : s.vm.findClass RX12 = some m.cls := findClass_of_methodNamed B.named
  have hlocks := B.notSynchronized
  subst hsz
  have hD := hD0.self (sz := s.heap.size)
  generalize hAe : va_A [(b_o, (oc12 u_th u_sa b_rf b_ro b_im b_ke u_fd b_tp u_td u_fr u_to u_so u_wo u_fa u_bd u_nc b_nl u_co b_op b_ar u_le b_pi b_pa u_pd u_od b_ws b_hw u_la b_se b_re u_bk u_va u_su u_ce u_ho u_wy u_bt u_ps b_pt u_tg u_sn b_ip u_ic b_ah b_be b_me u_wd b_tr b_ld u_st b_wn u_id)), (b_ro, (arI G 5740 v_ro)), (b_se, (arJ G 13 v_se)), (b_re, (arJ G 400 v_re)), (b_pt, (arI G 200 v_pt))] s.heap.size = A at hD hT ⊢
  have hA : ∀ q : Nat, s.heap.size ≤ q → A q := fun q h => by rw [← hAe]; exact Or.inr h
  have hS : va_S A s.heap s.heap [] := va_S.rf
  replace hP : va_P G.1 vwCl [(b_o, (oc12 u_th u_sa b_rf b_ro b_im b_ke u_fd b_tp u_td u_fr u_to u_so u_wo u_fa u_bd u_nc b_nl u_co b_op b_ar u_le b_pi b_pa u_pd u_od b_ws b_hw u_la b_se b_re u_bk u_va u_su u_ce u_ho u_wy u_bt u_ps b_pt u_tg u_sn b_ip u_ic b_ah b_be b_me u_wd b_tr b_ld u_st b_wn u_id)), (b_ro, (arI G 5740 v_ro)), (b_se, (arJ G 13 v_se)), (b_re, (arJ G 400 v_re)), (b_pt, (arI G 200 v_pt))] s.heap := hP
  have hl := lv_entry ([.ref b_o, .int p_1]) (n := 2) (Nat.le_of_ble_eq_true rfl)
  rw [lg_entry_eq]
  generalize (lg_sl ([.ref b_o, .int p_1]) ++ List.replicate (2 - (lg_sl ([.ref b_o, .int p_1])).length) Slot.unset).toArray = ls at hl ⊢
  replace hl : lv_has ls 2 [(0, .ref b_o), (1, .int p_1)] := hl
  refine lv_aload_n hx hb dX12_lacks_0 rfl (lv_at hl 0 rfl) ?_
  refine lv_iconst (v := 0) hx hb dX12_lacks_1 (by decide +kernel) ?_
  refine va_put (D := G.1) (ci := 12) (v := .int 0) (ty := .int) (C := RX12) (T := TX12) (N := 52) hx hb hts inG_X12 tyX12 tyX12_ok nmX12 hown hK hP hD hS 0 rfl rfl 0 (by decide +kernel) (hts _ fl_X12_107) (fun _ h9 => h9) rfl (by decide +kernel) rfl rfl (Nat.le_of_ble_eq_true rfl) dX12_lacks_2 ?_
  clear hP hD hS
  intro H locs hP hD hS
  refine g5_rs [(b_o, (oc12 0 u_sa b_rf b_ro b_im b_ke u_fd b_tp u_td u_fr u_to u_so u_wo u_fa u_bd u_nc b_nl u_co b_op b_ar u_le b_pi b_pa u_pd u_od b_ws b_hw u_la b_se b_re u_bk u_va u_su u_ce u_ho u_wy u_bt u_ps b_pt u_tg u_sn b_ip u_ic b_ah b_be b_me u_wd b_tr b_ld u_st b_wn u_id)), (b_ro, (arI G 5740 v_ro)), (b_se, (arJ G 13 v_se)), (b_re, (arJ G 400 v_re)), (b_pt, (arI G 200 v_pt))] hP hD ?_
  clear hP hD
  intro hP hD
  refine lv_aload_n hx hb dX12_lacks_5 rfl (lv_at hl 0 rfl) ?_
  refine W.eq (g2 := F0 m 6 ls [.ref b_o]) rfl ?_
  refine lv_iload_n hx hb dX12_lacks_6 rfl (lv_at hl 1 rfl) ?_
  obtain ⟨hPc, hDc, hFc⟩ := g5_sub3 (wc := [(b_o, (oc12 0 u_sa b_rf b_ro b_im b_ke u_fd b_tp u_td u_fr u_to u_so u_wo u_fa u_bd u_nc b_nl u_co b_op b_ar u_le b_pi b_pa u_pd u_od b_ws b_hw u_la b_se b_re u_bk u_va u_su u_ce u_ho u_wy u_bt u_ps b_pt u_tg u_sn b_ip u_ic b_ah b_be b_me u_wd b_tr b_ld u_st b_wn u_id)), (b_ro, (arI G 5740 v_ro))]) hP hD hS hA [0, 1] (by decide +kernel) rfl
  refine va_calli (va_runV (As := [.int p_1]) (rest := []) ⟨hx, hb, hml, hown, hts⟩ (n_areSpotsX l G b_o b_ro b_rf b_im b_ke b_tp b_nl b_op b_ar b_pi b_pa b_ws b_hw b_se b_re b_pt b_ip b_ah b_be b_me b_tr b_ld b_wn H.size 0 u_sa u_fd u_td u_fr u_to u_so u_fa u_bd u_nc u_co u_le u_pd u_od u_la u_bk u_ce u_ho u_wy u_bt u_ps u_tg u_sn u_ic u_wd u_id p_1 u_wo u_va u_su u_st v_ro h_u_td h_u_fr h_u_to h_u_bd h_u_nc h_u_co h_u_pd h_u_la h_u_bk h_u_ce h_u_ho h_u_wy h_u_bt h_u_ps h_u_ic h_u_id (r_ro)) (cwV 1 hts gV_X12_457 rfl rfl rfl hv_X12_areSpots ⟨Nat.le_of_ble_eq_true rfl, Nat.le_of_ble_eq_true rfl⟩) (g5_preV hPc hK hDc hN hT hS hFc (ci := 12) (q0 := 0) rfl rfl) rfl rfl hl.1 rfl (lv_room (Nat.le_of_ble_eq_true rfl)) dX12_lacks_7 ⟨Nat.le_of_ble_eq_true rfl, Nat.le_of_ble_eq_true rfl⟩) hS (fun q _ h => hFc q h) hFc (fun r u t H locs ht hvm hw hB hz1 hk1 hS => ?_)
  obtain ⟨hP1, hD1⟩ := hB
  have hP1 := g5_ht ht hP1
  obtain ⟨z3, (i_1 : 0 ≤ z3.toInt ∧ z3.toInt ≤ 1), (i_2 : (z3.toInt = 1 ∧ 0 ≤ p_1.toInt ∧ p_1.toInt < ((1 : Int32) <<< (v_ro 7 &&& 31)).toInt) ∨ (z3.toInt = 0 ∧ ¬ (0 ≤ p_1.toInt ∧ p_1.toInt < ((1 : Int32) <<< (v_ro 7 &&& 31)).toInt))), y4, rfl⟩ := hw
  have hJ9 := va_join (wr := [(b_se, (arJ G 13 v_se)), (b_re, (arJ G 400 v_re)), (b_pt, (arI G 200 v_pt))]) hP hD [0, 1] [2, 3, 4] rfl rfl (by decide +kernel) (by decide +kernel) hk1 hFc hP1 hD1
  clear hP hD hPc hDc hFc ht hvm hz1 hk1 hP1 hD1
  obtain ⟨hP, hD⟩ := hJ9
  refine g5_rs [(b_se, (arJ G 13 v_se)), (b_re, (arJ G 400 v_re)), (b_pt, (arI G 200 v_pt)), (b_o, (oc12 0 u_sa b_rf b_ro b_im b_ke u_fd b_tp u_td u_fr u_to u_so u_wo u_fa u_bd u_nc b_nl u_co b_op b_ar u_le b_pi b_pa u_pd u_od b_ws b_hw u_la b_se b_re u_bk u_va u_su u_ce u_ho u_wy u_bt u_ps b_pt u_tg u_sn b_ip u_ic b_ah b_be b_me u_wd b_tr b_ld u_st b_wn u_id)), (b_ro, (arI G 5740 v_ro))] hP hD ?_
  clear hP hD
  intro hP hD
  refine g5_ti (v := z3) y4 ?_
  refine lv_if_eq (tgt := 21) hx hb dX12_lacks_10 (by decide +kernel) (fun c_5 => ?_) (fun c_5 => ?_)
  ·
    have i_5 : z3.toInt = 0 := g5_eq (a := z3.toInt) (b := 0) rfl (by decide +kernel) c_5
    refine lv_iconst (v := (-1)) hx hb dX12_lacks_21 (by decide +kernel) ?_
    exact W.iret (v := (-1)) hx hb hr (fun t ht hW => ⟨⟨(-1), [(b_o, (oc12 0 u_sa b_rf b_ro b_im b_ke u_fd b_tp u_td u_fr u_to u_so u_wo u_fa u_bd u_nc b_nl u_co b_op b_ar u_le b_pi b_pa u_pd u_od b_ws b_hw u_la b_se b_re u_bk u_va u_su u_ce u_ho u_wy u_bt u_ps b_pt u_tg u_sn b_ip u_ic b_ah b_be b_me u_wd b_tr b_ld u_st b_wn u_id)), (b_ro, (arI G 5740 v_ro)), (b_se, (arJ G 13 v_se)), (b_re, (arJ G 400 v_re)), (b_pt, (arI G 200 v_pt))], rfl, ⟨(-1), 0, u_la, u_bk, u_va, u_su, u_ce, u_ho, u_wy, u_bt, u_ps, u_tg, u_sn, v_se, v_re, v_pt, h_u_la, h_u_bk, h_u_ce, h_u_ho, h_u_wy, h_u_bt, h_u_ps, r_pt, lac_n (i_2.elim (fun q8 => absurd q8.1 (by first | omega | (unfold gNe at *; omega))) (fun q8 => q8.2)), rfl, rfl⟩, by rw [ht]; exact hP.sub [3, 4, 0, 1, 2] rfl, hD.sub [3, 4, 0, 1, 2] (by decide +kernel) rfl⟩, hS.F ht⟩) hS.2.2 dX12_lacks_22
  ·
    have n_5 : gNe (z3.toInt) (0) := g5_eqN (a := z3.toInt) (b := 0) rfl (by decide +kernel) c_5
    have i_5 : z3.toInt ≥ 1 := by have z := g5_eqN (a := z3.toInt) (b := 0) (by rfl) (by decide +kernel) c_5; omega
    refine lv_aload_n hx hb dX12_lacks_13 rfl (lv_at hl 0 rfl) ?_
    refine lv_iload_n hx hb dX12_lacks_14 rfl (lv_at hl 1 rfl) ?_
    obtain ⟨hPc, hDc, hFc⟩ := g5_sub3 (wc := [(b_o, (oc12 0 u_sa b_rf b_ro b_im b_ke u_fd b_tp u_td u_fr u_to u_so u_wo u_fa u_bd u_nc b_nl u_co b_op b_ar u_le b_pi b_pa u_pd u_od b_ws b_hw u_la b_se b_re u_bk u_va u_su u_ce u_ho u_wy u_bt u_ps b_pt u_tg u_sn b_ip u_ic b_ah b_be b_me u_wd b_tr b_ld u_st b_wn u_id)), (b_ro, (arI G 5740 v_ro)), (b_se, (arJ G 13 v_se)), (b_re, (arJ G 400 v_re)), (b_pt, (arI G 200 v_pt))]) hP hD hS hA [3, 4, 0, 1, 2] (by decide +kernel) rfl
    refine va_calli (va_runV (As := [.int p_1]) (rest := []) ⟨hx, hb, hml, hown, hts⟩ (n_lackingX l G b_o b_ro b_se b_re b_pt b_rf b_im b_ke b_tp b_nl b_op b_ar b_pi b_pa b_ws b_hw b_ip b_ah b_be b_me b_tr b_ld b_wn H.size 0 u_sa u_fd u_td u_fr u_to u_so u_fa u_bd u_nc u_co u_le u_pd u_od u_la u_bk u_ce u_ho u_wy u_bt u_ps u_tg u_sn u_ic u_wd u_id p_1 u_wo u_va u_su u_st v_ro v_se v_re v_pt g_w h_u_td h_u_fr h_u_to h_u_bd h_u_nc h_u_co h_u_pd h_u_la h_u_bk h_u_ce h_u_ho h_u_wy h_u_bt h_u_ps h_u_ic h_u_id (r_ro) (r_pt) (e_mf)) (cwV 1 hts gV_X12_460 rfl rfl rfl hv_X12_lacking ⟨Nat.le_of_ble_eq_true rfl, Nat.le_of_ble_eq_true rfl⟩) (g5_preV hPc hK hDc hN hT hS hFc (ci := 12) (q0 := 0) rfl rfl) rfl rfl hl.1 rfl (lv_room (Nat.le_of_ble_eq_true rfl)) dX12_lacks_15 ⟨Nat.le_of_ble_eq_true rfl, Nat.le_of_ble_eq_true rfl⟩) hS (fun q _ h => hFc q h) hFc (fun r u t H locs ht hvm hw hB hz1 hk1 hS => ?_)
    obtain ⟨hP1, hD1⟩ := hB
    have hP1 := g5_ht ht hP1
    obtain ⟨z15, z16, z17, z18, z19, z20, z21, z22, z23, z24, z25, z26, z27, z28, z29, (i_6 : 0 ≤ z16.toInt ∧ z16.toInt ≤ 4840), (i_7 : 0 ≤ z17.toInt ∧ z17.toInt ≤ 1), (i_8 : 0 ≤ z20.toInt ∧ z20.toInt ≤ 63), (i_9 : 0 ≤ z21.toInt ∧ z21.toInt ≤ 23), (i_10 : 0 ≤ z22.toInt ∧ z22.toInt ≤ 3), (i_11 : 0 ≤ z23.toInt ∧ z23.toInt ≤ 1000000), (i_12 : 0 ≤ z24.toInt ∧ z24.toInt ≤ 200), (i_13 : PTI z29), (i_14 : z15 = lackF v_ro g_w p_1), y30, rfl⟩ := hw
    have hJ9 := va_join (wr := []) hP hD [3, 4, 0, 1, 2] [] rfl rfl (by decide +kernel) (by decide +kernel) hk1 hFc hP1 hD1
    clear hP hD hPc hDc hFc ht hvm hz1 hk1 hP1 hD1
    obtain ⟨hP, hD⟩ := hJ9
    refine g5_rs [(b_o, (oc12 0 u_sa b_rf b_ro b_im b_ke u_fd b_tp u_td u_fr u_to u_so u_wo u_fa u_bd u_nc b_nl u_co b_op b_ar u_le b_pi b_pa u_pd u_od b_ws b_hw z16 b_se b_re z17 z18 z19 z20 z21 z22 z23 z24 b_pt z25 z26 b_ip u_ic b_ah b_be b_me u_wd b_tr b_ld u_st b_wn u_id)), (b_ro, (arI G 5740 v_ro)), (b_se, (arJ G 13 z27)), (b_re, (arJ G 400 z28)), (b_pt, (arI G 200 z29))] hP hD ?_
    clear hP hD
    intro hP hD
    refine g5_ti (v := z15) y30 ?_
    refine lv_goto (tgt := 22) hx hb dX12_lacks_18 (by decide +kernel) ?_
    refine W.eq (g2 := F0 m 22 ls [.int z15]) rfl ?_
    exact W.iret (v := z15) hx hb hr (fun t ht hW => ⟨⟨z15, [(b_o, (oc12 0 u_sa b_rf b_ro b_im b_ke u_fd b_tp u_td u_fr u_to u_so u_wo u_fa u_bd u_nc b_nl u_co b_op b_ar u_le b_pi b_pa u_pd u_od b_ws b_hw z16 b_se b_re z17 z18 z19 z20 z21 z22 z23 z24 b_pt z25 z26 b_ip u_ic b_ah b_be b_me u_wd b_tr b_ld u_st b_wn u_id)), (b_ro, (arI G 5740 v_ro)), (b_se, (arJ G 13 z27)), (b_re, (arJ G 400 z28)), (b_pt, (arI G 200 z29))], rfl, ⟨z15, 0, z16, z17, z18, z19, z20, z21, z22, z23, z24, z25, z26, z27, z28, z29, i_6, i_7, i_8, i_9, i_10, i_11, i_12, i_13, lac_y (i_2.elim (fun q8 => q8.2) (fun q8 => absurd q8.1 (by first | omega | (unfold gNe at *; omega)))) i_14, rfl, rfl⟩, by rw [ht]; exact hP.sub [0, 1, 2, 3, 4] rfl, hD.sub [0, 1, 2, 3, 4] (by decide +kernel) rfl⟩, hS.F ht⟩) hS.2.2 dX12_lacks_22
/-! worlds in any order; laws in a pool -/
theorem va_P.perm {D : va_G} {cl : List vw_C} {ws ws' : va_W} {H : Heap} (h : va_P D cl ws H) (p : ws.Perm ws') : va_P D cl ws' H := by
  intro k q hk
  obtain ⟨i, hi⟩ := List.getElem?_of_mem (p.mem_iff.mpr (List.mem_of_getElem? hk))
  exact h i q hi
theorem va_D.nd {A : Nat → Prop} {ws : va_W} (h : va_D A ws) : (ws.map Prod.fst).Nodup := by
  rw [List.nodup_iff_pairwise_ne, List.pairwise_iff_getElem]
  intro i j hi hj hij e
  rw [List.length_map] at hi hj
  rw [List.getElem_map, List.getElem_map] at e
  have z := h.1 i j ws[i] ws[j] (List.getElem?_eq_getElem hi) (List.getElem?_eq_getElem hj) e
  omega
theorem va_D.ofNd {A : Nat → Prop} {ws : va_W} (h1 : (ws.map Prod.fst).Nodup) (h2 : ∀ q ∈ ws, A q.1) : va_D A ws := by
  refine ⟨fun i j p q hi hj e => ?_, fun k q hk => h2 q (List.mem_of_getElem? hk)⟩
  rw [List.nodup_iff_pairwise_ne, List.pairwise_iff_getElem] at h1
  obtain ⟨li, ei⟩ := List.getElem?_eq_some_iff.mp hi
  obtain ⟨lj, ej⟩ := List.getElem?_eq_some_iff.mp hj
  have li2 : i < (ws.map Prod.fst).length := by rw [List.length_map]; exact li
  have lj2 : j < (ws.map Prod.fst).length := by rw [List.length_map]; exact lj
  have e2 : (ws.map Prod.fst)[i] = (ws.map Prod.fst)[j] := by rw [List.getElem_map, List.getElem_map, ei, ej]; exact e
  rcases Nat.lt_trichotomy i j with z | z | z
  · exact absurd e2 (h1 i j li2 lj2 z)
  · exact z
  · exact absurd e2.symm (h1 j i lj2 li2 z)
theorem va_D.perm {A : Nat → Prop} {ws ws' : va_W} (h : va_D A ws) (p : ws.Perm ws') : va_D A ws' :=
  va_D.ofNd ((p.map Prod.fst).nodup h.nd) (fun q hq => by
    obtain ⟨i, hi⟩ := List.getElem?_of_mem (p.mem_iff.mpr hq)
    exact h.2 i q hi)
theorem va_P.fst {D : va_G} {cl : List vw_C} {a b : va_W} {H : Heap} (h : va_P D cl (a ++ b) H) : va_P D cl a H :=
  fun k q hk => h k q (by rw [List.getElem?_append_left (List.getElem?_eq_some_iff.mp hk).1]; exact hk)
theorem va_D.fst {A : Nat → Prop} {a b : va_W} (h : va_D A (a ++ b)) : va_D A a :=
  ⟨fun i j p q hi hj e => h.1 i j p q (by rw [List.getElem?_append_left (List.getElem?_eq_some_iff.mp hi).1]; exact hi) (by rw [List.getElem?_append_left (List.getElem?_eq_some_iff.mp hj).1]; exact hj) e, fun k q hk => h.2 k q (by rw [List.getElem?_append_left (List.getElem?_eq_some_iff.mp hk).1]; exact hk)⟩
/-- a law: its addresses, its numbers, its rows -/
abbrev LR : Type := (Nat × Nat × Nat × Nat) × (Int32 × Nat × Nat × Nat) × ((Nat → Int32) × (Nat → Int32) × (Nat → Int32))
def lcell (G : g5_G) (r : LR) : va_W := [(r.1.1, .inr (3, [.int r.2.1.1, .ref r.1.2.1, .ref r.1.2.2.1, .ref r.1.2.2.2])), (r.1.2.2.1, .inl (G.2 0, r.2.1.2.2.1, .inl r.2.2.2.1)), (r.1.2.2.2, .inl (G.2 0, r.2.1.2.2.2, .inl r.2.2.2.2)), (r.1.2.1, .inl (G.2 0, r.2.1.2.1, .inl r.2.2.1))]
def lok (r : LR) : Prop := (0 ≤ r.2.1.1.toInt ∧ r.2.1.1.toInt ≤ 12) ∧ r.2.1.2.2.2 ≤ 400 ∧ (∀ j : Nat, j < r.2.1.2.2.1 → 0 ≤ (r.2.2.2.1 j).toInt ∧ (r.2.2.2.1 j).toInt ≤ (r.2.1.2.2.2 : Int)) ∧ (∀ j : Nat, j < r.2.1.2.2.2 → (r.2.2.2.2 j >>> (12 &&& 31)).toInt = 1 → (r.2.2.2.2 j &&& 4095).toInt < 8) ∧ ((r.2.1.1.toInt : Int) ≤ (r.2.1.2.1 : Int) ∧ (r.2.1.1.toInt + 1 : Int) ≤ (r.2.1.2.2.1 : Int))
def pflat (G : g5_G) (L : List LR) : va_W := L.flatMap (lcell G)
def LOK (L : List LR) : Prop := ∀ r ∈ L, lok r
theorem pool_take {G : g5_G} {a pl : va_W} {pre post : List LR} {r : LR} : (a ++ (pl ++ pflat G (pre ++ r :: post))).Perm ((a ++ lcell G r) ++ (pl ++ (pflat G pre ++ pflat G post))) := by
  have e : pflat G (pre ++ r :: post) = pflat G pre ++ (lcell G r ++ pflat G post) := by
    unfold pflat; rw [List.flatMap_append, List.flatMap_cons]
  rw [e, List.append_assoc]
  refine List.Perm.append_left a ?_
  exact (List.Perm.append_left pl (List.perm_append_comm_assoc (pflat G pre) (lcell G r) (pflat G post))).trans (List.perm_append_comm_assoc pl (lcell G r) (pflat G pre ++ pflat G post))
theorem pool_put {G : g5_G} {a pl : va_W} {L : List LR} {r : LR} : ((a ++ lcell G r) ++ (pl ++ pflat G L)).Perm (a ++ (pl ++ pflat G (r :: L))) := by
  have e : pflat G (r :: L) = lcell G r ++ pflat G L := by
    unfold pflat; rw [List.flatMap_cons]
  rw [e, List.append_assoc]
  exact List.Perm.append_left a (List.perm_append_comm_assoc (lcell G r) pl (pflat G L))
/-- what a house's row of laws refers to -/
def LWS (L : List LR) (f : Nat → Option Nat) (lc fo : Int32) : Prop := (0 ≤ lc.toInt ∧ lc.toInt ≤ 6) ∧ (-1 ≤ fo.toInt ∧ fo.toInt < lc.toInt) ∧ (∀ j v : Nat, j < 6 → f j = some v → ∃ r ∈ L, r.1.1 = v) ∧ (∀ j : Nat, (j : Int) < lc.toInt → ∃ v : Nat, f j = some v)
theorem lws_for {L : List LR} {f : Nat → Option Nat} {lc fo : Int32} (h : LWS L f lc fo) (h0 : 0 ≤ fo.toInt) : ∃ r ∈ L, f fo.toNatClampNeg = some r.1.1 := by
  obtain ⟨a, b, c, d⟩ := h
  have z := g5_clamp fo
  obtain ⟨v, hv⟩ := d fo.toNatClampNeg (by omega)
  obtain ⟨r, hr, e⟩ := c fo.toNatClampNeg v (by omega) hv
  exact ⟨r, hr, by rw [e]; exact hv⟩
theorem lws_force {L : List LR} {f : Nat → Option Nat} {lc fo fo' : Int32} (h : LWS L f lc fo) (e : -1 ≤ fo'.toInt ∧ fo'.toInt < lc.toInt) : LWS L f lc fo' := ⟨h.1, e, h.2.2.1, h.2.2.2⟩
theorem lws_copy {L : List LR} {f g : Nat → Option Nat} {lc fo : Int32} (h : LWS L f lc fo) (e : ∀ j : Nat, j < 6 → g j = f j) : LWS L g lc fo := by
  obtain ⟨a, b, c, d⟩ := h
  exact ⟨a, b, fun j v hj hv => c j v hj (by rw [← e j hj]; exact hv), fun j hj => by rw [e j (by omega)]; exact d j hj⟩
theorem lws_up {L : List LR} {f : Nat → Option Nat} {lc fo : Int32} {r : LR} (h : LWS L f lc fo) : LWS (r :: L) f lc fo := by
  obtain ⟨a, b, c, d⟩ := h
  exact ⟨a, b, fun j v hj hv => by obtain ⟨q, hq, e⟩ := c j v hj hv; exact ⟨q, List.mem_cons_of_mem _ hq, e⟩, d⟩
theorem lws_new {L : List LR} {f : Nat → Option Nat} {lc lc' fo : Int32} {r : LR} (h : LWS L f lc fo) (e : 0 ≤ lc.toInt ∧ lc'.toInt = lc.toInt + 1 ∧ lc'.toInt ≤ 6) : LWS (r :: L) (va_up f lc.toNatClampNeg (some r.1.1)) lc' fo := by
  obtain ⟨a, b, c, d⟩ := lws_up (r := r) h
  have z := g5_clamp lc
  refine ⟨by omega, by omega, fun j v hj hv => ?_, fun j hj => ?_⟩
  · unfold va_up at hv
    by_cases q : j = lc.toNatClampNeg
    · rw [if_pos q] at hv
      exact ⟨r, List.mem_cons_self, by cases hv; rfl⟩
    · rw [if_neg q] at hv
      exact c j v hj hv
  · unfold va_up
    by_cases q : j = lc.toNatClampNeg
    · rw [if_pos q]; exact ⟨_, rfl⟩
    · rw [if_neg q]; exact d j (by omega)
theorem lws_0 {L : List LR} {f : Nat → Option Nat} {lc fo : Int32} (hl : lc.toInt = 0) (hf : fo.toInt = -1) (e : ∀ j : Nat, j < 6 → f j = none) : LWS L f lc fo :=
  ⟨by omega, by omega, fun j v hj hv => (by rw [e j hj] at hv; cases hv), fun j hj => absurd hj (by omega)⟩
/-- a law of the pool, seen by a call that has none of its cells -/
theorem pflat_at {G : g5_G} {L : List LR} {r : LR} (h : r ∈ L) : (r.1.1, (.inr (3, [.int r.2.1.1, .ref r.1.2.1, .ref r.1.2.2.1, .ref r.1.2.2.2]) : va_E)) ∈ pflat G L := by
  unfold pflat
  refine List.mem_flatMap.mpr ⟨r, h, ?_⟩
  unfold lcell
  exact List.mem_cons_self
theorem law_out {G : g5_G} {s : State} {A : Nat → Prop} {X wc pl : va_W} {L : List LR} {r : LR} {H : Heap} (hK : va_K G.1 vwCl (T5 G) s) (hP : va_P G.1 vwCl (X ++ (pl ++ pflat G L)) H) (hD : va_D A (X ++ (pl ++ pflat G L))) (isC : List Nat) (hC : isC.map (fun i => X[i]?) = wc.map some) (hr : r ∈ L) : ∃ cell : Cell, H[r.1.1]? = some cell ∧ cell.vm.isStatics = false ∧ s.vm.findClass "LateGlass$Law" = some cell.cls ∧ ¬ va_A wc H.size r.1.1 := by
  have hm := pflat_at (G := G) hr
  obtain ⟨k0, hk0⟩ := List.getElem?_of_mem (List.mem_append_right X (List.mem_append_right pl hm))
  obtain ⟨k1, hk1⟩ := List.getElem?_of_mem (List.mem_append_right pl hm)
  have hk2 : (X ++ (pl ++ pflat G L))[X.length + k1]? = some (r.1.1, (.inr (3, [.int r.2.1.1, .ref r.1.2.1, .ref r.1.2.2.1, .ref r.1.2.2.2]) : va_E)) := by
    rw [List.getElem?_append_right (by omega), show X.length + k1 - X.length = k1 by omega]; exact hk1
  obtain ⟨cell, h1, h2, h3⟩ := va_recv hK hP (show vwCl[3]? = some (RX3, TX3, 4) from rfl) hk2
  refine ⟨cell, h1, h2, h3, fun h => ?_⟩
  rcases h with ⟨k, e, h⟩ | h
  · obtain ⟨i, h5, h6⟩ := va_in_of isC hC h
    have hi : i < X.length := (List.getElem?_eq_some_iff.mp h6).1
    have h7 : (X ++ (pl ++ pflat G L))[i]? = some (r.1.1, e) := by rw [List.getElem?_append_left hi]; exact h6
    have z := hD.1 _ _ _ _ h7 hk2 rfl
    omega
  · have z := (Array.getElem?_eq_some_iff.mp h1).1
    omega
theorem g5_preVP {G : g5_G} {f : Nat → Option Nat} {s : State} {H : Heap} {locs : List Loc} {A : Nat → Prop} {wc X pl : va_W} {L : List LR} {lc fo : Int32} {b : Nat} {As : List Value} {C : String} {T : u_T} {N ci q0 : Nat} {fs : List Value} (hP : va_P G.1 vwCl wc H) (hK : va_K G.1 vwCl (T5 G) s) (hD : va_D A wc) (hN : g5_N s) (hT : g5_S A s s.heap) (hS : va_S A s.heap H locs) (hF : ∀ q, va_A wc H.size q → A q) (hPX : va_P G.1 vwCl (X ++ (pl ++ pflat G L)) H) (hDX : va_D A (X ++ (pl ++ pflat G L))) (isC : List Nat) (hC : isC.map (fun i => X[i]?) = wc.map some) (hL : LWS L f lc fo) (he : wc[q0]? = some (b, .inr (ci, fs))) (hc : vwCl[ci]? = some (C, T, N)) : PreV s H C b (va_Pc (.ref b :: As) (g5_PL G f wc H.size)) As :=
  ⟨g5_blindL, va_recv hK hP hc he, fun U hU hW => ⟨rfl, ((g5_preV (As := As) hP hK hD hN hT hS hF he hc).2.2 U hU hW).2, fun j v hj e => by
    obtain ⟨r, hr, ev⟩ := hL.2.2.1 j v hj e
    obtain ⟨cell, h1, h2, h3, h4⟩ := law_out hK hPX hDX isC hC hr
    rw [ev] at h1 h4
    rw [hU]
    exact ⟨cell, h1, h2, by rw [hW.alike.findClass]; exact h3, h4⟩⟩⟩
/-! rows copied -/
theorem cpy_at {α : Type} {f g : Nat → α} {n j : Nat} (h : j < n) : va_cpy f g 0 0 n j = f j := by
  unfold va_cpy; rw [if_pos (by omega)]; congr 1; omega
theorem tget_cpy {f g : Nat → Int32} {N : Nat} {n w : Int} (hn : n * w ≤ (N : Int)) (hw : 0 ≤ w) (r c : Int) : tget (va_cpy f g 0 0 N) n w r c = tget f n w r c := by
  unfold tget
  by_cases q : 0 ≤ r ∧ r < n ∧ 0 ≤ c ∧ c < w
  · rw [if_pos q, if_pos q]
    refine cpy_at ?_
    have z : (r + 1) * w ≤ n * w := Int.mul_le_mul_of_nonneg_right (by omega) hw
    have y : (r + 1) * w = r * w + w := by rw [Int.add_mul, Int.one_mul]
    have x : 0 ≤ r * w := Int.mul_nonneg q.1 hw
    omega
  · rw [if_neg q, if_neg q]
theorem gOK_cpy {f g : Nat → Int32} {N : Nat} {n : Int} (h : gOK f n) (hn : n * 5 ≤ (N : Int)) : gOK (va_cpy f g 0 0 N) n := by
  intro r h0 h1
  have z := h r h0 h1
  rw [tget_cpy hn (by omega), tget_cpy hn (by omega), tget_cpy hn (by omega), tget_cpy hn (by omega)]
  exact z
theorem inT_cpy {x : Int64} {f g : Nat → Int32} {N : Nat} {n : Int} (h : inT x f n) (hn : n * 5 ≤ (N : Int)) : inT x (va_cpy f g 0 0 N) n := by
  intro c h0 h1 h2
  obtain ⟨r, a, b, e⟩ := h c h0 h1 h2
  exact ⟨r, a, b, by rw [tget_cpy hn (by omega)]; exact e⟩
theorem s01_cpy {f g : Nat → Int32} {N : Nat} {n : Int} (h : ∀ r : Int, 0 ≤ r → r < n → 0 ≤ (tget f n 4 r (3 : Int32).toInt).toInt ∧ (tget f n 4 r (3 : Int32).toInt).toInt ≤ 1) (hn : n * 4 ≤ (N : Int)) : ∀ r : Int, 0 ≤ r → r < n → 0 ≤ (tget (va_cpy f g 0 0 N) n 4 r (3 : Int32).toInt).toInt ∧ (tget (va_cpy f g 0 0 N) n 4 r (3 : Int32).toInt).toInt ≤ 1 := by
  intro r h0 h1
  rw [tget_cpy hn (by omega)]; exact h r h0 h1
theorem s5_cpy {f g : Nat → Int32} {N : Nat} {n : Int} (h : snS f n n.toNat ≤ 5) (hn : n * 4 ≤ (N : Int)) : snS (va_cpy f g 0 0 N) n n.toNat ≤ 5 := by
  rw [sg_sn (g := va_cpy f g 0 0 N) (f := f) (m := n) (n := n) n.toNat (fun j hj => tget_cpy hn (by omega) _ _)]; exact h

theorem g5_a63 (x : Int32) : 0 ≤ (x &&& 63).toInt ∧ (x &&& 63).toInt ≤ 63 := by
  have h2 : (x &&& 63).toBitVec.toNat = x.toBitVec.toNat % 2 ^ 6 := by
    rw [Int32.toBitVec_and, BitVec.toNat_and, show (63 : Int32).toBitVec.toNat = 2 ^ 6 - 1 from by decide, Nat.and_two_pow_sub_one_eq_mod]
  have h3 : (x &&& 63).toInt = ((x &&& 63).toBitVec.toNat : Int) := by
    show (x &&& 63).toBitVec.toInt = _
    rw [BitVec.toInt_eq_toNat_cond, if_pos]
    rw [h2]; omega
  rw [h3, h2]; omega
theorem g5_len {n : Nat} (h : n ≤ 3584) : (Int32.ofNat n).toInt = (n : Int) := by
  rw [Int32.toInt_ofNat']; exact g5_bm (by omega) (by omega)
theorem gOK_0 {f : Nat → Int32} {n : Int} (h : n = 0) : gOK f n := fun r h0 h1 => absurd h1 (by omega)
theorem s01_0 {f : Nat → Int32} {n : Int} (h : n = 0) : ∀ r : Int, 0 ≤ r → r < n → 0 ≤ (tget f n 4 r (3 : Int32).toInt).toInt ∧ (tget f n 4 r (3 : Int32).toInt).toInt ≤ 1 := fun r h0 h1 => absurd h1 (by omega)
theorem s5_0 {f : Nat → Int32} {n : Int} (h : n = 0) : snS f n n.toNat ≤ 5 := by
  subst h; exact (by decide : (0 : Int) ≤ 5)
theorem toki_0 {nm : Nat → Int32} : TOKI (fun _ => 0) nm := fun j h => absurd (show (0 : Int32) = 300 from h) (by decide)
theorem mi_start : MI (upd (upd (upd (fun _ => 0) 3 (-1)) 4 1000) 6 (-1)) := by
  have z0 : (0 : Int32).toInt = 0 := by decide
  have z1 : (-1 : Int32).toInt = -1 := by decide
  have u : ∀ j : Nat, j ≠ 3 → j ≠ 4 → j ≠ 6 → upd (upd (upd (fun _ => (0 : Int32)) 3 (-1)) 4 1000) 6 (-1) j = 0 := fun j h3 h4 h6 => by rw [upd_ne h6, upd_ne h4, upd_ne h3]
  have u3 : upd (upd (upd (fun _ => (0 : Int32)) 3 (-1)) 4 1000) 6 (-1) 3 = -1 := by rw [upd_ne (by omega), upd_ne (by omega), upd_eq]
  have u6 : upd (upd (upd (fun _ => (0 : Int32)) 3 (-1)) 4 1000) 6 (-1) 6 = -1 := upd_eq
  refine ⟨fun j => ?_, ?_, ?_, fun l hl => ?_⟩
  · by_cases q4 : j = 4
    · subst q4
      unfold rOK
      refine ⟨?_, ?_, ?_, ?_, ?_, ?_, ?_, ?_, ?_, ?_, ?_, ?_, ?_, ?_, ?_, ?_, ?_, ?_, ?_, ?_, ?_, ?_, ?_⟩ <;> (intros; omega)
    · by_cases q3 : j = 3
      · subst q3
        rw [u3, z1]
        unfold rOK
        refine ⟨?_, ?_, ?_, ?_, ?_, ?_, ?_, ?_, ?_, ?_, ?_, ?_, ?_, ?_, ?_, ?_, ?_, ?_, ?_, ?_, ?_, ?_, ?_⟩ <;> (intros; omega)
      · by_cases q6 : j = 6
        · subst q6
          rw [u6, z1]
          unfold rOK
          refine ⟨?_, ?_, ?_, ?_, ?_, ?_, ?_, ?_, ?_, ?_, ?_, ?_, ?_, ?_, ?_, ?_, ?_, ?_, ?_, ?_, ?_, ?_, ?_⟩ <;> (intros; omega)
        · rw [u j q3 q4 q6, z0]
          unfold rOK
          refine ⟨?_, ?_, ?_, ?_, ?_, ?_, ?_, ?_, ?_, ?_, ?_, ?_, ?_, ?_, ?_, ?_, ?_, ?_, ?_, ?_, ?_, ?_, ?_⟩ <;> (intros; omega)
  · unfold mSN
    rw [u 5 (by omega) (by omega) (by omega)]
    exact (by decide : (0 : Int) ≤ 5)
  · rw [u3, u 2 (by omega) (by omega) (by omega)]; decide
  · rw [u 2 (by omega) (by omega) (by omega), z0] at hl
    exact absurd hl (by omega)
/-! the laws told of by what they say: which there are, which is in force, those of the images -/
abbrev LLS : Type := List (List CLT)
abbrev LMS : Type := Nat → LLS × Int32
def slaw (g : LLS) (x : Nat → Int32) (n : Int32) : LLS := if 6 ≤ g.length then g else match (LAWX x n.toInt.toNat).2.2 with | none => g | some L => g ++ [L]
def alaw (g : LLS) (x : Nat → Int32) (n : Int32) : Int32 := if 6 ≤ g.length then -5 else match (LAWX x n.toInt.toNat).2.2 with | none => -6 | some _ => Int32.ofNat g.length
def sflt (v : Int32) (g : LLS) (x : Nat → Int32) (n : Int32) : Int32 := if 6 ≤ g.length then v else match (LAWX x n.toInt.toNat).2.2 with | none => Int32.ofNat (pT x n.toInt.toNat (LAWX x n.toInt.toNat).1) | some _ => -1
theorem law_5 {g : LLS} {x : Nat → Int32} {n v : Int32} (h : 6 ≤ g.length) : slaw g x n = g ∧ alaw g x n = -5 ∧ sflt v g x n = v := ⟨if_pos h, if_pos h, if_pos h⟩
theorem law_6 {g : LLS} {x : Nat → Int32} {n v : Int32} (h : g.length < 6) (e : (LAWX x n.toInt.toNat).2.2 = none) : slaw g x n = g ∧ alaw g x n = -6 ∧ sflt v g x n = Int32.ofNat (pT x n.toInt.toNat (LAWX x n.toInt.toNat).1) := by
  unfold slaw alaw sflt
  rw [if_neg (by omega), if_neg (by omega), if_neg (by omega), e]
  exact ⟨rfl, rfl, rfl⟩
theorem law_0 {g : LLS} {x : Nat → Int32} {n v : Int32} {L : List CLT} (h : g.length < 6) (e : (LAWX x n.toInt.toNat).2.2 = some L) : slaw g x n = g ++ [L] ∧ alaw g x n = Int32.ofNat g.length ∧ sflt v g x n = -1 := by
  unfold slaw alaw sflt
  rw [if_neg (by omega), if_neg (by omega), if_neg (by omega), e]
  exact ⟨rfl, rfl, rfl⟩
noncomputable def sforce (g : LLS) (F p : Int32) : Int32 := cif (-1 ≤ p.toInt ∧ p.toInt < (g.length : Int)) p F
noncomputable def aforce (g : LLS) (F p : Int32) : Int32 := cif (-1 ≤ p.toInt ∧ p.toInt < (g.length : Int)) F (-2)
noncomputable def simL (M : LMS) (g : LLS) (F p : Int32) : LMS := cif (okM p) (fun k => if k = p.toInt.toNat then (g, F) else M k) M
noncomputable def sbackL (g : LLS) (M : LMS) (ke : Nat → Int32) (p : Int32) : LLS := cif (okM p ∧ (ke p.toInt.toNat).toInt ≠ 0) (M p.toInt.toNat).1 g
noncomputable def sbackF (F : Int32) (M : LMS) (ke : Nat → Int32) (p : Int32) : Int32 := cif (okM p ∧ (ke p.toInt.toNat).toInt ≠ 0) (M p.toInt.toNat).2 F
theorem simL_1 {M : LMS} {g : LLS} {F p : Int32} (h : ¬ okM p) : simL M g F p = M := cif_f h
theorem simL_at {M : LMS} {g : LLS} {F p : Int32} {k : Nat} (h : okM p) (hk : p.toInt = (k : Int)) : simL M g F p k = (g, F) := by
  unfold simL
  rw [cif_t h]
  exact if_pos (by omega)
theorem simL_ne {M : LMS} {g : LLS} {F p : Int32} {k : Nat} (h : okM p) (hk : p.toInt ≠ (k : Int)) : simL M g F p k = M k := by
  unfold simL
  rw [cif_t h]
  have z := h.1
  exact if_neg (by omega)
theorem bk_1 {M : LMS} {g : LLS} {F p : Int32} {ke : Nat → Int32} (h : ¬ okM p) : sbackL g M ke p = g ∧ sbackF F M ke p = F := ⟨cif_f (fun q => h q.1), cif_f (fun q => h q.1)⟩
theorem bk_2 {M : LMS} {g : LLS} {F p : Int32} {ke : Nat → Int32} (h : (ke p.toInt.toNat).toInt = 0) : sbackL g M ke p = g ∧ sbackF F M ke p = F := ⟨cif_f (fun q => q.2 h), cif_f (fun q => q.2 h)⟩
theorem bk_0 {M : LMS} {g : LLS} {F p : Int32} {ke : Nat → Int32} (h : okM p) (h2 : (ke p.toInt.toNat).toInt ≠ 0) : sbackL g M ke p = (M p.toInt.toNat).1 ∧ sbackF F M ke p = (M p.toInt.toNat).2 := ⟨cif_t ⟨h, h2⟩, cif_t ⟨h, h2⟩⟩
/-! the class's -/
def LWR (r : LR) (L : List CLT) : Prop := LWC r.2.2.1 r.2.2.2.1 r.2.2.2.2 L r.2.1.1.toInt.toNat ∧ lvC r.2.2.2.2 r.2.1.2.2.2 ≤ 50
def CLAW (Lw : List LR) (f : Nat → Option Nat) (lc fo : Int32) (g : LLS) (F : Int32) : Prop := fo = F ∧ lc.toInt = (g.length : Int) ∧ ∀ (j : Nat) (L : List CLT), g[j]? = some L → ∃ r ∈ Lw, f j = some r.1.1 ∧ LWR r L
def QML (k : Nat) (ke : Nat → Int32) (Lw : List LR) (f : Nat → Option Nat) (lc fo : Int32) (M : LMS) : Prop := (ke k).toInt ≠ 0 → CLAW Lw f lc fo (M k).1 (M k).2
section CLW
variable {Lw : List LR} {f f' : Nat → Option Nat} {lc lc' fo fo' F p : Int32} {g : LLS} {r : LR} {ke x : Nat → Int32} {M : LMS} {k : Nat}
theorem claw_up (h : CLAW Lw f lc fo g F) : CLAW (r :: Lw) f lc fo g F :=
  ⟨h.1, h.2.1, fun j L e => by obtain ⟨q, a, b⟩ := h.2.2 j L e; exact ⟨q, List.mem_cons_of_mem _ a, b⟩⟩
theorem qml_up (h : QML k ke Lw f lc fo M) : QML k ke (r :: Lw) f lc fo M := fun q => claw_up (h q)
theorem gl_lt {α : Type} {l : List α} {j : Nat} {a : α} (h : l[j]? = some a) : j < l.length := (List.getElem?_eq_some_iff.mp h).1
theorem claw_copy (h : CLAW Lw f lc fo g F) (h6 : lc.toInt ≤ 6) (e : ∀ j : Nat, j < 6 → f' j = f j) : CLAW Lw f' lc fo g F :=
  ⟨h.1, h.2.1, fun j L q => by
    have z := gl_lt q
    have y := h.2.1
    rw [e j (by omega)]; exact h.2.2 j L q⟩
theorem claw_new {L : List CLT} (h : CLAW Lw f lc fo g F) (e : 0 ≤ lc.toInt ∧ lc'.toInt = lc.toInt + 1 ∧ lc'.toInt ≤ 6) (w : LWR r L) : CLAW (r :: Lw) (va_up f lc.toNatClampNeg (some r.1.1)) lc' fo (g ++ [L]) F := by
  have c := g5_clamp lc
  have y := h.2.1
  refine ⟨h.1, by rw [List.length_append, List.length_singleton]; omega, fun j K q => ?_⟩
  have z := gl_lt q
  rw [List.length_append, List.length_singleton] at z
  by_cases q1 : j < g.length
  · rw [List.getElem?_append_left q1] at q
    obtain ⟨r9, a, b1, b2⟩ := h.2.2 j K q
    refine ⟨r9, List.mem_cons_of_mem _ a, ?_, b2⟩
    unfold va_up
    rw [if_neg (by omega)]; exact b1
  · rw [List.getElem?_append_right (by omega), show j - g.length = 0 by omega] at q
    have q : some L = some K := q
    rw [← Option.some.inj q]
    refine ⟨r, List.mem_cons_self, ?_, w⟩
    unfold va_up
    rw [if_pos (by omega)]
/-- what the class's law answers -/
theorem law_x0 {n fa fa' a : Int32} (h : CLAW Lw f lc fo g F) (e : (lc.toInt = 6 ∧ a.toInt = -5 ∧ fa' = fa) ∨ (lc.toInt < 6 ∧ (LAWX x n.toInt.toNat).2.2 = none ∧ a.toInt = -6 ∧ fa'.toInt = (pT x n.toInt.toNat (LAWX x n.toInt.toNat).1 : Int))) : g = slaw g x n ∧ a = alaw g x n ∧ fa' = sflt fa g x n := by
  have y := h.2.1
  rcases e with ⟨e1, e2, e3⟩ | ⟨e1, e2, e3, e4⟩
  · obtain ⟨s1, s2, s3⟩ := law_5 (g := g) (x := x) (n := n) (v := fa) (by omega)
    refine ⟨s1.symm, ?_, by rw [s3]; exact e3⟩
    rw [s2]; exact Int32.toInt_inj.mp (e2.trans (by decide))
  · obtain ⟨s1, s2, s3⟩ := law_6 (g := g) (x := x) (n := n) (v := fa) (by omega) e2
    refine ⟨s1.symm, ?_, ?_⟩
    · rw [s2]; exact Int32.toInt_inj.mp (e3.trans (by decide))
    · rw [s3, ofInt_i e4]; rfl
theorem law_x1 {n fa fa' a : Int32} {L : List CLT} (h : CLAW Lw f lc fo g F) (e : 0 ≤ lc.toInt ∧ lc'.toInt = lc.toInt + 1 ∧ lc'.toInt ≤ 6) (eL : (LAWX x n.toInt.toNat).2.2 = some L) (ea : a.toInt = lc.toInt) (ef : fa'.toInt = -1) : g ++ [L] = slaw g x n ∧ a = alaw g x n ∧ fa' = sflt fa g x n := by
  have y := h.2.1
  obtain ⟨s1, s2, s3⟩ := law_0 (g := g) (x := x) (n := n) (v := fa) (by omega) eL
  refine ⟨s1.symm, ?_, ?_⟩
  · rw [s2, ofInt_i (ea.trans y)]; rfl
  · rw [s3]; exact Int32.toInt_inj.mp (ef.trans (by decide))
theorem force_x {a : Int32} (h : CLAW Lw f lc fo g F) (e : (-1 ≤ p.toInt ∧ p.toInt < lc.toInt ∧ fo' = p ∧ a = fo) ∨ ((p.toInt < -1 ∨ lc.toInt ≤ p.toInt) ∧ fo' = fo ∧ a = -2)) : CLAW Lw f lc fo' g (sforce g F p) ∧ a = aforce g F p := by
  obtain ⟨h1, h2, h3⟩ := h
  rcases e with ⟨e1, e2, e3, e4⟩ | ⟨e1, e2, e3⟩
  · have q : -1 ≤ p.toInt ∧ p.toInt < (g.length : Int) := ⟨e1, by omega⟩
    exact ⟨⟨by unfold sforce; rw [cif_t q]; exact e3, h2, h3⟩, by unfold aforce; rw [cif_t q, e4]; exact h1⟩
  · have q : ¬ (-1 ≤ p.toInt ∧ p.toInt < (g.length : Int)) := fun q => by omega
    exact ⟨⟨by unfold sforce; rw [cif_f q, e2]; exact h1, h2, h3⟩, by unfold aforce; rw [cif_f q]; exact e3⟩
theorem qml_new (hk : p.toInt = (k : Int)) (ok : okM p) (h : CLAW Lw f lc fo g F) (h6 : lc.toInt ≤ 6) (e : ∀ j : Nat, j < 6 → f' j = f j) : QML k (skep ke p) Lw f' lc fo (simL M g F p) := by
  intro _
  rw [simL_at ok hk]
  exact claw_copy h h6 e
theorem qml_oth (ok : okM p) (hk : p.toInt ≠ (k : Int)) (h : QML k ke Lw f lc fo M) : QML k (skep ke p) Lw f lc fo (simL M g F p) := by
  intro q
  rw [simL_ne ok hk]
  refine h ?_
  have z := ok.1
  unfold skep at q
  rw [cif_t ok, upd_ne (by omega)] at q
  exact q
theorem qml_no (ok : ¬ okM p) (h : QML k ke Lw f lc fo M) : QML k (skep ke p) Lw f lc fo (simL M g F p) := by
  rw [simL_1 ok, (img_1 (im := fun _ => 0) (f := fun _ => 0) (ke := ke) ok).2.2]; exact h
theorem claw_back (hk : p.toInt = (k : Int)) (ok : okM p) (hne : (ke k).toInt ≠ 0) (h : QML k ke Lw f lc fo M) (h6 : lc.toInt ≤ 6) (e : ∀ j : Nat, j < 6 → f' j = f j) : CLAW Lw f' lc fo (sbackL g M ke p) (sbackF F M ke p) := by
  have ek : p.toInt.toNat = k := by omega
  obtain ⟨b1, b2⟩ := bk_0 (M := M) (g := g) (F := F) ok (by rw [ek]; exact hne)
  rw [b1, b2, ek]
  exact claw_copy (h hne) h6 e
theorem claw_b0 (hk : p.toInt = (k : Int)) (hne : (ke k).toInt = 0) (h : CLAW Lw f lc fo g F) : CLAW Lw f lc fo (sbackL g M ke p) (sbackF F M ke p) := by
  have ek : p.toInt.toNat = k := by omega
  obtain ⟨b1, b2⟩ := bk_2 (M := M) (g := g) (F := F) (p := p) (ke := ke) (by rw [ek]; exact hne)
  rw [b1, b2]; exact h
theorem claw_bn (ok : ¬ okM p) (h : CLAW Lw f lc fo g F) : CLAW Lw f lc fo (sbackL g M ke p) (sbackF F M ke p) := by
  obtain ⟨b1, b2⟩ := bk_1 (M := M) (g := g) (F := F) (ke := ke) ok
  rw [b1, b2]; exact h
theorem claw_0 (hl : lc.toInt = 0) (hf : fo = F) : CLAW Lw f lc fo [] F := ⟨hf, hl, fun j L h => by cases h⟩
theorem qml_0 (h : (ke k).toInt = 0) : QML k ke Lw f lc fo M := fun q => absurd h q
end CLW
/-! the model's -/
def MLWS (ro : Nat → Int32) (g : LLS) (F : Int32) : Prop := (ro 2).toInt = (g.length : Int) ∧ ro 3 = F ∧ ∀ (j : Nat) (L : List CLT), g[j]? = some L → MLAW ro j L
def MIML (im ke : Nat → Int32) (M : LMS) : Prop := ∀ k : Nat, k < 2 → (ke k).toInt ≠ 0 → MLWS (fun j => im (5740 * k + j)) (M k).1 (M k).2
theorem mlaw_c {ro ro' : Nat → Int32} {i : Nat} {L : List CLT} (W : lawOK ro (340 + 900 * i)) (e : ∀ j : Nat, 340 + 900 * i ≤ j → j < 340 + 900 * i + 900 → ro' j = ro j) (h : MLAW ro i L) : MLAW ro' i L := by
  obtain ⟨w0, w1⟩ := W
  obtain ⟨h1, h2⟩ := h
  refine ⟨by rw [e _ (by omega) (by omega)]; exact h1, fun j c hj => ?_⟩
  have z := gl_lt hj
  have w := w1 j (by omega)
  unfold clOK at w
  obtain ⟨_, w3, w4, w5, w6, _⟩ := w
  refine clm_k (m := 400) (h2 j c hj) (fun k a b => e _ (by omega) (by omega)) (fun k hk => ?_) ?_ ?_
  · exact ⟨e _ (by omega) (by omega), e _ (by omega) (by omega)⟩
  · show (ro (340 + 900 * i + 2 + (8 * j + 4))).toInt ≤ 400
    rw [show 340 + 900 * i + 2 + (8 * j + 4) = 340 + 900 * i + 2 + 8 * j + 4 by omega]; omega
  · show (ro (340 + 900 * i + 2 + (8 * j + 6))).toInt ≤ 400
    rw [show 340 + 900 * i + 2 + (8 * j + 6) = 340 + 900 * i + 2 + 8 * j + 6 by omega]; omega
section MLW
variable {ro ro' x : Nat → Int32} {g : LLS} {F p : Int32} {M : LMS} {im ke : Nat → Int32}
theorem mlws_c (m : MI ro) (h : MLWS ro g F) (e : ∀ j : Nat, (j = 2 ∨ j = 3 ∨ (340 ≤ j ∧ j < 5740)) → ro' j = ro j) : MLWS ro' g F := by
  obtain ⟨h1, h2, h3⟩ := h
  have m2 := mi_2 m
  refine ⟨by rw [e 2 (by omega)]; exact h1, by rw [e 3 (by omega)]; exact h2, fun j L q => ?_⟩
  have z := gl_lt q
  exact mlaw_c (m.2.2.2 j (by omega)) (fun i a b => e i (by omega)) (h3 j L q)
/-- what the model's law makes and answers -/
theorem law_m {n r fa fa' : Int32} (m : MI ro) (h : MLWS ro g F) (a1 : ∀ j : Nat, j < 340 → j ≠ 2 → ro' j = ro j) (a2 : ∀ j : Nat, 340 ≤ j → (j : Int) < 340 + 900 * (ro 2).toInt → ro' j = ro j) (W : LAWM x n.toInt.toNat ro ro' r fa fa') : MLWS ro' (slaw g x n) F ∧ r = alaw g x n ∧ fa' = sflt fa g x n := by
  obtain ⟨h1, h2, h3⟩ := id h
  rcases W with ⟨e1, e2, e3, e4⟩ | ⟨e1, e2, e3, e4, e5⟩ | ⟨e1, L, e2, e3, e4, e5, e6⟩
  · obtain ⟨s1, s2, s3⟩ := law_5 (g := g) (x := x) (n := n) (v := fa) (by omega)
    rw [s1, s2, s3, e3]
    exact ⟨h, Int32.toInt_inj.mp (e2.trans (by decide)), e4⟩
  · obtain ⟨s1, s2, s3⟩ := law_6 (g := g) (x := x) (n := n) (v := fa) (by omega) e2
    rw [s1, s2, s3, e4]
    exact ⟨h, Int32.toInt_inj.mp (e3.trans (by decide)), ofInt_i e5⟩
  · obtain ⟨s1, s2, s3⟩ := law_0 (g := g) (x := x) (n := n) (v := fa) (by omega) e2
    rw [s1, s2, s3]
    refine ⟨⟨?_, ?_, fun j K q => ?_⟩, ?_, Int32.toInt_inj.mp (e4.trans (by decide))⟩
    · rw [List.length_append, List.length_singleton]; omega
    · rw [a1 3 (by omega) (by omega)]; exact h2
    · have z := gl_lt q
      rw [List.length_append, List.length_singleton] at z
      by_cases q1 : j < g.length
      · rw [List.getElem?_append_left q1] at q
        exact mlaw_c (m.2.2.2 j (by omega)) (fun i u v => a2 i (by omega) (by omega)) (h3 j K q)
      · rw [List.getElem?_append_right (by omega), show j - g.length = 0 by omega] at q
        have q : some L = some K := q
        rw [← Option.some.inj q, show j = (ro 2).toInt.toNat by omega]; exact e6
    · exact ofInt_i (e3.trans h1)
theorem force_m {a : Int32} (m : MI ro) (h : MLWS ro g F) (a1 : ∀ j : Nat, j ≠ 3 → ro' j = ro j) (e : (-1 ≤ p.toInt ∧ p.toInt < (ro 2).toInt ∧ ro' 3 = p ∧ a = ro 3) ∨ ((p.toInt < -1 ∨ (ro 2).toInt ≤ p.toInt) ∧ ro' 3 = ro 3 ∧ a = -2)) : MLWS ro' g (sforce g F p) ∧ a = aforce g F p := by
  obtain ⟨h1, h2, h3⟩ := id h
  have m2 := mi_2 m
  have h4 : ∀ (j : Nat) (L : List CLT), g[j]? = some L → MLAW ro' j L := fun j L q => by
    have z := gl_lt q
    exact mlaw_c (m.2.2.2 j (by omega)) (fun i u v => a1 i (by omega)) (h3 j L q)
  have h5 : (ro' 2).toInt = (g.length : Int) := by rw [a1 2 (by omega)]; exact h1
  rcases e with ⟨e1, e2, e3, e4⟩ | ⟨e1, e2, e3⟩
  · have q : -1 ≤ p.toInt ∧ p.toInt < (g.length : Int) := ⟨e1, by omega⟩
    exact ⟨⟨h5, by unfold sforce; rw [cif_t q]; exact e3, h4⟩, by unfold aforce; rw [cif_t q, e4]; exact h2⟩
  · have q : ¬ (-1 ≤ p.toInt ∧ p.toInt < (g.length : Int)) := fun q => by omega
    exact ⟨⟨h5, by unfold sforce; rw [cif_f q, e2]; exact h2, h4⟩, by unfold aforce; rw [cif_f q]; exact e3⟩
theorem miml_image (m : MI ro) (h : MLWS ro g F) (hI : IMI im ke) (hM : MIML im ke M) : MIML (simg im ro p) (skep ke p) (simL M g F p) := by
  by_cases ok : okM p
  · obtain ⟨z0, z1⟩ := id ok
    intro k hk q
    by_cases e : p.toInt = (k : Int)
    · rw [simL_at ok e]
      refine mlws_c m h (fun j hj => ?_)
      show simg im ro p (5740 * k + j) = ro j
      have ek : p.toInt.toNat = k := by omega
      rw [(img_0 (ke := ke) ok).2.1]
      unfold imgR
      rw [ek, if_pos (by omega)]
      congr 1; omega
    · rw [simL_ne ok e]
      unfold skep at q
      rw [cif_t ok, upd_ne (by omega)] at q
      refine mlws_c (hI k hk q) (hM k hk q) (fun j hj => ?_)
      show simg im ro p (5740 * k + j) = im (5740 * k + j)
      rw [(img_0 (ke := ke) ok).2.1]
      unfold imgR
      rw [if_neg (by omega)]
  · rw [simL_1 ok, (img_1 (im := im) (f := ro) (ke := ke) ok).2.1, (img_1 (im := im) (f := ro) (ke := ke) ok).2.2]; exact hM
theorem mlws_back (m : MI ro) (h : MLWS ro g F) (hI : IMI im ke) (hM : MIML im ke M) (e : ∀ j : Nat, j < 5740 → ro' j = sback ro im ke p j) : MLWS ro' (sbackL g M ke p) (sbackF F M ke p) := by
  by_cases ok : okM p
  · obtain ⟨z0, z1⟩ := id ok
    by_cases q : (ke p.toInt.toNat).toInt = 0
    · obtain ⟨b1, b2⟩ := bk_2 (M := M) (g := g) (F := F) (p := p) (ke := ke) q
      rw [b1, b2]
      exact mlws_c m h (fun j hj => by rw [e j (by omega), (back_2 ok q).2])
    · obtain ⟨b1, b2⟩ := bk_0 (M := M) (g := g) (F := F) ok q
      rw [b1, b2]
      exact mlws_c (hI _ (by omega) q) (hM _ (by omega) q) (fun j hj => by rw [e j (by omega), (back_0 ok q).2])
  · obtain ⟨b1, b2⟩ := bk_1 (M := M) (g := g) (F := F) (ke := ke) ok
    rw [b1, b2]
    exact mlws_c m h (fun j hj => by rw [e j (by omega), (back_1 ok).2])
theorem mlws_0 (h2 : (ro 2).toInt = 0) (h3 : ro 3 = F) : MLWS ro [] F := ⟨h2, h3, fun j L h => by cases h⟩
theorem miml_0 (h : ∀ k : Nat, k < 2 → (ke k).toInt = 0) : MIML im ke M := fun k hk q => absurd (h k hk) q
theorem mlws_wall {c i : Int32} (m : MI ro) (h : MLWS ro g F) : MLWS (swall ro c i) g F := mlws_c m h (fun j hj => kp_wall (by omega))
theorem mlws_glass {c s l d : Int32} (m : MI ro) (h : MLWS ro g F) : MLWS (sglass ro c s l d) g F := mlws_c m h (fun j hj => kp_glass (mi_0 m).2 (by omega))
theorem mlws_turn {c s l : Int32} (m : MI ro) (h : MLWS ro g F) : MLWS (sturn ro c s l) g F := mlws_c m h (fun j hj => kp_turn (mi_0 m).2 (by omega))
theorem mlws_body (m : MI ro) (h : MLWS ro g F) : MLWS (sbody ro) g F := mlws_c m h (fun j hj => kp_body (mi_1 m).2 (by omega))
theorem mlws_stay {c s l d : Int32} (m : MI ro) (h : MLWS ro g F) : MLWS (sstay ro c s l d) g F := mlws_c m h (fun j hj => kp_stay (mi_1 m).2 (by omega))
theorem mlws_least {c : Int32} (m : MI ro) (h : MLWS ro g F) : MLWS (sleast ro c) g F := mlws_c m h (fun j hj => kp_least (by omega))
theorem mlws_start {c : Int32} (m : MI ro) (h : MLWS ro g F) : MLWS (sstart ro c) g F := mlws_c m h (fun j hj => kp_start (by omega))
theorem mlws_sight {c s l d : Int32} (m : MI ro) (h : MLWS ro g F) : MLWS (ssight ro c s l d) g F := mlws_c m h (fun j hj => kp_sight (mi_5 m).2 (by omega))
theorem mlws_drop {c : Int32} (m : MI ro) (h : MLWS ro g F) : MLWS (sdrop ro c) g F := mlws_c m h (fun j hj => kp_drop (by omega))
theorem mlws_spot {c s l : Int32} (m : MI ro) (h : MLWS ro g F) : MLWS (sspot ro c s l) g F := mlws_c m h (fun j hj => kp_spot (mi_7 m).2 (by omega))
theorem mlws_wish {c s l d a b : Int32} (m : MI ro) (h : MLWS ro g F) : MLWS (swish ro c s l d a b) g F := mlws_c m h (fun j hj => kp_wish (mi_8 m).2 (by omega))
theorem mlws_row {t : Nat → Int32} {n : Int32} (m : MI ro) (h : MLWS ro g F) : MLWS (srow t n ro) g F := mlws_c m h (fun j hj => kp_row (mi_1 m).2 (by omega))
end MLW

/-! the law in force -/
/-- which law is in force -/
def wOf (g : LLS) (F : Int32) : LWF := if F.toInt < 0 then none else g[F.toInt.toNat]?
theorem mlf_of {ro : Nat → Int32} {g : LLS} {F : Int32} (h : MLWS ro g F) (m : MI ro) : MLF ro (wOf g F) := by
  obtain ⟨h1, h2, h3⟩ := h
  have m3 := mi_3 m
  have m4 := m.2.2.1
  unfold wOf
  by_cases q : F.toInt < 0
  · rw [if_pos q]
    exact Or.inl ⟨by rw [h2] at m3 ⊢; omega, rfl⟩
  · rw [if_neg q]
    have e : F.toInt.toNat < g.length := by rw [h2] at m4; omega
    have z := List.getElem?_eq_getElem e
    refine Or.inr ⟨by rw [h2]; omega, g[F.toInt.toNat], z, ?_⟩
    rw [h2]; exact h3 _ _ z
theorem w_none {Lw : List LR} {f : Nat → Option Nat} {lc fo F : Int32} {g : LLS} (h : CLAW Lw f lc fo g F) (q : LWS Lw f lc fo) (e : fo.toInt < 0 ∨ lc.toInt ≤ fo.toInt) : wOf g F = none := by
  obtain ⟨h1, h2, _⟩ := h
  obtain ⟨_, q2, _⟩ := q
  unfold wOf
  rw [if_pos (by rw [← h1]; omega)]
theorem claw_for {Lw : List LR} {f : Nat → Option Nat} {lc fo F : Int32} {g : LLS} (h : CLAW Lw f lc fo g F) (h0 : 0 ≤ fo.toInt ∧ fo.toInt < lc.toInt) : ∃ r ∈ Lw, f fo.toNatClampNeg = some r.1.1 ∧ ∃ L : List CLT, wOf g F = some L ∧ LWR r L := by
  obtain ⟨h1, h2, h3⟩ := h
  have e : fo.toInt.toNat < g.length := by omega
  have z := List.getElem?_eq_getElem e
  obtain ⟨r, a, b, c⟩ := h3 _ _ z
  refine ⟨r, a, b, g[fo.toInt.toNat], ?_, c⟩
  unfold wOf
  rw [← h1, if_neg (by omega)]; exact z
