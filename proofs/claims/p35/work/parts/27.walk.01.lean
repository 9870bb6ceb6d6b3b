set_option maxHeartbeats 4000000 in
set_option maxRecDepth 100000 in
theorem a_firstN (l : Launch) (G : g5_G) (a_k a_h a_g a_gn a_b a_bn a_p a_pn a_bb a_j a_as a_sk a_l a_pt a_wk a_go a_mt a_s a_w : Nat) (sz : Nat) (e_le : Int32) (e_st : Int32) (e_fo : Int32) (e_lc : Int32) (e_g : Int32) (e_b : Int32) (e_p : Int32) (e_ln : Int32) (e_se : Int32) (e_lh : Int32) (e_br : Int32) (e_we : Int32) (e_me : Int32) (e_ce : Int32) (e_wy : Int32) (e_ho : Int32) (e_ov : Int32) (p_b : Int32) (p_c : Int32) (p_f : Int32) (p_e : Int32) (e_wa : Int64) (e_gb : Int64) (f_g : Nat → Int32) (f_b : Nat → Int32) (f_p : Nat → Int32) (f_bb : Nat → Int64) (f_as : Nat → Int32) (f_sk : Nat → Int64) (f_l : Nat → Option Nat) (f_pt : Nat → Int32) (f_go : Nat → Int64) (f_mt : Nat → Int32) (h_e_g : 0 ≤ e_g.toInt ∧ e_g.toInt ≤ 6) (h_e_b : 0 ≤ e_b.toInt ∧ e_b.toInt ≤ 5) (h_e_p : 0 ≤ e_p.toInt ∧ e_p.toInt ≤ 8) (h_e_ov : 0 ≤ e_ov.toInt ∧ e_ov.toInt ≤ 1) (h_p_c : 0 ≤ p_c.toInt ∧ p_c.toInt ≤ 63) (h_p_f : 0 ≤ p_f.toInt ∧ p_f.toInt ≤ 23) (h_p_e : 0 ≤ p_e.toInt ∧ p_e.toInt ≤ 24) (e_gk : gOK f_g e_g.toInt) (e_pk : gOK f_p e_p.toInt) (e_gi : inT e_gb f_g e_g.toInt) (e_f : e_fo.toInt < 0 ∨ e_lc.toInt ≤ e_fo.toInt) : Met l yX9_firstSight (wsG yX9_firstSight cX9_firstSight 13 (some .int)) ({ frames := 15, cells := 0, slots := 0, locals := 580 }) (va_Pc [.ref a_wk, .int p_b, .int p_c, .int p_f, .int p_e] (g5_P G [(a_k, (oc5 a_h a_j a_pt e_ln e_se e_lh e_br e_we e_me e_ce e_wy e_ho e_ov)), (a_h, (oc1 e_wa e_le e_st e_fo e_lc a_l a_g a_b a_s a_p a_w e_gb a_bb)), (a_g, (oc6 6 5 a_gn e_g)), (a_gn, (arI G 30 f_g)), (a_b, (oc6 5 24 a_bn e_b)), (a_bn, (arI G 120 f_b)), (a_p, (oc6 8 5 a_pn e_p)), (a_pn, (arI G 40 f_p)), (a_bb, (arJ G 24 f_bb)), (a_j, (oc2 a_as a_sk)), (a_as, (arI G 8 f_as)), (a_sk, (arJ G 50 f_sk)), (a_l, (arW G 6 f_l)), (a_pt, (arI G 200 f_pt)), (a_wk, (oc9 a_h a_k a_go a_mt)), (a_go, (arJ G 24 f_go)), (a_mt, (arI G 1536 f_mt))] sz)) (va_Qi (fun (r : Int32) (u : va_W) => (∃ (o_r : Int32) (o_ln : Int32) (o_se : Int32) (o_lh : Int32) (o_br : Int32) (o_we : Int32) (o_me : Int32) (o_ce : Int32) (o_wy : Int32) (o_ho : Int32) (o_ov : Int32) (o_pt : Nat → Int32) (o_as : Nat → Int32) (o_sk : Nat → Int64) (o_go : Nat → Int64) (o_mt : Nat → Int32), (0 ≤ o_ov.toInt ∧ o_ov.toInt ≤ 1) ∧ (-1 ≤ o_r.toInt ∧ o_r.toInt ≤ 23) ∧ (o_r.toInt = -1 ∨ (p_f.toInt ≤ o_r.toInt ∧ o_r.toInt < p_e.toInt)) ∧ (r = o_r) ∧ (u = [(a_k, (oc5 a_h a_j a_pt o_ln o_se o_lh o_br o_we o_me o_ce o_wy o_ho o_ov)), (a_h, (oc1 e_wa e_le e_st e_fo e_lc a_l a_g a_b a_s a_p a_w e_gb a_bb)), (a_g, (oc6 6 5 a_gn e_g)), (a_gn, (arI G 30 f_g)), (a_b, (oc6 5 24 a_bn e_b)), (a_bn, (arI G 120 f_b)), (a_p, (oc6 8 5 a_pn e_p)), (a_pn, (arI G 40 f_p)), (a_bb, (arJ G 24 f_bb)), (a_j, (oc2 a_as a_sk)), (a_as, (arI G 8 o_as)), (a_sk, (arJ G 50 o_sk)), (a_l, (arW G 6 f_l)), (a_pt, (arI G 200 o_pt)), (a_wk, (oc9 a_h a_k a_go a_mt)), (a_go, (arJ G 24 o_go)), (a_mt, (arI G 1536 o_mt))]))) (g5_B G (va_A [(a_k, (oc5 a_h a_j a_pt e_ln e_se e_lh e_br e_we e_me e_ce e_wy e_ho e_ov)), (a_h, (oc1 e_wa e_le e_st e_fo e_lc a_l a_g a_b a_s a_p a_w e_gb a_bb)), (a_g, (oc6 6 5 a_gn e_g)), (a_gn, (arI G 30 f_g)), (a_b, (oc6 5 24 a_bn e_b)), (a_bn, (arI G 120 f_b)), (a_p, (oc6 8 5 a_pn e_p)), (a_pn, (arI G 40 f_p)), (a_bb, (arJ G 24 f_bb)), (a_j, (oc2 a_as a_sk)), (a_as, (arI G 8 f_as)), (a_sk, (arJ G 50 f_sk)), (a_l, (arW G 6 f_l)), (a_pt, (arI G 200 f_pt)), (a_wk, (oc9 a_h a_k a_go a_mt)), (a_go, (arJ G 24 f_go)), (a_mt, (arI G 1536 f_mt))] sz)) (va_A [(a_k, (oc5 a_h a_j a_pt e_ln e_se e_lh e_br e_we e_me e_ce e_wy e_ho e_ov)), (a_h, (oc1 e_wa e_le e_st e_fo e_lc a_l a_g a_b a_s a_p a_w e_gb a_bb)), (a_g, (oc6 6 5 a_gn e_g)), (a_gn, (arI G 30 f_g)), (a_b, (oc6 5 24 a_bn e_b)), (a_bn, (arI G 120 f_b)), (a_p, (oc6 8 5 a_pn e_p)), (a_pn, (arI G 40 f_p)), (a_bb, (arJ G 24 f_bb)), (a_j, (oc2 a_as a_sk)), (a_as, (arI G 8 f_as)), (a_sk, (arJ G 50 f_sk)), (a_l, (arW G 6 f_l)), (a_pt, (arI G 200 f_pt)), (a_wk, (oc9 a_h a_k a_go a_mt)), (a_go, (arJ G 24 f_go)), (a_mt, (arI G 1536 f_mt))] sz)) 0 0 (va_A [(a_k, (oc5 a_h a_j a_pt e_ln e_se e_lh e_br e_we e_me e_ce e_wy e_ho e_ov)), (a_h, (oc1 e_wa e_le e_st e_fo e_lc a_l a_g a_b a_s a_p a_w e_gb a_bb)), (a_g, (oc6 6 5 a_gn e_g)), (a_gn, (arI G 30 f_g)), (a_b, (oc6 5 24 a_bn e_b)), (a_bn, (arI G 120 f_b)), (a_p, (oc6 8 5 a_pn e_p)), (a_pn, (arI G 40 f_p)), (a_bb, (arJ G 24 f_bb)), (a_j, (oc2 a_as a_sk)), (a_as, (arI G 8 f_as)), (a_sk, (arJ G 50 f_sk)), (a_l, (arW G 6 f_l)), (a_pt, (arI G 200 f_pt)), (a_wk, (oc9 a_h a_k a_go a_mt)), (a_go, (arJ G 24 f_go)), (a_mt, (arI G 1536 f_mt))] sz) := by
  refine Met.ofW (cc := cX9_firstSight) (maxL := 13) (ret := (some .int)) (by decide +kernel) rfl ?_
  intro p e s m args below meth c s₁ B hml hv
  obtain ⟨rfl, hsz, hP, hK, hD0, hN, hT⟩ := hv
  have hx := B.exec
  have hb := B.bytes
  have hr := B.returns
  have hts : ∀ w ∈ tblG, w.before _ s = true := fun w h => atoms_spec (ws := (wsG yX9_firstSight cX9_firstSight 13 (some .int))) B.pre w (List.mem_cons_of_mem _ h)
  have hown : s.vm.findClass RX9 = some m.cls := findClass_of_methodNamed B.named
  have hlocks := B.notSynchronized
  subst hsz
  have hD := hD0.self (sz := s.heap.size)
  generalize hAe : va_A [(a_k, (oc5 a_h a_j a_pt e_ln e_se e_lh e_br e_we e_me e_ce e_wy e_ho e_ov)), (a_h, (oc1 e_wa e_le e_st e_fo e_lc a_l a_g a_b a_s a_p a_w e_gb a_bb)), (a_g, (oc6 6 5 a_gn e_g)), (a_gn, (arI G 30 f_g)), (a_b, (oc6 5 24 a_bn e_b)), (a_bn, (arI G 120 f_b)), (a_p, (oc6 8 5 a_pn e_p)), (a_pn, (arI G 40 f_p)), (a_bb, (arJ G 24 f_bb)), (a_j, (oc2 a_as a_sk)), (a_as, (arI G 8 f_as)), (a_sk, (arJ G 50 f_sk)), (a_l, (arW G 6 f_l)), (a_pt, (arI G 200 f_pt)), (a_wk, (oc9 a_h a_k a_go a_mt)), (a_go, (arJ G 24 f_go)), (a_mt, (arI G 1536 f_mt))] s.heap.size = A at hD hT ⊢
  have hA : ∀ q : Nat, s.heap.size ≤ q → A q := fun q h => by rw [← hAe]; exact Or.inr h
  have hS : va_S A s.heap s.heap [] := va_S.rf
  replace hP : va_P G.1 vwCl [(a_k, (oc5 a_h a_j a_pt e_ln e_se e_lh e_br e_we e_me e_ce e_wy e_ho e_ov)), (a_h, (oc1 e_wa e_le e_st e_fo e_lc a_l a_g a_b a_s a_p a_w e_gb a_bb)), (a_g, (oc6 6 5 a_gn e_g)), (a_gn, (arI G 30 f_g)), (a_b, (oc6 5 24 a_bn e_b)), (a_bn, (arI G 120 f_b)), (a_p, (oc6 8 5 a_pn e_p)), (a_pn, (arI G 40 f_p)), (a_bb, (arJ G 24 f_bb)), (a_j, (oc2 a_as a_sk)), (a_as, (arI G 8 f_as)), (a_sk, (arJ G 50 f_sk)), (a_l, (arW G 6 f_l)), (a_pt, (arI G 200 f_pt)), (a_wk, (oc9 a_h a_k a_go a_mt)), (a_go, (arJ G 24 f_go)), (a_mt, (arI G 1536 f_mt))] s.heap := hP
  have hl := lv_entry ([.ref a_wk, .int p_b, .int p_c, .int p_f, .int p_e]) (n := 13) (Nat.le_of_ble_eq_true rfl)
  rw [lg_entry_eq]
  generalize (lg_sl ([.ref a_wk, .int p_b, .int p_c, .int p_f, .int p_e]) ++ List.replicate (13 - (lg_sl ([.ref a_wk, .int p_b, .int p_c, .int p_f, .int p_e])).length) Slot.unset).toArray = ls at hl ⊢
  replace hl : lv_has ls 13 [(0, .ref a_wk), (1, .int p_b), (2, .int p_c), (3, .int p_f), (4, .int p_e)] := hl
  refine lv_lconst (v := 1) hx hb dX9_firstSight_0 (by decide +kernel) ?_
  refine lv_iload_n hx hb dX9_firstSight_1 rfl (lv_at hl 2 rfl) ?_
  refine lv_lshl (v := ((1 : Int64) <<< (p_c.toInt64 &&& 63))) hx hb dX9_firstSight_2 rfl ?_
  refine lv_lstore (lv' := [(5, .long ((1 : Int64) <<< (p_c.toInt64 &&& 63))), (0, .ref a_wk), (1, .int p_b), (2, .int p_c), (3, .int p_f), (4, .int p_e)]) hx hb dX9_firstSight_3 hl (by decide +kernel) rfl ?_
  clear hl
  intro ls hl
  refine W.eq (g2 := F0 m 5 ls []) rfl ?_
  refine lv_aload_n hx hb dX9_firstSight_5 rfl (lv_at hl 1 rfl) ?_
  refine lv_iload_n hx hb dX9_firstSight_6 rfl (lv_at hl 2 rfl) ?_
  refine lv_iload_n hx hb dX9_firstSight_7 rfl (lv_at hl 4 rfl) ?_
  obtain ⟨hPc, hDc, hFc⟩ := g5_sub3 (wc := [(a_h, (oc1 e_wa e_le e_st e_fo e_lc a_l a_g a_b a_s a_p a_w e_gb a_bb)), (a_b, (oc6 5 24 a_bn e_b)), (a_bn, (arI G 120 f_b)), (a_wk, (oc9 a_h a_k a_go a_mt))]) hP hD hS hA [1, 4, 5, 14] (by decide +kernel) rfl
  refine va_calli (va_runV (As := [.int p_b, .int p_f]) (rest := []) ⟨hx, hb, hml, hown, hts⟩ (a_isEverIn l G a_h a_b a_bn a_wk a_l a_g a_s a_p a_w a_bb a_k a_go a_mt s.heap.size e_le e_st e_fo e_lc e_b p_b p_f e_wa e_gb f_b h_e_b ⟨by omega, by omega⟩) (cwV 2 hts gV_X9_27 rfl rfl rfl hv_X9_isEverIn ⟨Nat.le_of_ble_eq_true rfl, Nat.le_of_ble_eq_true rfl⟩) (g5_preV hPc hK hDc hN hT hS hFc (ci := 9) (q0 := 3) rfl rfl) rfl rfl hl.1 rfl (lv_room (Nat.le_of_ble_eq_true rfl)) dX9_firstSight_8 ⟨Nat.le_of_ble_eq_true rfl, Nat.le_of_ble_eq_true rfl⟩) hS (fun q _ h => hFc q h) hFc (fun r u t H locs ht hvm hw hB hz1 hk1 hS => ?_)
  obtain ⟨hP1, hD1⟩ := hB
  have hP1 := g5_ht ht hP1
  obtain ⟨z2, (i_1 : 0 ≤ z2.toInt ∧ z2.toInt ≤ 1), y3, rfl⟩ := hw
  have hJ9 := va_join (wr := [(a_k, (oc5 a_h a_j a_pt e_ln e_se e_lh e_br e_we e_me e_ce e_wy e_ho e_ov)), (a_g, (oc6 6 5 a_gn e_g)), (a_gn, (arI G 30 f_g)), (a_p, (oc6 8 5 a_pn e_p)), (a_pn, (arI G 40 f_p)), (a_bb, (arJ G 24 f_bb)), (a_j, (oc2 a_as a_sk)), (a_as, (arI G 8 f_as)), (a_sk, (arJ G 50 f_sk)), (a_l, (arW G 6 f_l)), (a_pt, (arI G 200 f_pt)), (a_go, (arJ G 24 f_go)), (a_mt, (arI G 1536 f_mt))]) hP hD [1, 4, 5, 14] [0, 2, 3, 6, 7, 8, 9, 10, 11, 12, 13, 15, 16] rfl rfl (by decide +kernel) (by decide +kernel) hk1 hFc hP1 hD1
  clear hP hD hPc hDc hFc ht hvm hz1 hk1 hP1 hD1
  obtain ⟨hP, hD⟩ := hJ9
  refine g5_rs [(a_k, (oc5 a_h a_j a_pt e_ln e_se e_lh e_br e_we e_me e_ce e_wy e_ho e_ov)), (a_g, (oc6 6 5 a_gn e_g)), (a_gn, (arI G 30 f_g)), (a_p, (oc6 8 5 a_pn e_p)), (a_pn, (arI G 40 f_p)), (a_bb, (arJ G 24 f_bb)), (a_j, (oc2 a_as a_sk)), (a_as, (arI G 8 f_as)), (a_sk, (arJ G 50 f_sk)), (a_l, (arW G 6 f_l)), (a_pt, (arI G 200 f_pt)), (a_go, (arJ G 24 f_go)), (a_mt, (arI G 1536 f_mt)), (a_h, (oc1 e_wa e_le e_st e_fo e_lc a_l a_g a_b a_s a_p a_w e_gb a_bb)), (a_b, (oc6 5 24 a_bn e_b)), (a_bn, (arI G 120 f_b)), (a_wk, (oc9 a_h a_k a_go a_mt))] hP hD ?_
  clear hP hD
  intro hP hD
  refine g5_ti (v := z2) y3 ?_
  refine lv_istore (lv' := [(7, .int z2), (5, .long ((1 : Int64) <<< (p_c.toInt64 &&& 63))), (0, .ref a_wk), (1, .int p_b), (2, .int p_c), (3, .int p_f), (4, .int p_e)]) hx hb dX9_firstSight_11 hl (by decide +kernel) rfl ?_
  clear hl
  intro ls hl
  refine W.eq (g2 := F0 m 13 ls []) rfl ?_
  refine lv_iload_n hx hb dX9_firstSight_13 rfl (lv_at hl 5 rfl) ?_
  refine lv_istore (lv' := [(8, .int p_f), (7, .int z2), (5, .long ((1 : Int64) <<< (p_c.toInt64 &&& 63))), (0, .ref a_wk), (1, .int p_b), (2, .int p_c), (3, .int p_f), (4, .int p_e)]) hx hb dX9_firstSight_14 hl (by decide +kernel) rfl ?_
  clear hl
  intro ls hl
  refine g5_loop (α := (Int64) × (Int32) × (Int32) × (Int32) × (Int32) × (Int32) × (Int32) × (Int32) × (Int32) × (Int32) × (Int32) × (Int32) × (Nat → Int32) × (Nat → Int32) × (Nat → Int64) × (Int32) × (Nat → Int64) × (Nat → Int32)) (fun (q : (Int64) × (Int32) × (Int32) × (Int32) × (Int32) × (Int32) × (Int32) × (Int32) × (Int32) × (Int32) × (Int32) × (Int32) × (Nat → Int32) × (Nat → Int32) × (Nat → Int64) × (Int32) × (Nat → Int64) × (Nat → Int32)) (ls : Array Slot) (H : Heap) (locs : List Loc) => match q with | (k_x, k_t, k_h, k_se, k_lh, k_br, k_we, k_me, k_ce, k_wy, k_ho, k_ov, k_pt, k_as, k_sk, k_ln, k_go, k_mt) => lv_has ls 13 [(5, .long k_x), (7, .int k_t), (8, .int k_h), (0, .ref a_wk), (1, .int p_b), (2, .int p_c), (3, .int p_f), (4, .int p_e)] ∧ va_P G.1 vwCl [(a_k, (oc5 a_h a_j a_pt k_ln k_se k_lh k_br k_we k_me k_ce k_wy k_ho k_ov)), (a_g, (oc6 6 5 a_gn e_g)), (a_gn, (arI G 30 f_g)), (a_p, (oc6 8 5 a_pn e_p)), (a_pn, (arI G 40 f_p)), (a_bb, (arJ G 24 f_bb)), (a_j, (oc2 a_as a_sk)), (a_as, (arI G 8 k_as)), (a_sk, (arJ G 50 k_sk)), (a_l, (arW G 6 f_l)), (a_pt, (arI G 200 k_pt)), (a_go, (arJ G 24 k_go)), (a_mt, (arI G 1536 k_mt)), (a_h, (oc1 e_wa e_le e_st e_fo e_lc a_l a_g a_b a_s a_p a_w e_gb a_bb)), (a_b, (oc6 5 24 a_bn e_b)), (a_bn, (arI G 120 f_b)), (a_wk, (oc9 a_h a_k a_go a_mt))] H ∧ va_D A [(a_k, (oc5 a_h a_j a_pt k_ln k_se k_lh k_br k_we k_me k_ce k_wy k_ho k_ov)), (a_g, (oc6 6 5 a_gn e_g)), (a_gn, (arI G 30 f_g)), (a_p, (oc6 8 5 a_pn e_p)), (a_pn, (arI G 40 f_p)), (a_bb, (arJ G 24 f_bb)), (a_j, (oc2 a_as a_sk)), (a_as, (arI G 8 k_as)), (a_sk, (arJ G 50 k_sk)), (a_l, (arW G 6 f_l)), (a_pt, (arI G 200 k_pt)), (a_go, (arJ G 24 k_go)), (a_mt, (arI G 1536 k_mt)), (a_h, (oc1 e_wa e_le e_st e_fo e_lc a_l a_g a_b a_s a_p a_w e_gb a_bb)), (a_b, (oc6 5 24 a_bn e_b)), (a_bn, (arI G 120 f_b)), (a_wk, (oc9 a_h a_k a_go a_mt))] ∧ va_S A s.heap H locs ∧ (0 ≤ k_t.toInt ∧ k_t.toInt ≤ 1) ∧ (0 ≤ k_h.toInt ∧ k_h.toInt ≤ 24) ∧ (0 ≤ k_ov.toInt ∧ k_ov.toInt ≤ 1) ∧ (p_f.toInt ≤ k_h.toInt)) (fun (q : (Int64) × (Int32) × (Int32) × (Int32) × (Int32) × (Int32) × (Int32) × (Int32) × (Int32) × (Int32) × (Int32) × (Int32) × (Nat → Int32) × (Nat → Int32) × (Nat → Int64) × (Int32) × (Nat → Int64) × (Nat → Int32)) => match q with | (k_x, k_t, k_h, k_se, k_lh, k_br, k_we, k_me, k_ce, k_wy, k_ho, k_ov, k_pt, k_as, k_sk, k_ln, k_go, k_mt) => Int.toNat (24 - k_h.toInt)) (((1 : Int64) <<< (p_c.toInt64 &&& 63)), z2, p_f, e_se, e_lh, e_br, e_we, e_me, e_ce, e_wy, e_ho, e_ov, f_pt, f_as, f_sk, e_ln, f_go, f_mt) ⟨lv_sub hl [2, 1, 0, 3, 4, 5, 6, 7] rfl, hP, hD, hS, i_1, ⟨by omega, by omega⟩, h_e_ov, by omega⟩ ?_
  rintro ⟨k_x, k_t, k_h, k_se, k_lh, k_br, k_we, k_me, k_ce, k_wy, k_ho, k_ov, k_pt, k_as, k_sk, k_ln, k_go, k_mt⟩ ls H locs ⟨hl, hP, hD, hS, (i_4 : 0 ≤ k_t.toInt ∧ k_t.toInt ≤ 1), (i_5 : 0 ≤ k_h.toInt ∧ k_h.toInt ≤ 24), (i_6 : 0 ≤ k_ov.toInt ∧ k_ov.toInt ≤ 1), (i_7 : p_f.toInt ≤ k_h.toInt)⟩ ih_16_8
  replace hl : lv_has ls 13 [(5, .long k_x), (7, .int k_t), (8, .int k_h), (0, .ref a_wk), (1, .int p_b), (2, .int p_c), (3, .int p_f), (4, .int p_e)] := hl
  refine g5_rs [(a_k, (oc5 a_h a_j a_pt k_ln k_se k_lh k_br k_we k_me k_ce k_wy k_ho k_ov)), (a_g, (oc6 6 5 a_gn e_g)), (a_gn, (arI G 30 f_g)), (a_p, (oc6 8 5 a_pn e_p)), (a_pn, (arI G 40 f_p)), (a_bb, (arJ G 24 f_bb)), (a_j, (oc2 a_as a_sk)), (a_as, (arI G 8 k_as)), (a_sk, (arJ G 50 k_sk)), (a_l, (arW G 6 f_l)), (a_pt, (arI G 200 k_pt)), (a_go, (arJ G 24 k_go)), (a_mt, (arI G 1536 k_mt)), (a_h, (oc1 e_wa e_le e_st e_fo e_lc a_l a_g a_b a_s a_p a_w e_gb a_bb)), (a_b, (oc6 5 24 a_bn e_b)), (a_bn, (arI G 120 f_b)), (a_wk, (oc9 a_h a_k a_go a_mt))] hP hD ?_
  clear hP hD
  intro hP hD
  refine lv_iload hx hb dX9_firstSight_16 (lv_at hl 2 rfl) ?_
  refine lv_iload hx hb dX9_firstSight_18 (lv_at hl 7 rfl) ?_
  refine lv_icmp_ge (tgt := 188) hx hb dX9_firstSight_20 (by decide +kernel) (fun c_9 => ?_) (fun c_9 => ?_)
  ·
    have i_9 : k_h.toInt ≥ p_e.toInt := g5_ge (a := k_h.toInt) (b := p_e.toInt) rfl rfl c_9
    refine lv_iconst (v := (-1)) hx hb dX9_firstSight_188 (by decide +kernel) ?_
    exact W.iret (v := (-1)) hx hb hr (fun t ht hW => ⟨⟨(-1), [(a_k, (oc5 a_h a_j a_pt k_ln k_se k_lh k_br k_we k_me k_ce k_wy k_ho k_ov)), (a_h, (oc1 e_wa e_le e_st e_fo e_lc a_l a_g a_b a_s a_p a_w e_gb a_bb)), (a_g, (oc6 6 5 a_gn e_g)), (a_gn, (arI G 30 f_g)), (a_b, (oc6 5 24 a_bn e_b)), (a_bn, (arI G 120 f_b)), (a_p, (oc6 8 5 a_pn e_p)), (a_pn, (arI G 40 f_p)), (a_bb, (arJ G 24 f_bb)), (a_j, (oc2 a_as a_sk)), (a_as, (arI G 8 k_as)), (a_sk, (arJ G 50 k_sk)), (a_l, (arW G 6 f_l)), (a_pt, (arI G 200 k_pt)), (a_wk, (oc9 a_h a_k a_go a_mt)), (a_go, (arJ G 24 k_go)), (a_mt, (arI G 1536 k_mt))], rfl, ⟨(-1), k_ln, k_se, k_lh, k_br, k_we, k_me, k_ce, k_wy, k_ho, k_ov, k_pt, k_as, k_sk, k_go, k_mt, i_6, ⟨by have zc_o_r : ((-1) : Int32).toInt = (-1) := (by decide +kernel); omega, by have zc_o_r : ((-1) : Int32).toInt = (-1) := (by decide +kernel); omega⟩, Or.inl (by decide +kernel), rfl, rfl⟩, by rw [ht]; exact hP.sub [0, 13, 1, 2, 14, 15, 3, 4, 5, 6, 7, 8, 9, 10, 16, 11, 12] rfl, hD.sub [0, 13, 1, 2, 14, 15, 3, 4, 5, 6, 7, 8, 9, 10, 16, 11, 12] (by decide +kernel) rfl⟩, hS.F ht⟩) hS.2.2 dX9_firstSight_189
  ·
    have i_9 : k_h.toInt < p_e.toInt := g5_geN (a := k_h.toInt) (b := p_e.toInt) rfl rfl c_9
    refine lv_iload hx hb dX9_firstSight_23 (lv_at hl 1 rfl) ?_
    refine lv_if_ne (tgt := 45) hx hb dX9_firstSight_25 (by decide +kernel) (fun c_10 => ?_) (fun c_10 => ?_)
    ·
      have n_10 : gNe (k_t.toInt) (0) := g5_ne (a := k_t.toInt) (b := 0) rfl (by decide +kernel) c_10
      have i_10 : k_t.toInt ≥ 1 := by have z := g5_ne (a := k_t.toInt) (b := 0) (by rfl) (by decide +kernel) c_10; omega
      refine lv_iconst (v := 1) hx hb dX9_firstSight_45 (by decide +kernel) ?_
      refine lv_goto (tgt := 50) hx hb dX9_firstSight_46 (by decide +kernel) ?_
      refine lv_istore (lv' := [(7, .int 1), (5, .long k_x), (8, .int k_h), (0, .ref a_wk), (1, .int p_b), (2, .int p_c), (3, .int p_f), (4, .int p_e)]) hx hb dX9_firstSight_50 hl (by decide +kernel) rfl ?_
      clear hl
      intro ls hl
      refine lv_lconst (v := 0) hx hb dX9_firstSight_52 (by decide +kernel) ?_
      refine W.eq (g2 := F0 m 53 ls [.long 0]) rfl ?_
      refine lv_lstore (lv' := [(9, .long 0), (7, .int 1), (5, .long k_x), (8, .int k_h), (0, .ref a_wk), (1, .int p_b), (2, .int p_c), (3, .int p_f), (4, .int p_e)]) hx hb dX9_firstSight_53 hl (by decide +kernel) rfl ?_
      clear hl
      intro ls hl
      refine lv_iconst (v := 0) hx hb dX9_firstSight_55 (by decide +kernel) ?_
      refine lv_istore (lv' := [(11, .int 0), (9, .long 0), (7, .int 1), (5, .long k_x), (8, .int k_h), (0, .ref a_wk), (1, .int p_b), (2, .int p_c), (3, .int p_f), (4, .int p_e)]) hx hb dX9_firstSight_56 hl (by decide +kernel) rfl ?_
      clear hl
      intro ls hl
      refine g5_loop (α := (Int64) × (Int32) × (Int32) × (Int32) × (Int32) × (Int32) × (Int32) × (Int32) × (Int32) × (Int32) × (Int32) × (Int32) × (Nat → Int32) × (Nat → Int32) × (Nat → Int64) × (Int32) × (Nat → Int32)) (fun (q : (Int64) × (Int32) × (Int32) × (Int32) × (Int32) × (Int32) × (Int32) × (Int32) × (Int32) × (Int32) × (Int32) × (Int32) × (Nat → Int32) × (Nat → Int32) × (Nat → Int64) × (Int32) × (Nat → Int32)) (ls : Array Slot) (H : Heap) (locs : List Loc) => match q with | (m_x, m_t, m_i, m_se, m_lh, m_br, m_we, m_me, m_ce, m_wy, m_ho, m_ov, m_pt, m_as, m_sk, m_ln, m_mt) => lv_has ls 13 [(7, .int m_t), (9, .long m_x), (11, .int m_i), (5, .long k_x), (8, .int k_h), (0, .ref a_wk), (1, .int p_b), (2, .int p_c), (3, .int p_f), (4, .int p_e)] ∧ va_P G.1 vwCl [(a_k, (oc5 a_h a_j a_pt m_ln m_se m_lh m_br m_we m_me m_ce m_wy m_ho m_ov)), (a_g, (oc6 6 5 a_gn e_g)), (a_gn, (arI G 30 f_g)), (a_p, (oc6 8 5 a_pn e_p)), (a_pn, (arI G 40 f_p)), (a_bb, (arJ G 24 f_bb)), (a_j, (oc2 a_as a_sk)), (a_as, (arI G 8 m_as)), (a_sk, (arJ G 50 m_sk)), (a_l, (arW G 6 f_l)), (a_pt, (arI G 200 m_pt)), (a_go, (arJ G 24 k_go)), (a_mt, (arI G 1536 m_mt)), (a_h, (oc1 e_wa e_le e_st e_fo e_lc a_l a_g a_b a_s a_p a_w e_gb a_bb)), (a_b, (oc6 5 24 a_bn e_b)), (a_bn, (arI G 120 f_b)), (a_wk, (oc9 a_h a_k a_go a_mt))] H ∧ va_D A [(a_k, (oc5 a_h a_j a_pt m_ln m_se m_lh m_br m_we m_me m_ce m_wy m_ho m_ov)), (a_g, (oc6 6 5 a_gn e_g)), (a_gn, (arI G 30 f_g)), (a_p, (oc6 8 5 a_pn e_p)), (a_pn, (arI G 40 f_p)), (a_bb, (arJ G 24 f_bb)), (a_j, (oc2 a_as a_sk)), (a_as, (arI G 8 m_as)), (a_sk, (arJ G 50 m_sk)), (a_l, (arW G 6 f_l)), (a_pt, (arI G 200 m_pt)), (a_go, (arJ G 24 k_go)), (a_mt, (arI G 1536 m_mt)), (a_h, (oc1 e_wa e_le e_st e_fo e_lc a_l a_g a_b a_s a_p a_w e_gb a_bb)), (a_b, (oc6 5 24 a_bn e_b)), (a_bn, (arI G 120 f_b)), (a_wk, (oc9 a_h a_k a_go a_mt))] ∧ va_S A s.heap H locs ∧ (0 ≤ m_t.toInt ∧ m_t.toInt ≤ 1) ∧ (0 ≤ m_i.toInt ∧ m_i.toInt ≤ 64) ∧ (0 ≤ m_ov.toInt ∧ m_ov.toInt ≤ 1)) (fun (q : (Int64) × (Int32) × (Int32) × (Int32) × (Int32) × (Int32) × (Int32) × (Int32) × (Int32) × (Int32) × (Int32) × (Int32) × (Nat → Int32) × (Nat → Int32) × (Nat → Int64) × (Int32) × (Nat → Int32)) => match q with | (m_x, m_t, m_i, m_se, m_lh, m_br, m_we, m_me, m_ce, m_wy, m_ho, m_ov, m_pt, m_as, m_sk, m_ln, m_mt) => Int.toNat (64 - m_i.toInt)) (0, 1, 0, k_se, k_lh, k_br, k_we, k_me, k_ce, k_wy, k_ho, k_ov, k_pt, k_as, k_sk, k_ln, k_mt) ⟨lv_sub hl [2, 1, 0, 3, 4, 5, 6, 7, 8, 9] rfl, hP, hD, hS, ⟨by decide, by decide⟩, ⟨by decide, by decide⟩, i_6⟩ ?_
      rintro ⟨m_x, m_t, m_i, m_se, m_lh, m_br, m_we, m_me, m_ce, m_wy, m_ho, m_ov, m_pt, m_as, m_sk, m_ln, m_mt⟩ ls H locs ⟨hl, hP, hD, hS, (i_11 : 0 ≤ m_t.toInt ∧ m_t.toInt ≤ 1), (i_12 : 0 ≤ m_i.toInt ∧ m_i.toInt ≤ 64), (i_13 : 0 ≤ m_ov.toInt ∧ m_ov.toInt ≤ 1)⟩ ih_58_14
      replace hl : lv_has ls 13 [(7, .int m_t), (9, .long m_x), (11, .int m_i), (5, .long k_x), (8, .int k_h), (0, .ref a_wk), (1, .int p_b), (2, .int p_c), (3, .int p_f), (4, .int p_e)] := hl
      refine g5_rs [(a_k, (oc5 a_h a_j a_pt m_ln m_se m_lh m_br m_we m_me m_ce m_wy m_ho m_ov)), (a_g, (oc6 6 5 a_gn e_g)), (a_gn, (arI G 30 f_g)), (a_p, (oc6 8 5 a_pn e_p)), (a_pn, (arI G 40 f_p)), (a_bb, (arJ G 24 f_bb)), (a_j, (oc2 a_as a_sk)), (a_as, (arI G 8 m_as)), (a_sk, (arJ G 50 m_sk)), (a_l, (arW G 6 f_l)), (a_pt, (arI G 200 m_pt)), (a_go, (arJ G 24 k_go)), (a_mt, (arI G 1536 m_mt)), (a_h, (oc1 e_wa e_le e_st e_fo e_lc a_l a_g a_b a_s a_p a_w e_gb a_bb)), (a_b, (oc6 5 24 a_bn e_b)), (a_bn, (arI G 120 f_b)), (a_wk, (oc9 a_h a_k a_go a_mt))] hP hD ?_
      clear hP hD
      intro hP hD
      refine lv_iload hx hb dX9_firstSight_58 (lv_at hl 2 rfl) ?_
      refine lv_bipush (v := 64) hx hb dX9_firstSight_60 (by decide +kernel) ?_
      refine lv_icmp_ge (tgt := 155) hx hb dX9_firstSight_62 (by decide +kernel) (fun c_15 => ?_) (fun c_15 => ?_)
      ·
        have i_15 : m_i.toInt ≥ 64 := g5_ge (a := m_i.toInt) (b := 64) rfl (by decide +kernel) c_15
        refine lv_aload_n hx hb dX9_firstSight_155 rfl (lv_at hl 5 rfl) ?_
        refine va_get (D := G.1) (ci := 9) (v := .ref a_go) (C := RX9) (T := TX9) (N := 4) hx hb hts inG_X9 hown hK hP 16 rfl rfl 2 (by decide +kernel) (hts _ fl_X9_9) (fun _ h9 => h9) rfl dX9_firstSight_156 ?_
        refine lv_iload hx hb dX9_firstSight_159 (lv_at hl 4 rfl) ?_
        refine lv_lload hx hb dX9_firstSight_161 (lv_at hl 1 rfl) ?_
        refine W.eq (g2 := F0 m 163 ls [.long m_x, .int k_h, .ref a_go]) rfl ?_
        refine va_last hx hb hK hP hD hS 11 1 rfl rfl (i := k_h) (x := m_x) (vp_in_iff.mpr ⟨by omega, by omega⟩) dX9_firstSight_163 ?_
        clear hP hD hS
        intro H locs hP hD hS
        refine g5_rs [(a_k, (oc5 a_h a_j a_pt m_ln m_se m_lh m_br m_we m_me m_ce m_wy m_ho m_ov)), (a_g, (oc6 6 5 a_gn e_g)), (a_gn, (arI G 30 f_g)), (a_p, (oc6 8 5 a_pn e_p)), (a_pn, (arI G 40 f_p)), (a_bb, (arJ G 24 f_bb)), (a_j, (oc2 a_as a_sk)), (a_as, (arI G 8 m_as)), (a_sk, (arJ G 50 m_sk)), (a_l, (arW G 6 f_l)), (a_pt, (arI G 200 m_pt)), (a_go, (arJ G 24 (vp_updL k_go k_h.toNatClampNeg m_x))), (a_mt, (arI G 1536 m_mt)), (a_h, (oc1 e_wa e_le e_st e_fo e_lc a_l a_g a_b a_s a_p a_w e_gb a_bb)), (a_b, (oc6 5 24 a_bn e_b)), (a_bn, (arI G 120 f_b)), (a_wk, (oc9 a_h a_k a_go a_mt))] hP hD ?_
        clear hP hD
        intro hP hD
        refine lv_lload hx hb dX9_firstSight_164 (lv_at hl 1 rfl) ?_
        refine lv_lconst (v := 0) hx hb dX9_firstSight_166 (by decide +kernel) ?_
        refine W.lcmp hx hb dX9_firstSight_167 ?_
        refine lv_if_eq (tgt := 174) hx hb dX9_firstSight_168 (by decide +kernel) (fun c_16 => ?_) (fun c_16 => ?_)
        ·
          have i_16 : (lg_cmp m_x 0).toInt = 0 := g5_eq (a := (lg_cmp m_x 0).toInt) (b := 0) rfl (by decide +kernel) c_16
          refine lv_aload_n hx hb dX9_firstSight_174 rfl (lv_at hl 5 rfl) ?_
          refine lv_lload hx hb dX9_firstSight_175 (lv_at hl 3 rfl) ?_
          obtain ⟨hPc, hDc, hFc⟩ := g5_sub3 (wc := [(a_h, (oc1 e_wa e_le e_st e_fo e_lc a_l a_g a_b a_s a_p a_w e_gb a_bb)), (a_wk, (oc9 a_h a_k a_go a_mt))]) hP hD hS hA [13, 16] (by decide +kernel) rfl
          refine va_calll (va_runV (As := [.long k_x]) (rest := []) ⟨hx, hb, hml, hown, hts⟩ (a_spread l G a_h a_wk a_l a_g a_b a_s a_p a_w a_bb a_k a_go a_mt H.size e_le e_st e_fo e_lc e_wa e_gb k_x) (cwV 1 hts gV_X9_56 rfl rfl rfl hv_X9_spread ⟨Nat.le_of_ble_eq_true rfl, Nat.le_of_ble_eq_true rfl⟩) (g5_preV hPc hK hDc hN hT hS hFc (ci := 9) (q0 := 1) rfl rfl) rfl rfl hl.1 rfl (lv_room (Nat.le_of_ble_eq_true rfl)) dX9_firstSight_177 ⟨Nat.le_of_ble_eq_true rfl, Nat.le_of_ble_eq_true rfl⟩) hS (fun q _ h => hFc q h) hFc (fun r u t H locs ht hvm hw hB hz1 hk1 hS => ?_)
          obtain ⟨hP1, hD1⟩ := hB
          have hP1 := g5_ht ht hP1
          obtain ⟨z17, y18, rfl⟩ := hw
          have hJ9 := va_join (wr := [(a_k, (oc5 a_h a_j a_pt m_ln m_se m_lh m_br m_we m_me m_ce m_wy m_ho m_ov)), (a_g, (oc6 6 5 a_gn e_g)), (a_gn, (arI G 30 f_g)), (a_p, (oc6 8 5 a_pn e_p)), (a_pn, (arI G 40 f_p)), (a_bb, (arJ G 24 f_bb)), (a_j, (oc2 a_as a_sk)), (a_as, (arI G 8 m_as)), (a_sk, (arJ G 50 m_sk)), (a_l, (arW G 6 f_l)), (a_pt, (arI G 200 m_pt)), (a_go, (arJ G 24 (vp_updL k_go k_h.toNatClampNeg m_x))), (a_mt, (arI G 1536 m_mt)), (a_b, (oc6 5 24 a_bn e_b)), (a_bn, (arI G 120 f_b))]) hP hD [13, 16] [0, 1, 2, 3, 4, 5, 6, 7, 8, 9, 10, 11, 12, 14, 15] rfl rfl (by decide +kernel) (by decide +kernel) hk1 hFc hP1 hD1
          clear hP hD hPc hDc hFc ht hvm hz1 hk1 hP1 hD1
          obtain ⟨hP, hD⟩ := hJ9
          refine g5_rs [(a_k, (oc5 a_h a_j a_pt m_ln m_se m_lh m_br m_we m_me m_ce m_wy m_ho m_ov)), (a_g, (oc6 6 5 a_gn e_g)), (a_gn, (arI G 30 f_g)), (a_p, (oc6 8 5 a_pn e_p)), (a_pn, (arI G 40 f_p)), (a_bb, (arJ G 24 f_bb)), (a_j, (oc2 a_as a_sk)), (a_as, (arI G 8 m_as)), (a_sk, (arJ G 50 m_sk)), (a_l, (arW G 6 f_l)), (a_pt, (arI G 200 m_pt)), (a_go, (arJ G 24 (vp_updL k_go k_h.toNatClampNeg m_x))), (a_mt, (arI G 1536 m_mt)), (a_b, (oc6 5 24 a_bn e_b)), (a_bn, (arI G 120 f_b)), (a_h, (oc1 e_wa e_le e_st e_fo e_lc a_l a_g a_b a_s a_p a_w e_gb a_bb)), (a_wk, (oc9 a_h a_k a_go a_mt))] hP hD ?_
          clear hP hD
          intro hP hD
          refine g5_tl (v := z17) y18 ?_
          refine lv_lstore (lv' := [(5, .long z17), (7, .int m_t), (9, .long m_x), (11, .int m_i), (8, .int k_h), (0, .ref a_wk), (1, .int p_b), (2, .int p_c), (3, .int p_f), (4, .int p_e)]) hx hb dX9_firstSight_180 hl (by decide +kernel) rfl ?_
          clear hl
          intro ls hl
          refine W.eq (g2 := F0 m 182 ls []) rfl ?_
          refine lv_iinc (v := (k_h + 1)) (lv' := [(8, .int (k_h + 1)), (5, .long z17), (7, .int m_t), (9, .long m_x), (11, .int m_i), (0, .ref a_wk), (1, .int p_b), (2, .int p_c), (3, .int p_f), (4, .int p_e)]) hx hb dX9_firstSight_182 hl (k := 4) rfl rfl (by decide +kernel) rfl ?_
          clear hl
          intro ls hl
          have t_19 : (k_h + 1).toInt = k_h.toInt + 1 := g5_iadd (a := k_h.toInt) (b := 1) rfl (by decide +kernel) (by omega) (by omega)
          refine lv_goto (tgt := 16) hx hb dX9_firstSight_185 (by decide +kernel) ?_
          exact ih_16_8 (z17, m_t, (k_h + 1), m_se, m_lh, m_br, m_we, m_me, m_ce, m_wy, m_ho, m_ov, m_pt, m_as, m_sk, m_ln, (vp_updL k_go k_h.toNatClampNeg m_x), m_mt) ls H locs (show Int.toNat (24 - (k_h + 1).toInt) < Int.toNat (24 - k_h.toInt) from g_up (show k_h.toInt < (k_h + 1).toInt by omega) (show k_h.toInt < 24 by omega)) ⟨lv_sub hl [1, 2, 0, 5, 6, 7, 8, 9] rfl, hP.sub [0, 1, 2, 3, 4, 5, 6, 7, 8, 9, 10, 11, 12, 15, 13, 14, 16] rfl, hD.sub [0, 1, 2, 3, 4, 5, 6, 7, 8, 9, 10, 11, 12, 15, 13, 14, 16] (by decide +kernel) rfl, hS, i_11, ⟨by omega, by omega⟩, i_13, by omega⟩
        ·
          have n_16 : gNe ((lg_cmp m_x 0).toInt) (0) := g5_eqN (a := (lg_cmp m_x 0).toInt) (b := 0) rfl (by decide +kernel) c_16
          refine lv_iload hx hb dX9_firstSight_171 (lv_at hl 4 rfl) ?_
          exact W.iret (v := k_h) hx hb hr (fun t ht hW => ⟨⟨k_h, [(a_k, (oc5 a_h a_j a_pt m_ln m_se m_lh m_br m_we m_me m_ce m_wy m_ho m_ov)), (a_h, (oc1 e_wa e_le e_st e_fo e_lc a_l a_g a_b a_s a_p a_w e_gb a_bb)), (a_g, (oc6 6 5 a_gn e_g)), (a_gn, (arI G 30 f_g)), (a_b, (oc6 5 24 a_bn e_b)), (a_bn, (arI G 120 f_b)), (a_p, (oc6 8 5 a_pn e_p)), (a_pn, (arI G 40 f_p)), (a_bb, (arJ G 24 f_bb)), (a_j, (oc2 a_as a_sk)), (a_as, (arI G 8 m_as)), (a_sk, (arJ G 50 m_sk)), (a_l, (arW G 6 f_l)), (a_pt, (arI G 200 m_pt)), (a_wk, (oc9 a_h a_k a_go a_mt)), (a_go, (arJ G 24 (vp_updL k_go k_h.toNatClampNeg m_x))), (a_mt, (arI G 1536 m_mt))], rfl, ⟨k_h, m_ln, m_se, m_lh, m_br, m_we, m_me, m_ce, m_wy, m_ho, m_ov, m_pt, m_as, m_sk, (vp_updL k_go k_h.toNatClampNeg m_x), m_mt, i_13, ⟨by omega, by omega⟩, Or.inr ⟨by omega, by omega⟩, rfl, rfl⟩, by rw [ht]; exact hP.sub [0, 13, 1, 2, 14, 15, 3, 4, 5, 6, 7, 8, 9, 10, 16, 11, 12] rfl, hD.sub [0, 13, 1, 2, 14, 15, 3, 4, 5, 6, 7, 8, 9, 10, 16, 11, 12] (by decide +kernel) rfl⟩, hS.F ht⟩) hS.2.2 dX9_firstSight_173
      ·
        have i_15 : m_i.toInt < 64 := g5_geN (a := m_i.toInt) (b := 64) rfl (by decide +kernel) c_15
        refine lv_iload hx hb dX9_firstSight_65 (lv_at hl 0 rfl) ?_
        refine lv_if_eq (tgt := 99) hx hb dX9_firstSight_67 (by decide +kernel) (fun c_20 => ?_) (fun c_20 => ?_)
        ·
          have i_20 : m_t.toInt = 0 := g5_eq (a := m_t.toInt) (b := 0) rfl (by decide +kernel) c_20
          refine lv_iconst (v := 0) hx hb dX9_firstSight_99 (by decide +kernel) ?_
          refine lv_istore (lv' := [(12, .int 0), (7, .int m_t), (9, .long m_x), (11, .int m_i), (5, .long k_x), (8, .int k_h), (0, .ref a_wk), (1, .int p_b), (2, .int p_c), (3, .int p_f), (4, .int p_e)]) hx hb dX9_firstSight_100 hl (by decide +kernel) rfl ?_
          clear hl
          intro ls hl
          refine lv_lload hx hb dX9_firstSight_102 (lv_at hl 2 rfl) ?_
          refine lv_iload hx hb dX9_firstSight_104 (lv_at hl 0 rfl) ?_
          refine W.eq (g2 := F0 m 106 ls [.int 0, .long m_x]) rfl ?_
          refine lv_if_eq (tgt := 116) hx hb dX9_firstSight_106 (by decide +kernel) (fun c_21 => ?_) (fun c_21 => ?_)
          ·
            refine lv_lconst (v := 0) hx hb dX9_firstSight_116 (by decide +kernel) ?_
            refine lv_lor hx hb dX9_firstSight_117 ?_
            refine g5_tl (v := m_x) (by simp) ?_
            refine lv_lstore (lv' := [(9, .long m_x), (12, .int 0), (7, .int m_t), (11, .int m_i), (5, .long k_x), (8, .int k_h), (0, .ref a_wk), (1, .int p_b), (2, .int p_c), (3, .int p_f), (4, .int p_e)]) hx hb dX9_firstSight_118 hl (by decide +kernel) rfl ?_
            clear hl
            intro ls hl
            refine lv_aload_n hx hb dX9_firstSight_120 rfl (lv_at hl 6 rfl) ?_
            refine W.eq (g2 := F0 m 121 ls [.ref a_wk]) rfl ?_
            refine va_get (D := G.1) (ci := 9) (v := .ref a_mt) (C := RX9) (T := TX9) (N := 4) hx hb hts inG_X9 hown hK hP 16 rfl rfl 3 (by decide +kernel) (hts _ fl_X9_15) (fun _ h9 => h9) rfl dX9_firstSight_121 ?_
            refine lv_iload hx hb dX9_firstSight_124 (lv_at hl 5 rfl) ?_
            refine lv_bipush (v := 64) hx hb dX9_firstSight_126 (by decide +kernel) ?_
            refine lv_imul hx hb dX9_firstSight_128 ?_
            have t_22 : (k_h * 64).toInt = k_h.toInt * 64 := g5_imul (a := k_h.toInt) (b := 64) (by rfl) (by decide +kernel) (by omega) (by omega)
            refine lv_iload hx hb dX9_firstSight_129 (lv_at hl 3 rfl) ?_
            refine W.eq (g2 := F0 m 131 ls [.int m_i, .int (k_h * 64), .ref a_mt]) rfl ?_
            refine lv_iadd hx hb dX9_firstSight_131 ?_
            have t_23 : ((k_h * 64) + m_i).toInt = (k_h * 64).toInt + m_i.toInt := g5_iadd (a := (k_h * 64).toInt) (b := m_i.toInt) (by rfl) (by rfl) (by omega) (by omega)
            refine lv_iload hx hb dX9_firstSight_132 (lv_at hl 2 rfl) ?_
            refine lv_if_eq (tgt := 147) hx hb dX9_firstSight_134 (by decide +kernel) (fun c_24 => ?_) (fun c_24 => ?_)
            ·
              have i_24 : m_t.toInt = 0 := g5_eq (a := m_t.toInt) (b := 0) rfl (by decide +kernel) c_24
              refine lv_iconst (v := 0) hx hb dX9_firstSight_147 (by decide +kernel) ?_
              refine va_iast hx hb hK hP hD hS 12 0 rfl rfl (i := ((k_h * 64) + m_i)) (x := 0) (vp_in_iff.mpr ⟨by omega, by omega⟩) dX9_firstSight_148 ?_
              clear hP hD hS
              intro H locs hP hD hS
              refine g5_rs [(a_k, (oc5 a_h a_j a_pt m_ln m_se m_lh m_br m_we m_me m_ce m_wy m_ho m_ov)), (a_g, (oc6 6 5 a_gn e_g)), (a_gn, (arI G 30 f_g)), (a_p, (oc6 8 5 a_pn e_p)), (a_pn, (arI G 40 f_p)), (a_bb, (arJ G 24 f_bb)), (a_j, (oc2 a_as a_sk)), (a_as, (arI G 8 m_as)), (a_sk, (arJ G 50 m_sk)), (a_l, (arW G 6 f_l)), (a_pt, (arI G 200 m_pt)), (a_go, (arJ G 24 k_go)), (a_mt, (arI G 1536 (upd m_mt ((k_h * 64) + m_i).toNatClampNeg 0))), (a_h, (oc1 e_wa e_le e_st e_fo e_lc a_l a_g a_b a_s a_p a_w e_gb a_bb)), (a_b, (oc6 5 24 a_bn e_b)), (a_bn, (arI G 120 f_b)), (a_wk, (oc9 a_h a_k a_go a_mt))] hP hD ?_
              clear hP hD
              intro hP hD
              refine lv_iinc (v := (m_i + 1)) (lv' := [(11, .int (m_i + 1)), (9, .long m_x), (12, .int 0), (7, .int m_t), (5, .long k_x), (8, .int k_h), (0, .ref a_wk), (1, .int p_b), (2, .int p_c), (3, .int p_f), (4, .int p_e)]) hx hb dX9_firstSight_149 hl (k := 3) rfl rfl (by decide +kernel) rfl ?_
              clear hl
              intro ls hl
              have t_25 : (m_i + 1).toInt = m_i.toInt + 1 := g5_iadd (a := m_i.toInt) (b := 1) rfl (by decide +kernel) (by omega) (by omega)
              refine lv_goto (tgt := 58) hx hb dX9_firstSight_152 (by decide +kernel) ?_
              exact ih_58_14 (m_x, m_t, (m_i + 1), m_se, m_lh, m_br, m_we, m_me, m_ce, m_wy, m_ho, m_ov, m_pt, m_as, m_sk, m_ln, (upd m_mt ((k_h * 64) + m_i).toNatClampNeg 0)) ls H locs (show Int.toNat (64 - (m_i + 1).toInt) < Int.toNat (64 - m_i.toInt) from g_up (show m_i.toInt < (m_i + 1).toInt by omega) (show m_i.toInt < 64 by omega)) ⟨lv_sub hl [3, 1, 0, 4, 5, 6, 7, 8, 9, 10] rfl, hP, hD, hS, i_11, ⟨by omega, by omega⟩, i_13⟩
            ·
              have i_24 : m_t.toInt ≠ 0 := g5_eqN (a := m_t.toInt) (b := 0) rfl (by decide +kernel) c_24
              omega
          ·
            exact absurd c_21 (by decide +kernel)
        ·
          have n_20 : gNe (m_t.toInt) (0) := g5_eqN (a := m_t.toInt) (b := 0) rfl (by decide +kernel) c_20
          have i_20 : m_t.toInt ≥ 1 := by have z := g5_eqN (a := m_t.toInt) (b := 0) (by rfl) (by decide +kernel) c_20; omega
          refine lv_lload hx hb dX9_firstSight_70 (lv_at hl 3 rfl) ?_
          refine lv_iload hx hb dX9_firstSight_72 (lv_at hl 2 rfl) ?_
          obtain ⟨hPc, hDc, hFc⟩ := g5_sub3 (wc := []) hP hD hS hA [] (by decide +kernel) rfl
          refine va_calli (va_runSN (As := [.long k_x, .int m_i]) (rest := []) ⟨hx, hb, hml, hown, hts⟩ (k_isOn l G H.size m_i k_x ⟨by omega, by omega⟩) ⟨va_cnB 2 hts gW_X11_isOn rfl rfl rfl (hN.1 _ g5_nw_X9_43) (hts _ ini_X11) hs_X11_isOn ⟨Nat.le_of_ble_eq_true rfl, Nat.le_of_ble_eq_true rfl⟩, hts _ st_X11_isOn, trivial⟩ (g5_preS hPc hK hDc hN hT hS hFc) rfl rfl hl.1 rfl (lv_room (Nat.le_of_ble_eq_true rfl)) dX9_firstSight_74 ⟨Nat.le_of_ble_eq_true rfl, Nat.le_of_ble_eq_true rfl⟩) hS (fun q _ h => hFc q h) hFc (fun r u t H locs ht hvm hw hB hz1 hk1 hS => ?_)
          obtain ⟨hP1, hD1⟩ := hB
          have hP1 := g5_ht ht hP1
          rcases hw with ⟨(i_26 : onB k_x m_i.toInt = false), rfl, rfl⟩ | ⟨(i_27 : onB k_x m_i.toInt = true), rfl, rfl⟩
          ·
            have hJ9 := g5_same hP hk1
            clear hP hPc hDc hFc ht hvm hz1 hk1 hP1 hD1
            have hP := hJ9
            clear hJ9
            refine lv_if_eq (tgt := 99) hx hb dX9_firstSight_77 (by decide +kernel) (fun c_28 => ?_) (fun c_28 => ?_)
            ·
              refine lv_iconst (v := 0) hx hb dX9_firstSight_99 (by decide +kernel) ?_
              refine lv_istore (lv' := [(12, .int 0), (7, .int m_t), (9, .long m_x), (11, .int m_i), (5, .long k_x), (8, .int k_h), (0, .ref a_wk), (1, .int p_b), (2, .int p_c), (3, .int p_f), (4, .int p_e)]) hx hb dX9_firstSight_100 hl (by decide +kernel) rfl ?_
              clear hl
              intro ls hl
              refine lv_lload hx hb dX9_firstSight_102 (lv_at hl 2 rfl) ?_
              refine lv_iload hx hb dX9_firstSight_104 (lv_at hl 0 rfl) ?_
              refine W.eq (g2 := F0 m 106 ls [.int 0, .long m_x]) rfl ?_
              refine lv_if_eq (tgt := 116) hx hb dX9_firstSight_106 (by decide +kernel) (fun c_29 => ?_) (fun c_29 => ?_)
              ·
                refine lv_lconst (v := 0) hx hb dX9_firstSight_116 (by decide +kernel) ?_
                refine lv_lor hx hb dX9_firstSight_117 ?_
                refine g5_tl (v := m_x) (by simp) ?_
                refine lv_lstore (lv' := [(9, .long m_x), (12, .int 0), (7, .int m_t), (11, .int m_i), (5, .long k_x), (8, .int k_h), (0, .ref a_wk), (1, .int p_b), (2, .int p_c), (3, .int p_f), (4, .int p_e)]) hx hb dX9_firstSight_118 hl (by decide +kernel) rfl ?_
                clear hl
                intro ls hl
                refine lv_aload_n hx hb dX9_firstSight_120 rfl (lv_at hl 6 rfl) ?_
                refine W.eq (g2 := F0 m 121 ls [.ref a_wk]) rfl ?_
                refine va_get (D := G.1) (ci := 9) (v := .ref a_mt) (C := RX9) (T := TX9) (N := 4) hx hb hts inG_X9 hown hK hP 16 rfl rfl 3 (by decide +kernel) (hts _ fl_X9_15) (fun _ h9 => h9) rfl dX9_firstSight_121 ?_
                refine lv_iload hx hb dX9_firstSight_124 (lv_at hl 5 rfl) ?_
                refine lv_bipush (v := 64) hx hb dX9_firstSight_126 (by decide +kernel) ?_
                refine lv_imul hx hb dX9_firstSight_128 ?_
                have t_30 : (k_h * 64).toInt = k_h.toInt * 64 := g5_imul (a := k_h.toInt) (b := 64) (by rfl) (by decide +kernel) (by omega) (by omega)
                refine lv_iload hx hb dX9_firstSight_129 (lv_at hl 3 rfl) ?_
                refine W.eq (g2 := F0 m 131 ls [.int m_i, .int (k_h * 64), .ref a_mt]) rfl ?_
                refine lv_iadd hx hb dX9_firstSight_131 ?_
                have t_31 : ((k_h * 64) + m_i).toInt = (k_h * 64).toInt + m_i.toInt := g5_iadd (a := (k_h * 64).toInt) (b := m_i.toInt) (by rfl) (by rfl) (by omega) (by omega)
                refine lv_iload hx hb dX9_firstSight_132 (lv_at hl 2 rfl) ?_
                refine lv_if_eq (tgt := 147) hx hb dX9_firstSight_134 (by decide +kernel) (fun c_32 => ?_) (fun c_32 => ?_)
                ·
                  have i_32 : m_t.toInt = 0 := g5_eq (a := m_t.toInt) (b := 0) rfl (by decide +kernel) c_32
                  omega
                ·
                  have n_32 : gNe (m_t.toInt) (0) := g5_eqN (a := m_t.toInt) (b := 0) rfl (by decide +kernel) c_32
                  refine lv_aload_n hx hb dX9_firstSight_137 rfl (lv_at hl 6 rfl) ?_
                  refine va_get (D := G.1) (ci := 9) (v := .ref a_k) (C := RX9) (T := TX9) (N := 4) hx hb hts inG_X9 hown hK hP 16 rfl rfl 1 (by decide +kernel) (hts _ fl_X9_23) (fun _ h9 => h9) rfl dX9_firstSight_138 ?_
                  refine va_get (D := G.1) (ci := 5) (v := .int m_me) (C := RX5) (T := TX5) (N := 13) hx hb hts inG_X5 hown hK hP 0 rfl rfl 8 (by decide +kernel) (hts _ fl_X9_53) (fun _ h9 => h9) rfl dX9_firstSight_141 ?_
                  refine lv_goto (tgt := 148) hx hb dX9_firstSight_144 (by decide +kernel) ?_
                  refine W.eq (g2 := F0 m 148 ls [.int m_me, .int ((k_h * 64) + m_i), .ref a_mt]) rfl ?_
                  refine va_iast hx hb hK hP hD hS 12 0 rfl rfl (i := ((k_h * 64) + m_i)) (x := m_me) (vp_in_iff.mpr ⟨by omega, by omega⟩) dX9_firstSight_148 ?_
                  clear hP hD hS
                  intro H locs hP hD hS
                  refine g5_rs [(a_k, (oc5 a_h a_j a_pt m_ln m_se m_lh m_br m_we m_me m_ce m_wy m_ho m_ov)), (a_g, (oc6 6 5 a_gn e_g)), (a_gn, (arI G 30 f_g)), (a_p, (oc6 8 5 a_pn e_p)), (a_pn, (arI G 40 f_p)), (a_bb, (arJ G 24 f_bb)), (a_j, (oc2 a_as a_sk)), (a_as, (arI G 8 m_as)), (a_sk, (arJ G 50 m_sk)), (a_l, (arW G 6 f_l)), (a_pt, (arI G 200 m_pt)), (a_go, (arJ G 24 k_go)), (a_mt, (arI G 1536 (upd m_mt ((k_h * 64) + m_i).toNatClampNeg m_me))), (a_h, (oc1 e_wa e_le e_st e_fo e_lc a_l a_g a_b a_s a_p a_w e_gb a_bb)), (a_b, (oc6 5 24 a_bn e_b)), (a_bn, (arI G 120 f_b)), (a_wk, (oc9 a_h a_k a_go a_mt))] hP hD ?_
                  clear hP hD
                  intro hP hD
                  refine lv_iinc (v := (m_i + 1)) (lv' := [(11, .int (m_i + 1)), (9, .long m_x), (12, .int 0), (7, .int m_t), (5, .long k_x), (8, .int k_h), (0, .ref a_wk), (1, .int p_b), (2, .int p_c), (3, .int p_f), (4, .int p_e)]) hx hb dX9_firstSight_149 hl (k := 3) rfl rfl (by decide +kernel) rfl ?_
                  clear hl
                  intro ls hl
                  have t_33 : (m_i + 1).toInt = m_i.toInt + 1 := g5_iadd (a := m_i.toInt) (b := 1) rfl (by decide +kernel) (by omega) (by omega)
                  refine lv_goto (tgt := 58) hx hb dX9_firstSight_152 (by decide +kernel) ?_
                  exact ih_58_14 (m_x, m_t, (m_i + 1), m_se, m_lh, m_br, m_we, m_me, m_ce, m_wy, m_ho, m_ov, m_pt, m_as, m_sk, m_ln, (upd m_mt ((k_h * 64) + m_i).toNatClampNeg m_me)) ls H locs (show Int.toNat (64 - (m_i + 1).toInt) < Int.toNat (64 - m_i.toInt) from g_up (show m_i.toInt < (m_i + 1).toInt by omega) (show m_i.toInt < 64 by omega)) ⟨lv_sub hl [3, 1, 0, 4, 5, 6, 7, 8, 9, 10] rfl, hP, hD, hS, i_11, ⟨by omega, by omega⟩, i_13⟩
              ·
                exact absurd c_29 (by decide +kernel)
            ·
              exact absurd c_28 (by decide +kernel)
          ·
            have hJ9 := g5_same hP hk1
            clear hP hPc hDc hFc ht hvm hz1 hk1 hP1 hD1
            have hP := hJ9
            clear hJ9
            refine lv_if_eq (tgt := 99) hx hb dX9_firstSight_77 (by decide +kernel) (fun c_34 => ?_) (fun c_34 => ?_)
            ·
              exact absurd c_34 (by decide +kernel)
            ·
              refine lv_aload_n hx hb dX9_firstSight_80 rfl (lv_at hl 5 rfl) ?_
              refine va_get (D := G.1) (ci := 9) (v := .ref a_k) (C := RX9) (T := TX9) (N := 4) hx hb hts inG_X9 hown hK hP 16 rfl rfl 1 (by decide +kernel) (hts _ fl_X9_23) (fun _ h9 => h9) rfl dX9_firstSight_81 ?_
              refine lv_iload_n hx hb dX9_firstSight_84 rfl (lv_at hl 6 rfl) ?_
              refine lv_iload hx hb dX9_firstSight_85 (lv_at hl 2 rfl) ?_
              refine W.eq (g2 := F0 m 87 ls [.int m_i, .int p_b, .ref a_k]) rfl ?_
              refine lv_iload hx hb dX9_firstSight_87 (lv_at hl 4 rfl) ?_
              obtain ⟨hPc, hDc, hFc⟩ := g5_sub3 (wc := [(a_k, (oc5 a_h a_j a_pt m_ln m_se m_lh m_br m_we m_me m_ce m_wy m_ho m_ov)), (a_h, (oc1 e_wa e_le e_st e_fo e_lc a_l a_g a_b a_s a_p a_w e_gb a_bb)), (a_g, (oc6 6 5 a_gn e_g)), (a_gn, (arI G 30 f_g)), (a_b, (oc6 5 24 a_bn e_b)), (a_bn, (arI G 120 f_b)), (a_p, (oc6 8 5 a_pn e_p)), (a_pn, (arI G 40 f_p)), (a_bb, (arJ G 24 f_bb)), (a_j, (oc2 a_as a_sk)), (a_as, (arI G 8 m_as)), (a_sk, (arJ G 50 m_sk)), (a_l, (arW G 6 f_l)), (a_pt, (arI G 200 m_pt))]) hP hD hS hA [0, 13, 1, 2, 14, 15, 3, 4, 5, 6, 7, 8, 9, 10] (by decide +kernel) rfl
              refine va_calli (va_runV (As := [.int p_b, .int m_i, .int k_h]) (rest := []) ⟨hx, hb, hml, hown, hts⟩ (s_findsBodyN l G a_k a_h a_g a_gn a_b a_bn a_p a_pn a_bb a_j a_as a_sk a_l a_pt a_s a_w H.size e_le e_st e_fo e_lc e_g e_b e_p m_ln m_se m_lh m_br m_we m_me m_ce m_wy m_ho m_ov m_i k_h p_b e_wa e_gb f_g f_b f_p f_bb m_as m_sk f_l m_pt h_e_g h_e_b h_e_p i_13 (e_gk) (e_pk) (e_gi) (e_f)) (cwV 3 hts gV_X9_47 rfl rfl rfl hv_X5_findsBody ⟨Nat.le_of_ble_eq_true rfl, Nat.le_of_ble_eq_true rfl⟩) (g5_preV hPc hK hDc hN hT hS hFc (ci := 5) (q0 := 0) rfl rfl) rfl rfl hl.1 rfl (lv_room (Nat.le_of_ble_eq_true rfl)) dX9_firstSight_89 ⟨Nat.le_of_ble_eq_true rfl, Nat.le_of_ble_eq_true rfl⟩) hS (fun q _ h => hFc q h) hFc (fun r u t H locs ht hvm hw hB hz1 hk1 hS => ?_)
              obtain ⟨hP1, hD1⟩ := hB
              have hP1 := g5_ht ht hP1
              obtain ⟨z37, z38, z39, z40, z41, z42, z43, z44, z45, z46, z47, z48, z49, z50, (i_35 : 0 ≤ z37.toInt ∧ z37.toInt ≤ 1), (i_36 : 0 ≤ z47.toInt ∧ z47.toInt ≤ 1), y51, rfl⟩ := hw
              have hJ9 := va_join (wr := [(a_go, (arJ G 24 k_go)), (a_mt, (arI G 1536 m_mt)), (a_wk, (oc9 a_h a_k a_go a_mt))]) hP hD [0, 13, 1, 2, 14, 15, 3, 4, 5, 6, 7, 8, 9, 10] [11, 12, 16] rfl rfl (by decide +kernel) (by decide +kernel) hk1 hFc hP1 hD1
              clear hP hD hPc hDc hFc ht hvm hz1 hk1 hP1 hD1
              obtain ⟨hP, hD⟩ := hJ9
              refine g5_rs [(a_go, (arJ G 24 k_go)), (a_mt, (arI G 1536 m_mt)), (a_wk, (oc9 a_h a_k a_go a_mt)), (a_k, (oc5 a_h a_j a_pt z38 z39 z40 z41 z42 z43 z44 z45 z46 z47)), (a_h, (oc1 e_wa e_le e_st e_fo e_lc a_l a_g a_b a_s a_p a_w e_gb a_bb)), (a_g, (oc6 6 5 a_gn e_g)), (a_gn, (arI G 30 f_g)), (a_b, (oc6 5 24 a_bn e_b)), (a_bn, (arI G 120 f_b)), (a_p, (oc6 8 5 a_pn e_p)), (a_pn, (arI G 40 f_p)), (a_bb, (arJ G 24 f_bb)), (a_j, (oc2 a_as a_sk)), (a_as, (arI G 8 z49)), (a_sk, (arJ G 50 z50)), (a_l, (arW G 6 f_l)), (a_pt, (arI G 200 z48))] hP hD ?_
              clear hP hD
              intro hP hD
              refine g5_ti (v := z37) y51 ?_
              refine lv_if_eq (tgt := 99) hx hb dX9_firstSight_92 (by decide +kernel) (fun c_52 => ?_) (fun c_52 => ?_)
              ·
                have i_52 : z37.toInt = 0 := g5_eq (a := z37.toInt) (b := 0) rfl (by decide +kernel) c_52
                refine lv_iconst (v := 0) hx hb dX9_firstSight_99 (by decide +kernel) ?_
                refine lv_istore (lv' := [(12, .int 0), (7, .int m_t), (9, .long m_x), (11, .int m_i), (5, .long k_x), (8, .int k_h), (0, .ref a_wk), (1, .int p_b), (2, .int p_c), (3, .int p_f), (4, .int p_e)]) hx hb dX9_firstSight_100 hl (by decide +kernel) rfl ?_
                clear hl
                intro ls hl
                refine lv_lload hx hb dX9_firstSight_102 (lv_at hl 2 rfl) ?_
                refine lv_iload hx hb dX9_firstSight_104 (lv_at hl 0 rfl) ?_
                refine W.eq (g2 := F0 m 106 ls [.int 0, .long m_x]) rfl ?_
                refine lv_if_eq (tgt := 116) hx hb dX9_firstSight_106 (by decide +kernel) (fun c_53 => ?_) (fun c_53 => ?_)
                ·
                  refine lv_lconst (v := 0) hx hb dX9_firstSight_116 (by decide +kernel) ?_
                  refine lv_lor hx hb dX9_firstSight_117 ?_
                  refine g5_tl (v := m_x) (by simp) ?_
                  refine lv_lstore (lv' := [(9, .long m_x), (12, .int 0), (7, .int m_t), (11, .int m_i), (5, .long k_x), (8, .int k_h), (0, .ref a_wk), (1, .int p_b), (2, .int p_c), (3, .int p_f), (4, .int p_e)]) hx hb dX9_firstSight_118 hl (by decide +kernel) rfl ?_
                  clear hl
                  intro ls hl
                  refine lv_aload_n hx hb dX9_firstSight_120 rfl (lv_at hl 6 rfl) ?_
                  refine W.eq (g2 := F0 m 121 ls [.ref a_wk]) rfl ?_
                  refine va_get (D := G.1) (ci := 9) (v := .ref a_mt) (C := RX9) (T := TX9) (N := 4) hx hb hts inG_X9 hown hK hP 2 rfl rfl 3 (by decide +kernel) (hts _ fl_X9_15) (fun _ h9 => h9) rfl dX9_firstSight_121 ?_
                  refine lv_iload hx hb dX9_firstSight_124 (lv_at hl 5 rfl) ?_
                  refine lv_bipush (v := 64) hx hb dX9_firstSight_126 (by decide +kernel) ?_
                  refine lv_imul hx hb dX9_firstSight_128 ?_
                  have t_54 : (k_h * 64).toInt = k_h.toInt * 64 := g5_imul (a := k_h.toInt) (b := 64) (by rfl) (by decide +kernel) (by omega) (by omega)
                  refine lv_iload hx hb dX9_firstSight_129 (lv_at hl 3 rfl) ?_
                  refine W.eq (g2 := F0 m 131 ls [.int m_i, .int (k_h * 64), .ref a_mt]) rfl ?_
                  refine lv_iadd hx hb dX9_firstSight_131 ?_
                  have t_55 : ((k_h * 64) + m_i).toInt = (k_h * 64).toInt + m_i.toInt := g5_iadd (a := (k_h * 64).toInt) (b := m_i.toInt) (by rfl) (by rfl) (by omega) (by omega)
                  refine lv_iload hx hb dX9_firstSight_132 (lv_at hl 2 rfl) ?_
                  refine lv_if_eq (tgt := 147) hx hb dX9_firstSight_134 (by decide +kernel) (fun c_56 => ?_) (fun c_56 => ?_)
                  ·
                    have i_56 : m_t.toInt = 0 := g5_eq (a := m_t.toInt) (b := 0) rfl (by decide +kernel) c_56
                    omega
                  ·
                    have n_56 : gNe (m_t.toInt) (0) := g5_eqN (a := m_t.toInt) (b := 0) rfl (by decide +kernel) c_56
                    refine lv_aload_n hx hb dX9_firstSight_137 rfl (lv_at hl 6 rfl) ?_
                    refine va_get (D := G.1) (ci := 9) (v := .ref a_k) (C := RX9) (T := TX9) (N := 4) hx hb hts inG_X9 hown hK hP 2 rfl rfl 1 (by decide +kernel) (hts _ fl_X9_23) (fun _ h9 => h9) rfl dX9_firstSight_138 ?_
                    refine va_get (D := G.1) (ci := 5) (v := .int z43) (C := RX5) (T := TX5) (N := 13) hx hb hts inG_X5 hown hK hP 3 rfl rfl 8 (by decide +kernel) (hts _ fl_X9_53) (fun _ h9 => h9) rfl dX9_firstSight_141 ?_
                    refine lv_goto (tgt := 148) hx hb dX9_firstSight_144 (by decide +kernel) ?_
                    refine W.eq (g2 := F0 m 148 ls [.int z43, .int ((k_h * 64) + m_i), .ref a_mt]) rfl ?_
                    refine va_iast hx hb hK hP hD hS 1 0 rfl rfl (i := ((k_h * 64) + m_i)) (x := z43) (vp_in_iff.mpr ⟨by omega, by omega⟩) dX9_firstSight_148 ?_
                    clear hP hD hS
                    intro H locs hP hD hS
                    refine g5_rs [(a_go, (arJ G 24 k_go)), (a_mt, (arI G 1536 (upd m_mt ((k_h * 64) + m_i).toNatClampNeg z43))), (a_wk, (oc9 a_h a_k a_go a_mt)), (a_k, (oc5 a_h a_j a_pt z38 z39 z40 z41 z42 z43 z44 z45 z46 z47)), (a_h, (oc1 e_wa e_le e_st e_fo e_lc a_l a_g a_b a_s a_p a_w e_gb a_bb)), (a_g, (oc6 6 5 a_gn e_g)), (a_gn, (arI G 30 f_g)), (a_b, (oc6 5 24 a_bn e_b)), (a_bn, (arI G 120 f_b)), (a_p, (oc6 8 5 a_pn e_p)), (a_pn, (arI G 40 f_p)), (a_bb, (arJ G 24 f_bb)), (a_j, (oc2 a_as a_sk)), (a_as, (arI G 8 z49)), (a_sk, (arJ G 50 z50)), (a_l, (arW G 6 f_l)), (a_pt, (arI G 200 z48))] hP hD ?_
                    clear hP hD
                    intro hP hD
                    refine lv_iinc (v := (m_i + 1)) (lv' := [(11, .int (m_i + 1)), (9, .long m_x), (12, .int 0), (7, .int m_t), (5, .long k_x), (8, .int k_h), (0, .ref a_wk), (1, .int p_b), (2, .int p_c), (3, .int p_f), (4, .int p_e)]) hx hb dX9_firstSight_149 hl (k := 3) rfl rfl (by decide +kernel) rfl ?_
                    clear hl
                    intro ls hl
                    have t_57 : (m_i + 1).toInt = m_i.toInt + 1 := g5_iadd (a := m_i.toInt) (b := 1) rfl (by decide +kernel) (by omega) (by omega)
                    refine lv_goto (tgt := 58) hx hb dX9_firstSight_152 (by decide +kernel) ?_
                    exact ih_58_14 (m_x, m_t, (m_i + 1), z39, z40, z41, z42, z43, z44, z45, z46, z47, z48, z49, z50, z38, (upd m_mt ((k_h * 64) + m_i).toNatClampNeg z43)) ls H locs (show Int.toNat (64 - (m_i + 1).toInt) < Int.toNat (64 - m_i.toInt) from g_up (show m_i.toInt < (m_i + 1).toInt by omega) (show m_i.toInt < 64 by omega)) ⟨lv_sub hl [3, 1, 0, 4, 5, 6, 7, 8, 9, 10] rfl, hP.sub [3, 5, 6, 9, 10, 11, 12, 13, 14, 15, 16, 0, 1, 4, 7, 8, 2] rfl, hD.sub [3, 5, 6, 9, 10, 11, 12, 13, 14, 15, 16, 0, 1, 4, 7, 8, 2] (by decide +kernel) rfl, hS, i_11, ⟨by omega, by omega⟩, i_36⟩
                ·
                  exact absurd c_53 (by decide +kernel)
              ·
                have n_52 : gNe (z37.toInt) (0) := g5_eqN (a := z37.toInt) (b := 0) rfl (by decide +kernel) c_52
                have i_52 : z37.toInt ≥ 1 := by have z := g5_eqN (a := z37.toInt) (b := 0) (by rfl) (by decide +kernel) c_52; omega
                refine lv_iconst (v := 1) hx hb dX9_firstSight_95 (by decide +kernel) ?_
                refine lv_goto (tgt := 100) hx hb dX9_firstSight_96 (by decide +kernel) ?_
                refine lv_istore (lv' := [(12, .int 1), (7, .int m_t), (9, .long m_x), (11, .int m_i), (5, .long k_x), (8, .int k_h), (0, .ref a_wk), (1, .int p_b), (2, .int p_c), (3, .int p_f), (4, .int p_e)]) hx hb dX9_firstSight_100 hl (by decide +kernel) rfl ?_
                clear hl
                intro ls hl
                refine lv_lload hx hb dX9_firstSight_102 (lv_at hl 2 rfl) ?_
                refine W.eq (g2 := F0 m 104 ls [.long m_x]) rfl ?_
                refine lv_iload hx hb dX9_firstSight_104 (lv_at hl 0 rfl) ?_
                refine lv_if_eq (tgt := 116) hx hb dX9_firstSight_106 (by decide +kernel) (fun c_58 => ?_) (fun c_58 => ?_)
                ·
                  exact absurd c_58 (by decide +kernel)
                ·
                  refine lv_lconst (v := 1) hx hb dX9_firstSight_109 (by decide +kernel) ?_
                  refine lv_iload hx hb dX9_firstSight_110 (lv_at hl 3 rfl) ?_
                  refine lv_lshl (v := ((1 : Int64) <<< (m_i.toInt64 &&& 63))) hx hb dX9_firstSight_112 rfl ?_
                  refine lv_goto (tgt := 117) hx hb dX9_firstSight_113 (by decide +kernel) ?_
                  refine W.eq (g2 := F0 m 117 ls [.long ((1 : Int64) <<< (m_i.toInt64 &&& 63)), .long m_x]) rfl ?_
                  refine lv_lor hx hb dX9_firstSight_117 ?_
                  refine lv_lstore (lv' := [(9, .long (m_x ||| ((1 : Int64) <<< (m_i.toInt64 &&& 63)))), (12, .int 1), (7, .int m_t), (11, .int m_i), (5, .long k_x), (8, .int k_h), (0, .ref a_wk), (1, .int p_b), (2, .int p_c), (3, .int p_f), (4, .int p_e)]) hx hb dX9_firstSight_118 hl (by decide +kernel) rfl ?_
                  clear hl
                  intro ls hl
                  refine lv_aload_n hx hb dX9_firstSight_120 rfl (lv_at hl 6 rfl) ?_
                  refine va_get (D := G.1) (ci := 9) (v := .ref a_mt) (C := RX9) (T := TX9) (N := 4) hx hb hts inG_X9 hown hK hP 2 rfl rfl 3 (by decide +kernel) (hts _ fl_X9_15) (fun _ h9 => h9) rfl dX9_firstSight_121 ?_
                  refine lv_iload hx hb dX9_firstSight_124 (lv_at hl 5 rfl) ?_
                  refine W.eq (g2 := F0 m 126 ls [.int k_h, .ref a_mt]) rfl ?_
                  refine lv_bipush (v := 64) hx hb dX9_firstSight_126 (by decide +kernel) ?_
                  refine lv_imul hx hb dX9_firstSight_128 ?_
                  have t_59 : (k_h * 64).toInt = k_h.toInt * 64 := g5_imul (a := k_h.toInt) (b := 64) (by rfl) (by decide +kernel) (by omega) (by omega)
                  refine lv_iload hx hb dX9_firstSight_129 (lv_at hl 3 rfl) ?_
                  refine lv_iadd hx hb dX9_firstSight_131 ?_
                  have t_60 : ((k_h * 64) + m_i).toInt = (k_h * 64).toInt + m_i.toInt := g5_iadd (a := (k_h * 64).toInt) (b := m_i.toInt) (by rfl) (by rfl) (by omega) (by omega)
                  refine lv_iload hx hb dX9_firstSight_132 (lv_at hl 2 rfl) ?_
                  refine W.eq (g2 := F0 m 134 ls [.int m_t, .int ((k_h * 64) + m_i), .ref a_mt]) rfl ?_
                  refine lv_if_eq (tgt := 147) hx hb dX9_firstSight_134 (by decide +kernel) (fun c_61 => ?_) (fun c_61 => ?_)
                  ·
                    have i_61 : m_t.toInt = 0 := g5_eq (a := m_t.toInt) (b := 0) rfl (by decide +kernel) c_61
                    omega
                  ·
                    have n_61 : gNe (m_t.toInt) (0) := g5_eqN (a := m_t.toInt) (b := 0) rfl (by decide +kernel) c_61
                    refine lv_aload_n hx hb dX9_firstSight_137 rfl (lv_at hl 6 rfl) ?_
                    refine va_get (D := G.1) (ci := 9) (v := .ref a_k) (C := RX9) (T := TX9) (N := 4) hx hb hts inG_X9 hown hK hP 2 rfl rfl 1 (by decide +kernel) (hts _ fl_X9_23) (fun _ h9 => h9) rfl dX9_firstSight_138 ?_
                    refine va_get (D := G.1) (ci := 5) (v := .int z43) (C := RX5) (T := TX5) (N := 13) hx hb hts inG_X5 hown hK hP 3 rfl rfl 8 (by decide +kernel) (hts _ fl_X9_53) (fun _ h9 => h9) rfl dX9_firstSight_141 ?_
                    refine lv_goto (tgt := 148) hx hb dX9_firstSight_144 (by decide +kernel) ?_
                    refine W.eq (g2 := F0 m 148 ls [.int z43, .int ((k_h * 64) + m_i), .ref a_mt]) rfl ?_
                    refine va_iast hx hb hK hP hD hS 1 0 rfl rfl (i := ((k_h * 64) + m_i)) (x := z43) (vp_in_iff.mpr ⟨by omega, by omega⟩) dX9_firstSight_148 ?_
                    clear hP hD hS
                    intro H locs hP hD hS
                    refine g5_rs [(a_go, (arJ G 24 k_go)), (a_mt, (arI G 1536 (upd m_mt ((k_h * 64) + m_i).toNatClampNeg z43))), (a_wk, (oc9 a_h a_k a_go a_mt)), (a_k, (oc5 a_h a_j a_pt z38 z39 z40 z41 z42 z43 z44 z45 z46 z47)), (a_h, (oc1 e_wa e_le e_st e_fo e_lc a_l a_g a_b a_s a_p a_w e_gb a_bb)), (a_g, (oc6 6 5 a_gn e_g)), (a_gn, (arI G 30 f_g)), (a_b, (oc6 5 24 a_bn e_b)), (a_bn, (arI G 120 f_b)), (a_p, (oc6 8 5 a_pn e_p)), (a_pn, (arI G 40 f_p)), (a_bb, (arJ G 24 f_bb)), (a_j, (oc2 a_as a_sk)), (a_as, (arI G 8 z49)), (a_sk, (arJ G 50 z50)), (a_l, (arW G 6 f_l)), (a_pt, (arI G 200 z48))] hP hD ?_
                    clear hP hD
                    intro hP hD
                    refine lv_iinc (v := (m_i + 1)) (lv' := [(11, .int (m_i + 1)), (9, .long (m_x ||| ((1 : Int64) <<< (m_i.toInt64 &&& 63)))), (12, .int 1), (7, .int m_t), (5, .long k_x), (8, .int k_h), (0, .ref a_wk), (1, .int p_b), (2, .int p_c), (3, .int p_f), (4, .int p_e)]) hx hb dX9_firstSight_149 hl (k := 3) rfl rfl (by decide +kernel) rfl ?_
                    clear hl
                    intro ls hl
                    have t_62 : (m_i + 1).toInt = m_i.toInt + 1 := g5_iadd (a := m_i.toInt) (b := 1) rfl (by decide +kernel) (by omega) (by omega)
                    refine lv_goto (tgt := 58) hx hb dX9_firstSight_152 (by decide +kernel) ?_
                    exact ih_58_14 ((m_x ||| ((1 : Int64) <<< (m_i.toInt64 &&& 63))), m_t, (m_i + 1), z39, z40, z41, z42, z43, z44, z45, z46, z47, z48, z49, z50, z38, (upd m_mt ((k_h * 64) + m_i).toNatClampNeg z43)) ls H locs (show Int.toNat (64 - (m_i + 1).toInt) < Int.toNat (64 - m_i.toInt) from g_up (show m_i.toInt < (m_i + 1).toInt by omega) (show m_i.toInt < 64 by omega)) ⟨lv_sub hl [3, 1, 0, 4, 5, 6, 7, 8, 9, 10] rfl, hP.sub [3, 5, 6, 9, 10, 11, 12, 13, 14, 15, 16, 0, 1, 4, 7, 8, 2] rfl, hD.sub [3, 5, 6, 9, 10, 11, 12, 13, 14, 15, 16, 0, 1, 4, 7, 8, 2] (by decide +kernel) rfl, hS, i_11, ⟨by omega, by omega⟩, i_36⟩
    ·
      have i_10 : k_t.toInt = 0 := g5_neN (a := k_t.toInt) (b := 0) rfl (by decide +kernel) c_10
      refine lv_aload_n hx hb dX9_firstSight_28 rfl (lv_at hl 3 rfl) ?_
      refine va_get (D := G.1) (ci := 9) (v := .ref a_h) (C := RX9) (T := TX9) (N := 4) hx hb hts inG_X9 hown hK hP 16 rfl rfl 0 (by decide +kernel) (hts _ fl_X9_19) (fun _ h9 => h9) rfl dX9_firstSight_29 ?_
      refine va_get (D := G.1) (ci := 1) (v := .ref a_b) (C := RX1) (T := TX1) (N := 13) hx hb hts inG_X1 hown hK hP 13 rfl rfl 7 (by decide +kernel) (hts _ fl_X9_31) (fun _ h9 => h9) rfl dX9_firstSight_32 ?_
      refine lv_iload_n hx hb dX9_firstSight_35 rfl (lv_at hl 4 rfl) ?_
      refine W.eq (g2 := F0 m 36 ls [.int p_b, .ref a_b]) rfl ?_
      refine lv_iload hx hb dX9_firstSight_36 (lv_at hl 2 rfl) ?_
      obtain ⟨hPc, hDc, hFc⟩ := g5_sub3 (wc := [(a_b, (oc6 5 24 a_bn e_b)), (a_bn, (arI G 120 f_b))]) hP hD hS hA [14, 15] (by decide +kernel) rfl
      refine va_calli (va_runV (As := [.int p_b, .int k_h]) (rest := []) ⟨hx, hb, hml, hown, hts⟩ (t_get_B l G a_b a_bn H.size e_b p_b k_h f_b h_e_b) (cwV 2 hts gV_X9_37 rfl rfl rfl hv_X6_get ⟨Nat.le_of_ble_eq_true rfl, Nat.le_of_ble_eq_true rfl⟩) (g5_preV hPc hK hDc hN hT hS hFc (ci := 6) (q0 := 0) rfl rfl) rfl rfl hl.1 rfl (lv_room (Nat.le_of_ble_eq_true rfl)) dX9_firstSight_38 ⟨Nat.le_of_ble_eq_true rfl, Nat.le_of_ble_eq_true rfl⟩) hS (fun q _ h => hFc q h) hFc (fun r u t H locs ht hvm hw hB hz1 hk1 hS => ?_)
      obtain ⟨hP1, hD1⟩ := hB
      have hP1 := g5_ht ht hP1
      obtain ⟨z64, (i_63 : z64 = tget f_b e_b.toInt 24 p_b.toInt k_h.toInt), y65, rfl⟩ := hw
      have hJ9 := va_join (wr := [(a_k, (oc5 a_h a_j a_pt k_ln k_se k_lh k_br k_we k_me k_ce k_wy k_ho k_ov)), (a_g, (oc6 6 5 a_gn e_g)), (a_gn, (arI G 30 f_g)), (a_p, (oc6 8 5 a_pn e_p)), (a_pn, (arI G 40 f_p)), (a_bb, (arJ G 24 f_bb)), (a_j, (oc2 a_as a_sk)), (a_as, (arI G 8 k_as)), (a_sk, (arJ G 50 k_sk)), (a_l, (arW G 6 f_l)), (a_pt, (arI G 200 k_pt)), (a_go, (arJ G 24 k_go)), (a_mt, (arI G 1536 k_mt)), (a_h, (oc1 e_wa e_le e_st e_fo e_lc a_l a_g a_b a_s a_p a_w e_gb a_bb)), (a_wk, (oc9 a_h a_k a_go a_mt))]) hP hD [14, 15] [0, 1, 2, 3, 4, 5, 6, 7, 8, 9, 10, 11, 12, 13, 16] rfl rfl (by decide +kernel) (by decide +kernel) hk1 hFc hP1 hD1
      clear hP hD hPc hDc hFc ht hvm hz1 hk1 hP1 hD1
      obtain ⟨hP, hD⟩ := hJ9
      refine g5_rs [(a_k, (oc5 a_h a_j a_pt k_ln k_se k_lh k_br k_we k_me k_ce k_wy k_ho k_ov)), (a_g, (oc6 6 5 a_gn e_g)), (a_gn, (arI G 30 f_g)), (a_p, (oc6 8 5 a_pn e_p)), (a_pn, (arI G 40 f_p)), (a_bb, (arJ G 24 f_bb)), (a_j, (oc2 a_as a_sk)), (a_as, (arI G 8 k_as)), (a_sk, (arJ G 50 k_sk)), (a_l, (arW G 6 f_l)), (a_pt, (arI G 200 k_pt)), (a_go, (arJ G 24 k_go)), (a_mt, (arI G 1536 k_mt)), (a_h, (oc1 e_wa e_le e_st e_fo e_lc a_l a_g a_b a_s a_p a_w e_gb a_bb)), (a_wk, (oc9 a_h a_k a_go a_mt)), (a_b, (oc6 5 24 a_bn e_b)), (a_bn, (arI G 120 f_b))] hP hD ?_
      clear hP hD
      intro hP hD
      refine g5_ti (v := z64) y65 ?_
      refine lv_iconst (v := (-1)) hx hb dX9_firstSight_41 (by decide +kernel) ?_
      refine lv_icmp_eq (tgt := 49) hx hb dX9_firstSight_42 (by decide +kernel) (fun c_66 => ?_) (fun c_66 => ?_)
      ·
        have i_66 : z64.toInt = (-1) := g5_eq (a := z64.toInt) (b := (-1)) rfl (by decide +kernel) c_66
        refine lv_iconst (v := 0) hx hb dX9_firstSight_49 (by decide +kernel) ?_
        refine lv_istore (lv' := [(7, .int 0), (5, .long k_x), (8, .int k_h), (0, .ref a_wk), (1, .int p_b), (2, .int p_c), (3, .int p_f), (4, .int p_e)]) hx hb dX9_firstSight_50 hl (by decide +kernel) rfl ?_
        clear hl
        intro ls hl
        refine lv_lconst (v := 0) hx hb dX9_firstSight_52 (by decide +kernel) ?_
        refine lv_lstore (lv' := [(9, .long 0), (7, .int 0), (5, .long k_x), (8, .int k_h), (0, .ref a_wk), (1, .int p_b), (2, .int p_c), (3, .int p_f), (4, .int p_e)]) hx hb dX9_firstSight_53 hl (by decide +kernel) rfl ?_
        clear hl
        intro ls hl
        refine W.eq (g2 := F0 m 55 ls []) rfl ?_
        refine lv_iconst (v := 0) hx hb dX9_firstSight_55 (by decide +kernel) ?_
        refine lv_istore (lv' := [(11, .int 0), (9, .long 0), (7, .int 0), (5, .long k_x), (8, .int k_h), (0, .ref a_wk), (1, .int p_b), (2, .int p_c), (3, .int p_f), (4, .int p_e)]) hx hb dX9_firstSight_56 hl (by decide +kernel) rfl ?_
        clear hl
        intro ls hl
        refine g5_loop (α := (Int64) × (Int32) × (Int32) × (Int32) × (Int32) × (Int32) × (Int32) × (Int32) × (Int32) × (Int32) × (Int32) × (Int32) × (Nat → Int32) × (Nat → Int32) × (Nat → Int64) × (Int32) × (Nat → Int32)) (fun (q : (Int64) × (Int32) × (Int32) × (Int32) × (Int32) × (Int32) × (Int32) × (Int32) × (Int32) × (Int32) × (Int32) × (Int32) × (Nat → Int32) × (Nat → Int32) × (Nat → Int64) × (Int32) × (Nat → Int32)) (ls : Array Slot) (H : Heap) (locs : List Loc) => match q with | (m_x, m_t, m_i, m_se, m_lh, m_br, m_we, m_me, m_ce, m_wy, m_ho, m_ov, m_pt, m_as, m_sk, m_ln, m_mt) => lv_has ls 13 [(7, .int m_t), (9, .long m_x), (11, .int m_i), (5, .long k_x), (8, .int k_h), (0, .ref a_wk), (1, .int p_b), (2, .int p_c), (3, .int p_f), (4, .int p_e)] ∧ va_P G.1 vwCl [(a_k, (oc5 a_h a_j a_pt m_ln m_se m_lh m_br m_we m_me m_ce m_wy m_ho m_ov)), (a_g, (oc6 6 5 a_gn e_g)), (a_gn, (arI G 30 f_g)), (a_p, (oc6 8 5 a_pn e_p)), (a_pn, (arI G 40 f_p)), (a_bb, (arJ G 24 f_bb)), (a_j, (oc2 a_as a_sk)), (a_as, (arI G 8 m_as)), (a_sk, (arJ G 50 m_sk)), (a_l, (arW G 6 f_l)), (a_pt, (arI G 200 m_pt)), (a_go, (arJ G 24 k_go)), (a_mt, (arI G 1536 m_mt)), (a_h, (oc1 e_wa e_le e_st e_fo e_lc a_l a_g a_b a_s a_p a_w e_gb a_bb)), (a_wk, (oc9 a_h a_k a_go a_mt)), (a_b, (oc6 5 24 a_bn e_b)), (a_bn, (arI G 120 f_b))] H ∧ va_D A [(a_k, (oc5 a_h a_j a_pt m_ln m_se m_lh m_br m_we m_me m_ce m_wy m_ho m_ov)), (a_g, (oc6 6 5 a_gn e_g)), (a_gn, (arI G 30 f_g)), (a_p, (oc6 8 5 a_pn e_p)), (a_pn, (arI G 40 f_p)), (a_bb, (arJ G 24 f_bb)), (a_j, (oc2 a_as a_sk)), (a_as, (arI G 8 m_as)), (a_sk, (arJ G 50 m_sk)), (a_l, (arW G 6 f_l)), (a_pt, (arI G 200 m_pt)), (a_go, (arJ G 24 k_go)), (a_mt, (arI G 1536 m_mt)), (a_h, (oc1 e_wa e_le e_st e_fo e_lc a_l a_g a_b a_s a_p a_w e_gb a_bb)), (a_wk, (oc9 a_h a_k a_go a_mt)), (a_b, (oc6 5 24 a_bn e_b)), (a_bn, (arI G 120 f_b))] ∧ va_S A s.heap H locs ∧ (0 ≤ m_t.toInt ∧ m_t.toInt ≤ 1) ∧ (0 ≤ m_i.toInt ∧ m_i.toInt ≤ 64) ∧ (0 ≤ m_ov.toInt ∧ m_ov.toInt ≤ 1)) (fun (q : (Int64) × (Int32) × (Int32) × (Int32) × (Int32) × (Int32) × (Int32) × (Int32) × (Int32) × (Int32) × (Int32) × (Int32) × (Nat → Int32) × (Nat → Int32) × (Nat → Int64) × (Int32) × (Nat → Int32)) => match q with | (m_x, m_t, m_i, m_se, m_lh, m_br, m_we, m_me, m_ce, m_wy, m_ho, m_ov, m_pt, m_as, m_sk, m_ln, m_mt) => Int.toNat (64 - m_i.toInt)) (0, 0, 0, k_se, k_lh, k_br, k_we, k_me, k_ce, k_wy, k_ho, k_ov, k_pt, k_as, k_sk, k_ln, k_mt) ⟨lv_sub hl [2, 1, 0, 3, 4, 5, 6, 7, 8, 9] rfl, hP, hD, hS, ⟨by decide, by decide⟩, ⟨by decide, by decide⟩, i_6⟩ ?_
        rintro ⟨m_x, m_t, m_i, m_se, m_lh, m_br, m_we, m_me, m_ce, m_wy, m_ho, m_ov, m_pt, m_as, m_sk, m_ln, m_mt⟩ ls H locs ⟨hl, hP, hD, hS, (i_67 : 0 ≤ m_t.toInt ∧ m_t.toInt ≤ 1), (i_68 : 0 ≤ m_i.toInt ∧ m_i.toInt ≤ 64), (i_69 : 0 ≤ m_ov.toInt ∧ m_ov.toInt ≤ 1)⟩ ih_58_70
        replace hl : lv_has ls 13 [(7, .int m_t), (9, .long m_x), (11, .int m_i), (5, .long k_x), (8, .int k_h), (0, .ref a_wk), (1, .int p_b), (2, .int p_c), (3, .int p_f), (4, .int p_e)] := hl
        refine g5_rs [(a_k, (oc5 a_h a_j a_pt m_ln m_se m_lh m_br m_we m_me m_ce m_wy m_ho m_ov)), (a_g, (oc6 6 5 a_gn e_g)), (a_gn, (arI G 30 f_g)), (a_p, (oc6 8 5 a_pn e_p)), (a_pn, (arI G 40 f_p)), (a_bb, (arJ G 24 f_bb)), (a_j, (oc2 a_as a_sk)), (a_as, (arI G 8 m_as)), (a_sk, (arJ G 50 m_sk)), (a_l, (arW G 6 f_l)), (a_pt, (arI G 200 m_pt)), (a_go, (arJ G 24 k_go)), (a_mt, (arI G 1536 m_mt)), (a_h, (oc1 e_wa e_le e_st e_fo e_lc a_l a_g a_b a_s a_p a_w e_gb a_bb)), (a_wk, (oc9 a_h a_k a_go a_mt)), (a_b, (oc6 5 24 a_bn e_b)), (a_bn, (arI G 120 f_b))] hP hD ?_
        clear hP hD
        intro hP hD
        refine lv_iload hx hb dX9_firstSight_58 (lv_at hl 2 rfl) ?_
        refine lv_bipush (v := 64) hx hb dX9_firstSight_60 (by decide +kernel) ?_
        refine lv_icmp_ge (tgt := 155) hx hb dX9_firstSight_62 (by decide +kernel) (fun c_71 => ?_) (fun c_71 => ?_)
        ·
          have i_71 : m_i.toInt ≥ 64 := g5_ge (a := m_i.toInt) (b := 64) rfl (by decide +kernel) c_71
          refine lv_aload_n hx hb dX9_firstSight_155 rfl (lv_at hl 5 rfl) ?_
          refine va_get (D := G.1) (ci := 9) (v := .ref a_go) (C := RX9) (T := TX9) (N := 4) hx hb hts inG_X9 hown hK hP 14 rfl rfl 2 (by decide +kernel) (hts _ fl_X9_9) (fun _ h9 => h9) rfl dX9_firstSight_156 ?_
          refine lv_iload hx hb dX9_firstSight_159 (lv_at hl 4 rfl) ?_
          refine lv_lload hx hb dX9_firstSight_161 (lv_at hl 1 rfl) ?_
          refine W.eq (g2 := F0 m 163 ls [.long m_x, .int k_h, .ref a_go]) rfl ?_
          refine va_last hx hb hK hP hD hS 11 1 rfl rfl (i := k_h) (x := m_x) (vp_in_iff.mpr ⟨by omega, by omega⟩) dX9_firstSight_163 ?_
          clear hP hD hS
          intro H locs hP hD hS
          refine g5_rs [(a_k, (oc5 a_h a_j a_pt m_ln m_se m_lh m_br m_we m_me m_ce m_wy m_ho m_ov)), (a_g, (oc6 6 5 a_gn e_g)), (a_gn, (arI G 30 f_g)), (a_p, (oc6 8 5 a_pn e_p)), (a_pn, (arI G 40 f_p)), (a_bb, (arJ G 24 f_bb)), (a_j, (oc2 a_as a_sk)), (a_as, (arI G 8 m_as)), (a_sk, (arJ G 50 m_sk)), (a_l, (arW G 6 f_l)), (a_pt, (arI G 200 m_pt)), (a_go, (arJ G 24 (vp_updL k_go k_h.toNatClampNeg m_x))), (a_mt, (arI G 1536 m_mt)), (a_h, (oc1 e_wa e_le e_st e_fo e_lc a_l a_g a_b a_s a_p a_w e_gb a_bb)), (a_wk, (oc9 a_h a_k a_go a_mt)), (a_b, (oc6 5 24 a_bn e_b)), (a_bn, (arI G 120 f_b))] hP hD ?_
          clear hP hD
          intro hP hD
          refine lv_lload hx hb dX9_firstSight_164 (lv_at hl 1 rfl) ?_
          refine lv_lconst (v := 0) hx hb dX9_firstSight_166 (by decide +kernel) ?_
          refine W.lcmp hx hb dX9_firstSight_167 ?_
          refine lv_if_eq (tgt := 174) hx hb dX9_firstSight_168 (by decide +kernel) (fun c_72 => ?_) (fun c_72 => ?_)
          ·
            have i_72 : (lg_cmp m_x 0).toInt = 0 := g5_eq (a := (lg_cmp m_x 0).toInt) (b := 0) rfl (by decide +kernel) c_72
            refine lv_aload_n hx hb dX9_firstSight_174 rfl (lv_at hl 5 rfl) ?_
            refine lv_lload hx hb dX9_firstSight_175 (lv_at hl 3 rfl) ?_
            obtain ⟨hPc, hDc, hFc⟩ := g5_sub3 (wc := [(a_h, (oc1 e_wa e_le e_st e_fo e_lc a_l a_g a_b a_s a_p a_w e_gb a_bb)), (a_wk, (oc9 a_h a_k a_go a_mt))]) hP hD hS hA [13, 14] (by decide +kernel) rfl
            refine va_calll (va_runV (As := [.long k_x]) (rest := []) ⟨hx, hb, hml, hown, hts⟩ (a_spread l G a_h a_wk a_l a_g a_b a_s a_p a_w a_bb a_k a_go a_mt H.size e_le e_st e_fo e_lc e_wa e_gb k_x) (cwV 1 hts gV_X9_56 rfl rfl rfl hv_X9_spread ⟨Nat.le_of_ble_eq_true rfl, Nat.le_of_ble_eq_true rfl⟩) (g5_preV hPc hK hDc hN hT hS hFc (ci := 9) (q0 := 1) rfl rfl) rfl rfl hl.1 rfl (lv_room (Nat.le_of_ble_eq_true rfl)) dX9_firstSight_177 ⟨Nat.le_of_ble_eq_true rfl, Nat.le_of_ble_eq_true rfl⟩) hS (fun q _ h => hFc q h) hFc (fun r u t H locs ht hvm hw hB hz1 hk1 hS => ?_)
            obtain ⟨hP1, hD1⟩ := hB
            have hP1 := g5_ht ht hP1
            obtain ⟨z73, y74, rfl⟩ := hw
            have hJ9 := va_join (wr := [(a_k, (oc5 a_h a_j a_pt m_ln m_se m_lh m_br m_we m_me m_ce m_wy m_ho m_ov)), (a_g, (oc6 6 5 a_gn e_g)), (a_gn, (arI G 30 f_g)), (a_p, (oc6 8 5 a_pn e_p)), (a_pn, (arI G 40 f_p)), (a_bb, (arJ G 24 f_bb)), (a_j, (oc2 a_as a_sk)), (a_as, (arI G 8 m_as)), (a_sk, (arJ G 50 m_sk)), (a_l, (arW G 6 f_l)), (a_pt, (arI G 200 m_pt)), (a_go, (arJ G 24 (vp_updL k_go k_h.toNatClampNeg m_x))), (a_mt, (arI G 1536 m_mt)), (a_b, (oc6 5 24 a_bn e_b)), (a_bn, (arI G 120 f_b))]) hP hD [13, 14] [0, 1, 2, 3, 4, 5, 6, 7, 8, 9, 10, 11, 12, 15, 16] rfl rfl (by decide +kernel) (by decide +kernel) hk1 hFc hP1 hD1
            clear hP hD hPc hDc hFc ht hvm hz1 hk1 hP1 hD1
            obtain ⟨hP, hD⟩ := hJ9
            refine g5_rs [(a_k, (oc5 a_h a_j a_pt m_ln m_se m_lh m_br m_we m_me m_ce m_wy m_ho m_ov)), (a_g, (oc6 6 5 a_gn e_g)), (a_gn, (arI G 30 f_g)), (a_p, (oc6 8 5 a_pn e_p)), (a_pn, (arI G 40 f_p)), (a_bb, (arJ G 24 f_bb)), (a_j, (oc2 a_as a_sk)), (a_as, (arI G 8 m_as)), (a_sk, (arJ G 50 m_sk)), (a_l, (arW G 6 f_l)), (a_pt, (arI G 200 m_pt)), (a_go, (arJ G 24 (vp_updL k_go k_h.toNatClampNeg m_x))), (a_mt, (arI G 1536 m_mt)), (a_b, (oc6 5 24 a_bn e_b)), (a_bn, (arI G 120 f_b)), (a_h, (oc1 e_wa e_le e_st e_fo e_lc a_l a_g a_b a_s a_p a_w e_gb a_bb)), (a_wk, (oc9 a_h a_k a_go a_mt))] hP hD ?_
            clear hP hD
            intro hP hD
            refine g5_tl (v := z73) y74 ?_
            refine lv_lstore (lv' := [(5, .long z73), (7, .int m_t), (9, .long m_x), (11, .int m_i), (8, .int k_h), (0, .ref a_wk), (1, .int p_b), (2, .int p_c), (3, .int p_f), (4, .int p_e)]) hx hb dX9_firstSight_180 hl (by decide +kernel) rfl ?_
            clear hl
            intro ls hl
            refine W.eq (g2 := F0 m 182 ls []) rfl ?_
            refine lv_iinc (v := (k_h + 1)) (lv' := [(8, .int (k_h + 1)), (5, .long z73), (7, .int m_t), (9, .long m_x), (11, .int m_i), (0, .ref a_wk), (1, .int p_b), (2, .int p_c), (3, .int p_f), (4, .int p_e)]) hx hb dX9_firstSight_182 hl (k := 4) rfl rfl (by decide +kernel) rfl ?_
            clear hl
            intro ls hl
            have t_75 : (k_h + 1).toInt = k_h.toInt + 1 := g5_iadd (a := k_h.toInt) (b := 1) rfl (by decide +kernel) (by omega) (by omega)
            refine lv_goto (tgt := 16) hx hb dX9_firstSight_185 (by decide +kernel) ?_
            exact ih_16_8 (z73, m_t, (k_h + 1), m_se, m_lh, m_br, m_we, m_me, m_ce, m_wy, m_ho, m_ov, m_pt, m_as, m_sk, m_ln, (vp_updL k_go k_h.toNatClampNeg m_x), m_mt) ls H locs (show Int.toNat (24 - (k_h + 1).toInt) < Int.toNat (24 - k_h.toInt) from g_up (show k_h.toInt < (k_h + 1).toInt by omega) (show k_h.toInt < 24 by omega)) ⟨lv_sub hl [1, 2, 0, 5, 6, 7, 8, 9] rfl, hP.sub [0, 1, 2, 3, 4, 5, 6, 7, 8, 9, 10, 11, 12, 15, 13, 14, 16] rfl, hD.sub [0, 1, 2, 3, 4, 5, 6, 7, 8, 9, 10, 11, 12, 15, 13, 14, 16] (by decide +kernel) rfl, hS, i_67, ⟨by omega, by omega⟩, i_69, by omega⟩
          ·
            have n_72 : gNe ((lg_cmp m_x 0).toInt) (0) := g5_eqN (a := (lg_cmp m_x 0).toInt) (b := 0) rfl (by decide +kernel) c_72
            refine lv_iload hx hb dX9_firstSight_171 (lv_at hl 4 rfl) ?_
            exact W.iret (v := k_h) hx hb hr (fun t ht hW => ⟨⟨k_h, [(a_k, (oc5 a_h a_j a_pt m_ln m_se m_lh m_br m_we m_me m_ce m_wy m_ho m_ov)), (a_h, (oc1 e_wa e_le e_st e_fo e_lc a_l a_g a_b a_s a_p a_w e_gb a_bb)), (a_g, (oc6 6 5 a_gn e_g)), (a_gn, (arI G 30 f_g)), (a_b, (oc6 5 24 a_bn e_b)), (a_bn, (arI G 120 f_b)), (a_p, (oc6 8 5 a_pn e_p)), (a_pn, (arI G 40 f_p)), (a_bb, (arJ G 24 f_bb)), (a_j, (oc2 a_as a_sk)), (a_as, (arI G 8 m_as)), (a_sk, (arJ G 50 m_sk)), (a_l, (arW G 6 f_l)), (a_pt, (arI G 200 m_pt)), (a_wk, (oc9 a_h a_k a_go a_mt)), (a_go, (arJ G 24 (vp_updL k_go k_h.toNatClampNeg m_x))), (a_mt, (arI G 1536 m_mt))], rfl, ⟨k_h, m_ln, m_se, m_lh, m_br, m_we, m_me, m_ce, m_wy, m_ho, m_ov, m_pt, m_as, m_sk, (vp_updL k_go k_h.toNatClampNeg m_x), m_mt, i_69, ⟨by omega, by omega⟩, Or.inr ⟨by omega, by omega⟩, rfl, rfl⟩, by rw [ht]; exact hP.sub [0, 13, 1, 2, 15, 16, 3, 4, 5, 6, 7, 8, 9, 10, 14, 11, 12] rfl, hD.sub [0, 13, 1, 2, 15, 16, 3, 4, 5, 6, 7, 8, 9, 10, 14, 11, 12] (by decide +kernel) rfl⟩, hS.F ht⟩) hS.2.2 dX9_firstSight_173
        ·
          have i_71 : m_i.toInt < 64 := g5_geN (a := m_i.toInt) (b := 64) rfl (by decide +kernel) c_71
          refine lv_iload hx hb dX9_firstSight_65 (lv_at hl 0 rfl) ?_
          refine lv_if_eq (tgt := 99) hx hb dX9_firstSight_67 (by decide +kernel) (fun c_76 => ?_) (fun c_76 => ?_)
          ·
            have i_76 : m_t.toInt = 0 := g5_eq (a := m_t.toInt) (b := 0) rfl (by decide +kernel) c_76
            refine lv_iconst (v := 0) hx hb dX9_firstSight_99 (by decide +kernel) ?_
            refine lv_istore (lv' := [(12, .int 0), (7, .int m_t), (9, .long m_x), (11, .int m_i), (5, .long k_x), (8, .int k_h), (0, .ref a_wk), (1, .int p_b), (2, .int p_c), (3, .int p_f), (4, .int p_e)]) hx hb dX9_firstSight_100 hl (by decide +kernel) rfl ?_
            clear hl
            intro ls hl
            refine lv_lload hx hb dX9_firstSight_102 (lv_at hl 2 rfl) ?_
            refine lv_iload hx hb dX9_firstSight_104 (lv_at hl 0 rfl) ?_
            refine W.eq (g2 := F0 m 106 ls [.int 0, .long m_x]) rfl ?_
            refine lv_if_eq (tgt := 116) hx hb dX9_firstSight_106 (by decide +kernel) (fun c_77 => ?_) (fun c_77 => ?_)
            ·
              refine lv_lconst (v := 0) hx hb dX9_firstSight_116 (by decide +kernel) ?_
              refine lv_lor hx hb dX9_firstSight_117 ?_
              refine g5_tl (v := m_x) (by simp) ?_
              refine lv_lstore (lv' := [(9, .long m_x), (12, .int 0), (7, .int m_t), (11, .int m_i), (5, .long k_x), (8, .int k_h), (0, .ref a_wk), (1, .int p_b), (2, .int p_c), (3, .int p_f), (4, .int p_e)]) hx hb dX9_firstSight_118 hl (by decide +kernel) rfl ?_
              clear hl
              intro ls hl
              refine lv_aload_n hx hb dX9_firstSight_120 rfl (lv_at hl 6 rfl) ?_
              refine W.eq (g2 := F0 m 121 ls [.ref a_wk]) rfl ?_
              refine va_get (D := G.1) (ci := 9) (v := .ref a_mt) (C := RX9) (T := TX9) (N := 4) hx hb hts inG_X9 hown hK hP 14 rfl rfl 3 (by decide +kernel) (hts _ fl_X9_15) (fun _ h9 => h9) rfl dX9_firstSight_121 ?_
              refine lv_iload hx hb dX9_firstSight_124 (lv_at hl 5 rfl) ?_
              refine lv_bipush (v := 64) hx hb dX9_firstSight_126 (by decide +kernel) ?_
              refine lv_imul hx hb dX9_firstSight_128 ?_
              have t_78 : (k_h * 64).toInt = k_h.toInt * 64 := g5_imul (a := k_h.toInt) (b := 64) (by rfl) (by decide +kernel) (by omega) (by omega)
              refine lv_iload hx hb dX9_firstSight_129 (lv_at hl 3 rfl) ?_
              refine W.eq (g2 := F0 m 131 ls [.int m_i, .int (k_h * 64), .ref a_mt]) rfl ?_
              refine lv_iadd hx hb dX9_firstSight_131 ?_
              have t_79 : ((k_h * 64) + m_i).toInt = (k_h * 64).toInt + m_i.toInt := g5_iadd (a := (k_h * 64).toInt) (b := m_i.toInt) (by rfl) (by rfl) (by omega) (by omega)
              refine lv_iload hx hb dX9_firstSight_132 (lv_at hl 2 rfl) ?_
              refine lv_if_eq (tgt := 147) hx hb dX9_firstSight_134 (by decide +kernel) (fun c_80 => ?_) (fun c_80 => ?_)
              ·
                have i_80 : m_t.toInt = 0 := g5_eq (a := m_t.toInt) (b := 0) rfl (by decide +kernel) c_80
                refine lv_iconst (v := 0) hx hb dX9_firstSight_147 (by decide +kernel) ?_
                refine va_iast hx hb hK hP hD hS 12 0 rfl rfl (i := ((k_h * 64) + m_i)) (x := 0) (vp_in_iff.mpr ⟨by omega, by omega⟩) dX9_firstSight_148 ?_
                clear hP hD hS
                intro H locs hP hD hS
                refine g5_rs [(a_k, (oc5 a_h a_j a_pt m_ln m_se m_lh m_br m_we m_me m_ce m_wy m_ho m_ov)), (a_g, (oc6 6 5 a_gn e_g)), (a_gn, (arI G 30 f_g)), (a_p, (oc6 8 5 a_pn e_p)), (a_pn, (arI G 40 f_p)), (a_bb, (arJ G 24 f_bb)), (a_j, (oc2 a_as a_sk)), (a_as, (arI G 8 m_as)), (a_sk, (arJ G 50 m_sk)), (a_l, (arW G 6 f_l)), (a_pt, (arI G 200 m_pt)), (a_go, (arJ G 24 k_go)), (a_mt, (arI G 1536 (upd m_mt ((k_h * 64) + m_i).toNatClampNeg 0))), (a_h, (oc1 e_wa e_le e_st e_fo e_lc a_l a_g a_b a_s a_p a_w e_gb a_bb)), (a_wk, (oc9 a_h a_k a_go a_mt)), (a_b, (oc6 5 24 a_bn e_b)), (a_bn, (arI G 120 f_b))] hP hD ?_
                clear hP hD
                intro hP hD
                refine lv_iinc (v := (m_i + 1)) (lv' := [(11, .int (m_i + 1)), (9, .long m_x), (12, .int 0), (7, .int m_t), (5, .long k_x), (8, .int k_h), (0, .ref a_wk), (1, .int p_b), (2, .int p_c), (3, .int p_f), (4, .int p_e)]) hx hb dX9_firstSight_149 hl (k := 3) rfl rfl (by decide +kernel) rfl ?_
                clear hl
                intro ls hl
                have t_81 : (m_i + 1).toInt = m_i.toInt + 1 := g5_iadd (a := m_i.toInt) (b := 1) rfl (by decide +kernel) (by omega) (by omega)
                refine lv_goto (tgt := 58) hx hb dX9_firstSight_152 (by decide +kernel) ?_
                exact ih_58_70 (m_x, m_t, (m_i + 1), m_se, m_lh, m_br, m_we, m_me, m_ce, m_wy, m_ho, m_ov, m_pt, m_as, m_sk, m_ln, (upd m_mt ((k_h * 64) + m_i).toNatClampNeg 0)) ls H locs (show Int.toNat (64 - (m_i + 1).toInt) < Int.toNat (64 - m_i.toInt) from g_up (show m_i.toInt < (m_i + 1).toInt by omega) (show m_i.toInt < 64 by omega)) ⟨lv_sub hl [3, 1, 0, 4, 5, 6, 7, 8, 9, 10] rfl, hP, hD, hS, i_67, ⟨by omega, by omega⟩, i_69⟩
              ·
                have i_80 : m_t.toInt ≠ 0 := g5_eqN (a := m_t.toInt) (b := 0) rfl (by decide +kernel) c_80
                omega
            ·
              exact absurd c_77 (by decide +kernel)
          ·
            have n_76 : gNe (m_t.toInt) (0) := g5_eqN (a := m_t.toInt) (b := 0) rfl (by decide +kernel) c_76
            have i_76 : m_t.toInt ≥ 1 := by have z := g5_eqN (a := m_t.toInt) (b := 0) (by rfl) (by decide +kernel) c_76; omega
            refine lv_lload hx hb dX9_firstSight_70 (lv_at hl 3 rfl) ?_
            refine lv_iload hx hb dX9_firstSight_72 (lv_at hl 2 rfl) ?_
            obtain ⟨hPc, hDc, hFc⟩ := g5_sub3 (wc := []) hP hD hS hA [] (by decide +kernel) rfl
            refine va_calli (va_runSN (As := [.long k_x, .int m_i]) (rest := []) ⟨hx, hb, hml, hown, hts⟩ (k_isOn l G H.size m_i k_x ⟨by omega, by omega⟩) ⟨va_cnB 2 hts gW_X11_isOn rfl rfl rfl (hN.1 _ g5_nw_X9_43) (hts _ ini_X11) hs_X11_isOn ⟨Nat.le_of_ble_eq_true rfl, Nat.le_of_ble_eq_true rfl⟩, hts _ st_X11_isOn, trivial⟩ (g5_preS hPc hK hDc hN hT hS hFc) rfl rfl hl.1 rfl (lv_room (Nat.le_of_ble_eq_true rfl)) dX9_firstSight_74 ⟨Nat.le_of_ble_eq_true rfl, Nat.le_of_ble_eq_true rfl⟩) hS (fun q _ h => hFc q h) hFc (fun r u t H locs ht hvm hw hB hz1 hk1 hS => ?_)
            obtain ⟨hP1, hD1⟩ := hB
            have hP1 := g5_ht ht hP1
            rcases hw with ⟨(i_82 : onB k_x m_i.toInt = false), rfl, rfl⟩ | ⟨(i_83 : onB k_x m_i.toInt = true), rfl, rfl⟩
            ·
              have hJ9 := g5_same hP hk1
              clear hP hPc hDc hFc ht hvm hz1 hk1 hP1 hD1
              have hP := hJ9
              clear hJ9
              refine lv_if_eq (tgt := 99) hx hb dX9_firstSight_77 (by decide +kernel) (fun c_84 => ?_) (fun c_84 => ?_)
              ·
                refine lv_iconst (v := 0) hx hb dX9_firstSight_99 (by decide +kernel) ?_
                refine lv_istore (lv' := [(12, .int 0), (7, .int m_t), (9, .long m_x), (11, .int m_i), (5, .long k_x), (8, .int k_h), (0, .ref a_wk), (1, .int p_b), (2, .int p_c), (3, .int p_f), (4, .int p_e)]) hx hb dX9_firstSight_100 hl (by decide +kernel) rfl ?_
                clear hl
                intro ls hl
                refine lv_lload hx hb dX9_firstSight_102 (lv_at hl 2 rfl) ?_
                refine lv_iload hx hb dX9_firstSight_104 (lv_at hl 0 rfl) ?_
                refine W.eq (g2 := F0 m 106 ls [.int 0, .long m_x]) rfl ?_
                refine lv_if_eq (tgt := 116) hx hb dX9_firstSight_106 (by decide +kernel) (fun c_85 => ?_) (fun c_85 => ?_)
                ·
                  refine lv_lconst (v := 0) hx hb dX9_firstSight_116 (by decide +kernel) ?_
                  refine lv_lor hx hb dX9_firstSight_117 ?_
                  refine g5_tl (v := m_x) (by simp) ?_
                  refine lv_lstore (lv' := [(9, .long m_x), (12, .int 0), (7, .int m_t), (11, .int m_i), (5, .long k_x), (8, .int k_h), (0, .ref a_wk), (1, .int p_b), (2, .int p_c), (3, .int p_f), (4, .int p_e)]) hx hb dX9_firstSight_118 hl (by decide +kernel) rfl ?_
                  clear hl
                  intro ls hl
                  refine lv_aload_n hx hb dX9_firstSight_120 rfl (lv_at hl 6 rfl) ?_
                  refine W.eq (g2 := F0 m 121 ls [.ref a_wk]) rfl ?_
                  refine va_get (D := G.1) (ci := 9) (v := .ref a_mt) (C := RX9) (T := TX9) (N := 4) hx hb hts inG_X9 hown hK hP 14 rfl rfl 3 (by decide +kernel) (hts _ fl_X9_15) (fun _ h9 => h9) rfl dX9_firstSight_121 ?_
                  refine lv_iload hx hb dX9_firstSight_124 (lv_at hl 5 rfl) ?_
                  refine lv_bipush (v := 64) hx hb dX9_firstSight_126 (by decide +kernel) ?_
                  refine lv_imul hx hb dX9_firstSight_128 ?_
                  have t_86 : (k_h * 64).toInt = k_h.toInt * 64 := g5_imul (a := k_h.toInt) (b := 64) (by rfl) (by decide +kernel) (by omega) (by omega)
                  refine lv_iload hx hb dX9_firstSight_129 (lv_at hl 3 rfl) ?_
                  refine W.eq (g2 := F0 m 131 ls [.int m_i, .int (k_h * 64), .ref a_mt]) rfl ?_
                  refine lv_iadd hx hb dX9_firstSight_131 ?_
                  have t_87 : ((k_h * 64) + m_i).toInt = (k_h * 64).toInt + m_i.toInt := g5_iadd (a := (k_h * 64).toInt) (b := m_i.toInt) (by rfl) (by rfl) (by omega) (by omega)
                  refine lv_iload hx hb dX9_firstSight_132 (lv_at hl 2 rfl) ?_
                  refine lv_if_eq (tgt := 147) hx hb dX9_firstSight_134 (by decide +kernel) (fun c_88 => ?_) (fun c_88 => ?_)
                  ·
                    have i_88 : m_t.toInt = 0 := g5_eq (a := m_t.toInt) (b := 0) rfl (by decide +kernel) c_88
                    omega
                  ·
                    have n_88 : gNe (m_t.toInt) (0) := g5_eqN (a := m_t.toInt) (b := 0) rfl (by decide +kernel) c_88
                    refine lv_aload_n hx hb dX9_firstSight_137 rfl (lv_at hl 6 rfl) ?_
                    refine va_get (D := G.1) (ci := 9) (v := .ref a_k) (C := RX9) (T := TX9) (N := 4) hx hb hts inG_X9 hown hK hP 14 rfl rfl 1 (by decide +kernel) (hts _ fl_X9_23) (fun _ h9 => h9) rfl dX9_firstSight_138 ?_
                    refine va_get (D := G.1) (ci := 5) (v := .int m_me) (C := RX5) (T := TX5) (N := 13) hx hb hts inG_X5 hown hK hP 0 rfl rfl 8 (by decide +kernel) (hts _ fl_X9_53) (fun _ h9 => h9) rfl dX9_firstSight_141 ?_
                    refine lv_goto (tgt := 148) hx hb dX9_firstSight_144 (by decide +kernel) ?_
                    refine W.eq (g2 := F0 m 148 ls [.int m_me, .int ((k_h * 64) + m_i), .ref a_mt]) rfl ?_
                    refine va_iast hx hb hK hP hD hS 12 0 rfl rfl (i := ((k_h * 64) + m_i)) (x := m_me) (vp_in_iff.mpr ⟨by omega, by omega⟩) dX9_firstSight_148 ?_
                    clear hP hD hS
                    intro H locs hP hD hS
                    refine g5_rs [(a_k, (oc5 a_h a_j a_pt m_ln m_se m_lh m_br m_we m_me m_ce m_wy m_ho m_ov)), (a_g, (oc6 6 5 a_gn e_g)), (a_gn, (arI G 30 f_g)), (a_p, (oc6 8 5 a_pn e_p)), (a_pn, (arI G 40 f_p)), (a_bb, (arJ G 24 f_bb)), (a_j, (oc2 a_as a_sk)), (a_as, (arI G 8 m_as)), (a_sk, (arJ G 50 m_sk)), (a_l, (arW G 6 f_l)), (a_pt, (arI G 200 m_pt)), (a_go, (arJ G 24 k_go)), (a_mt, (arI G 1536 (upd m_mt ((k_h * 64) + m_i).toNatClampNeg m_me))), (a_h, (oc1 e_wa e_le e_st e_fo e_lc a_l a_g a_b a_s a_p a_w e_gb a_bb)), (a_wk, (oc9 a_h a_k a_go a_mt)), (a_b, (oc6 5 24 a_bn e_b)), (a_bn, (arI G 120 f_b))] hP hD ?_
                    clear hP hD
                    intro hP hD
                    refine lv_iinc (v := (m_i + 1)) (lv' := [(11, .int (m_i + 1)), (9, .long m_x), (12, .int 0), (7, .int m_t), (5, .long k_x), (8, .int k_h), (0, .ref a_wk), (1, .int p_b), (2, .int p_c), (3, .int p_f), (4, .int p_e)]) hx hb dX9_firstSight_149 hl (k := 3) rfl rfl (by decide +kernel) rfl ?_
                    clear hl
                    intro ls hl
                    have t_89 : (m_i + 1).toInt = m_i.toInt + 1 := g5_iadd (a := m_i.toInt) (b := 1) rfl (by decide +kernel) (by omega) (by omega)
                    refine lv_goto (tgt := 58) hx hb dX9_firstSight_152 (by decide +kernel) ?_
                    exact ih_58_70 (m_x, m_t, (m_i + 1), m_se, m_lh, m_br, m_we, m_me, m_ce, m_wy, m_ho, m_ov, m_pt, m_as, m_sk, m_ln, (upd m_mt ((k_h * 64) + m_i).toNatClampNeg m_me)) ls H locs (show Int.toNat (64 - (m_i + 1).toInt) < Int.toNat (64 - m_i.toInt) from g_up (show m_i.toInt < (m_i + 1).toInt by omega) (show m_i.toInt < 64 by omega)) ⟨lv_sub hl [3, 1, 0, 4, 5, 6, 7, 8, 9, 10] rfl, hP, hD, hS, i_67, ⟨by omega, by omega⟩, i_69⟩
                ·
                  exact absurd c_85 (by decide +kernel)
              ·
                exact absurd c_84 (by decide +kernel)
            ·
              have hJ9 := g5_same hP hk1
              clear hP hPc hDc hFc ht hvm hz1 hk1 hP1 hD1
              have hP := hJ9
              clear hJ9
              refine lv_if_eq (tgt := 99) hx hb dX9_firstSight_77 (by decide +kernel) (fun c_90 => ?_) (fun c_90 => ?_)
              ·
                exact absurd c_90 (by decide +kernel)
              ·
                refine lv_aload_n hx hb dX9_firstSight_80 rfl (lv_at hl 5 rfl) ?_
                refine va_get (D := G.1) (ci := 9) (v := .ref a_k) (C := RX9) (T := TX9) (N := 4) hx hb hts inG_X9 hown hK hP 14 rfl rfl 1 (by decide +kernel) (hts _ fl_X9_23) (fun _ h9 => h9) rfl dX9_firstSight_81 ?_
                refine lv_iload_n hx hb dX9_firstSight_84 rfl (lv_at hl 6 rfl) ?_
                refine lv_iload hx hb dX9_firstSight_85 (lv_at hl 2 rfl) ?_
                refine W.eq (g2 := F0 m 87 ls [.int m_i, .int p_b, .ref a_k]) rfl ?_
                refine lv_iload hx hb dX9_firstSight_87 (lv_at hl 4 rfl) ?_
                obtain ⟨hPc, hDc, hFc⟩ := g5_sub3 (wc := [(a_k, (oc5 a_h a_j a_pt m_ln m_se m_lh m_br m_we m_me m_ce m_wy m_ho m_ov)), (a_h, (oc1 e_wa e_le e_st e_fo e_lc a_l a_g a_b a_s a_p a_w e_gb a_bb)), (a_g, (oc6 6 5 a_gn e_g)), (a_gn, (arI G 30 f_g)), (a_b, (oc6 5 24 a_bn e_b)), (a_bn, (arI G 120 f_b)), (a_p, (oc6 8 5 a_pn e_p)), (a_pn, (arI G 40 f_p)), (a_bb, (arJ G 24 f_bb)), (a_j, (oc2 a_as a_sk)), (a_as, (arI G 8 m_as)), (a_sk, (arJ G 50 m_sk)), (a_l, (arW G 6 f_l)), (a_pt, (arI G 200 m_pt))]) hP hD hS hA [0, 13, 1, 2, 15, 16, 3, 4, 5, 6, 7, 8, 9, 10] (by decide +kernel) rfl
                refine va_calli (va_runV (As := [.int p_b, .int m_i, .int k_h]) (rest := []) ⟨hx, hb, hml, hown, hts⟩ (s_findsBodyN l G a_k a_h a_g a_gn a_b a_bn a_p a_pn a_bb a_j a_as a_sk a_l a_pt a_s a_w H.size e_le e_st e_fo e_lc e_g e_b e_p m_ln m_se m_lh m_br m_we m_me m_ce m_wy m_ho m_ov m_i k_h p_b e_wa e_gb f_g f_b f_p f_bb m_as m_sk f_l m_pt h_e_g h_e_b h_e_p i_69 (e_gk) (e_pk) (e_gi) (e_f)) (cwV 3 hts gV_X9_47 rfl rfl rfl hv_X5_findsBody ⟨Nat.le_of_ble_eq_true rfl, Nat.le_of_ble_eq_true rfl⟩) (g5_preV hPc hK hDc hN hT hS hFc (ci := 5) (q0 := 0) rfl rfl) rfl rfl hl.1 rfl (lv_room (Nat.le_of_ble_eq_true rfl)) dX9_firstSight_89 ⟨Nat.le_of_ble_eq_true rfl, Nat.le_of_ble_eq_true rfl⟩) hS (fun q _ h => hFc q h) hFc (fun r u t H locs ht hvm hw hB hz1 hk1 hS => ?_)
                obtain ⟨hP1, hD1⟩ := hB
                have hP1 := g5_ht ht hP1
                obtain ⟨z93, z94, z95, z96, z97, z98, z99, z100, z101, z102, z103, z104, z105, z106, (i_91 : 0 ≤ z93.toInt ∧ z93.toInt ≤ 1), (i_92 : 0 ≤ z103.toInt ∧ z103.toInt ≤ 1), y107, rfl⟩ := hw
                have hJ9 := va_join (wr := [(a_go, (arJ G 24 k_go)), (a_mt, (arI G 1536 m_mt)), (a_wk, (oc9 a_h a_k a_go a_mt))]) hP hD [0, 13, 1, 2, 15, 16, 3, 4, 5, 6, 7, 8, 9, 10] [11, 12, 14] rfl rfl (by decide +kernel) (by decide +kernel) hk1 hFc hP1 hD1
                clear hP hD hPc hDc hFc ht hvm hz1 hk1 hP1 hD1
                obtain ⟨hP, hD⟩ := hJ9
                refine g5_rs [(a_go, (arJ G 24 k_go)), (a_mt, (arI G 1536 m_mt)), (a_wk, (oc9 a_h a_k a_go a_mt)), (a_k, (oc5 a_h a_j a_pt z94 z95 z96 z97 z98 z99 z100 z101 z102 z103)), (a_h, (oc1 e_wa e_le e_st e_fo e_lc a_l a_g a_b a_s a_p a_w e_gb a_bb)), (a_g, (oc6 6 5 a_gn e_g)), (a_gn, (arI G 30 f_g)), (a_b, (oc6 5 24 a_bn e_b)), (a_bn, (arI G 120 f_b)), (a_p, (oc6 8 5 a_pn e_p)), (a_pn, (arI G 40 f_p)), (a_bb, (arJ G 24 f_bb)), (a_j, (oc2 a_as a_sk)), (a_as, (arI G 8 z105)), (a_sk, (arJ G 50 z106)), (a_l, (arW G 6 f_l)), (a_pt, (arI G 200 z104))] hP hD ?_
                clear hP hD
                intro hP hD
                refine g5_ti (v := z93) y107 ?_
                refine lv_if_eq (tgt := 99) hx hb dX9_firstSight_92 (by decide +kernel) (fun c_108 => ?_) (fun c_108 => ?_)
                ·
                  have i_108 : z93.toInt = 0 := g5_eq (a := z93.toInt) (b := 0) rfl (by decide +kernel) c_108
                  refine lv_iconst (v := 0) hx hb dX9_firstSight_99 (by decide +kernel) ?_
                  refine lv_istore (lv' := [(12, .int 0), (7, .int m_t), (9, .long m_x), (11, .int m_i), (5, .long k_x), (8, .int k_h), (0, .ref a_wk), (1, .int p_b), (2, .int p_c), (3, .int p_f), (4, .int p_e)]) hx hb dX9_firstSight_100 hl (by decide +kernel) rfl ?_
                  clear hl
                  intro ls hl
                  refine lv_lload hx hb dX9_firstSight_102 (lv_at hl 2 rfl) ?_
                  refine lv_iload hx hb dX9_firstSight_104 (lv_at hl 0 rfl) ?_
                  refine W.eq (g2 := F0 m 106 ls [.int 0, .long m_x]) rfl ?_
                  refine lv_if_eq (tgt := 116) hx hb dX9_firstSight_106 (by decide +kernel) (fun c_109 => ?_) (fun c_109 => ?_)
                  ·
                    refine lv_lconst (v := 0) hx hb dX9_firstSight_116 (by decide +kernel) ?_
                    refine lv_lor hx hb dX9_firstSight_117 ?_
                    refine g5_tl (v := m_x) (by simp) ?_
                    refine lv_lstore (lv' := [(9, .long m_x), (12, .int 0), (7, .int m_t), (11, .int m_i), (5, .long k_x), (8, .int k_h), (0, .ref a_wk), (1, .int p_b), (2, .int p_c), (3, .int p_f), (4, .int p_e)]) hx hb dX9_firstSight_118 hl (by decide +kernel) rfl ?_
                    clear hl
                    intro ls hl
                    refine lv_aload_n hx hb dX9_firstSight_120 rfl (lv_at hl 6 rfl) ?_
                    refine W.eq (g2 := F0 m 121 ls [.ref a_wk]) rfl ?_
                    refine va_get (D := G.1) (ci := 9) (v := .ref a_mt) (C := RX9) (T := TX9) (N := 4) hx hb hts inG_X9 hown hK hP 2 rfl rfl 3 (by decide +kernel) (hts _ fl_X9_15) (fun _ h9 => h9) rfl dX9_firstSight_121 ?_
                    refine lv_iload hx hb dX9_firstSight_124 (lv_at hl 5 rfl) ?_
                    refine lv_bipush (v := 64) hx hb dX9_firstSight_126 (by decide +kernel) ?_
                    refine lv_imul hx hb dX9_firstSight_128 ?_
                    have t_110 : (k_h * 64).toInt = k_h.toInt * 64 := g5_imul (a := k_h.toInt) (b := 64) (by rfl) (by decide +kernel) (by omega) (by omega)
                    refine lv_iload hx hb dX9_firstSight_129 (lv_at hl 3 rfl) ?_
                    refine W.eq (g2 := F0 m 131 ls [.int m_i, .int (k_h * 64), .ref a_mt]) rfl ?_
                    refine lv_iadd hx hb dX9_firstSight_131 ?_
                    have t_111 : ((k_h * 64) + m_i).toInt = (k_h * 64).toInt + m_i.toInt := g5_iadd (a := (k_h * 64).toInt) (b := m_i.toInt) (by rfl) (by rfl) (by omega) (by omega)
                    refine lv_iload hx hb dX9_firstSight_132 (lv_at hl 2 rfl) ?_
                    refine lv_if_eq (tgt := 147) hx hb dX9_firstSight_134 (by decide +kernel) (fun c_112 => ?_) (fun c_112 => ?_)
                    ·
                      have i_112 : m_t.toInt = 0 := g5_eq (a := m_t.toInt) (b := 0) rfl (by decide +kernel) c_112
                      omega
                    ·
                      have n_112 : gNe (m_t.toInt) (0) := g5_eqN (a := m_t.toInt) (b := 0) rfl (by decide +kernel) c_112
                      refine lv_aload_n hx hb dX9_firstSight_137 rfl (lv_at hl 6 rfl) ?_
                      refine va_get (D := G.1) (ci := 9) (v := .ref a_k) (C := RX9) (T := TX9) (N := 4) hx hb hts inG_X9 hown hK hP 2 rfl rfl 1 (by decide +kernel) (hts _ fl_X9_23) (fun _ h9 => h9) rfl dX9_firstSight_138 ?_
                      refine va_get (D := G.1) (ci := 5) (v := .int z99) (C := RX5) (T := TX5) (N := 13) hx hb hts inG_X5 hown hK hP 3 rfl rfl 8 (by decide +kernel) (hts _ fl_X9_53) (fun _ h9 => h9) rfl dX9_firstSight_141 ?_
                      refine lv_goto (tgt := 148) hx hb dX9_firstSight_144 (by decide +kernel) ?_
                      refine W.eq (g2 := F0 m 148 ls [.int z99, .int ((k_h * 64) + m_i), .ref a_mt]) rfl ?_
                      refine va_iast hx hb hK hP hD hS 1 0 rfl rfl (i := ((k_h * 64) + m_i)) (x := z99) (vp_in_iff.mpr ⟨by omega, by omega⟩) dX9_firstSight_148 ?_
                      clear hP hD hS
                      intro H locs hP hD hS
                      refine g5_rs [(a_go, (arJ G 24 k_go)), (a_mt, (arI G 1536 (upd m_mt ((k_h * 64) + m_i).toNatClampNeg z99))), (a_wk, (oc9 a_h a_k a_go a_mt)), (a_k, (oc5 a_h a_j a_pt z94 z95 z96 z97 z98 z99 z100 z101 z102 z103)), (a_h, (oc1 e_wa e_le e_st e_fo e_lc a_l a_g a_b a_s a_p a_w e_gb a_bb)), (a_g, (oc6 6 5 a_gn e_g)), (a_gn, (arI G 30 f_g)), (a_b, (oc6 5 24 a_bn e_b)), (a_bn, (arI G 120 f_b)), (a_p, (oc6 8 5 a_pn e_p)), (a_pn, (arI G 40 f_p)), (a_bb, (arJ G 24 f_bb)), (a_j, (oc2 a_as a_sk)), (a_as, (arI G 8 z105)), (a_sk, (arJ G 50 z106)), (a_l, (arW G 6 f_l)), (a_pt, (arI G 200 z104))] hP hD ?_
                      clear hP hD
                      intro hP hD
                      refine lv_iinc (v := (m_i + 1)) (lv' := [(11, .int (m_i + 1)), (9, .long m_x), (12, .int 0), (7, .int m_t), (5, .long k_x), (8, .int k_h), (0, .ref a_wk), (1, .int p_b), (2, .int p_c), (3, .int p_f), (4, .int p_e)]) hx hb dX9_firstSight_149 hl (k := 3) rfl rfl (by decide +kernel) rfl ?_
                      clear hl
                      intro ls hl
                      have t_113 : (m_i + 1).toInt = m_i.toInt + 1 := g5_iadd (a := m_i.toInt) (b := 1) rfl (by decide +kernel) (by omega) (by omega)
                      refine lv_goto (tgt := 58) hx hb dX9_firstSight_152 (by decide +kernel) ?_
                      exact ih_58_70 (m_x, m_t, (m_i + 1), z95, z96, z97, z98, z99, z100, z101, z102, z103, z104, z105, z106, z94, (upd m_mt ((k_h * 64) + m_i).toNatClampNeg z99)) ls H locs (show Int.toNat (64 - (m_i + 1).toInt) < Int.toNat (64 - m_i.toInt) from g_up (show m_i.toInt < (m_i + 1).toInt by omega) (show m_i.toInt < 64 by omega)) ⟨lv_sub hl [3, 1, 0, 4, 5, 6, 7, 8, 9, 10] rfl, hP.sub [3, 5, 6, 9, 10, 11, 12, 13, 14, 15, 16, 0, 1, 4, 2, 7, 8] rfl, hD.sub [3, 5, 6, 9, 10, 11, 12, 13, 14, 15, 16, 0, 1, 4, 2, 7, 8] (by decide +kernel) rfl, hS, i_67, ⟨by omega, by omega⟩, i_92⟩
                  ·
                    exact absurd c_109 (by decide +kernel)
                ·
                  have n_108 : gNe (z93.toInt) (0) := g5_eqN (a := z93.toInt) (b := 0) rfl (by decide +kernel) c_108
                  have i_108 : z93.toInt ≥ 1 := by have z := g5_eqN (a := z93.toInt) (b := 0) (by rfl) (by decide +kernel) c_108; omega
                  refine lv_iconst (v := 1) hx hb dX9_firstSight_95 (by decide +kernel) ?_
                  refine lv_goto (tgt := 100) hx hb dX9_firstSight_96 (by decide +kernel) ?_
                  refine lv_istore (lv' := [(12, .int 1), (7, .int m_t), (9, .long m_x), (11, .int m_i), (5, .long k_x), (8, .int k_h), (0, .ref a_wk), (1, .int p_b), (2, .int p_c), (3, .int p_f), (4, .int p_e)]) hx hb dX9_firstSight_100 hl (by decide +kernel) rfl ?_
                  clear hl
                  intro ls hl
                  refine lv_lload hx hb dX9_firstSight_102 (lv_at hl 2 rfl) ?_
                  refine W.eq (g2 := F0 m 104 ls [.long m_x]) rfl ?_
                  refine lv_iload hx hb dX9_firstSight_104 (lv_at hl 0 rfl) ?_
                  refine lv_if_eq (tgt := 116) hx hb dX9_firstSight_106 (by decide +kernel) (fun c_114 => ?_) (fun c_114 => ?_)
                  ·
                    exact absurd c_114 (by decide +kernel)
                  ·
                    refine lv_lconst (v := 1) hx hb dX9_firstSight_109 (by decide +kernel) ?_
                    refine lv_iload hx hb dX9_firstSight_110 (lv_at hl 3 rfl) ?_
                    refine lv_lshl (v := ((1 : Int64) <<< (m_i.toInt64 &&& 63))) hx hb dX9_firstSight_112 rfl ?_
                    refine lv_goto (tgt := 117) hx hb dX9_firstSight_113 (by decide +kernel) ?_
                    refine W.eq (g2 := F0 m 117 ls [.long ((1 : Int64) <<< (m_i.toInt64 &&& 63)), .long m_x]) rfl ?_
                    refine lv_lor hx hb dX9_firstSight_117 ?_
                    refine lv_lstore (lv' := [(9, .long (m_x ||| ((1 : Int64) <<< (m_i.toInt64 &&& 63)))), (12, .int 1), (7, .int m_t), (11, .int m_i), (5, .long k_x), (8, .int k_h), (0, .ref a_wk), (1, .int p_b), (2, .int p_c), (3, .int p_f), (4, .int p_e)]) hx hb dX9_firstSight_118 hl (by decide +kernel) rfl ?_
                    clear hl
                    intro ls hl
                    refine lv_aload_n hx hb dX9_firstSight_120 rfl (lv_at hl 6 rfl) ?_
                    refine va_get (D := G.1) (ci := 9) (v := .ref a_mt) (C := RX9) (T := TX9) (N := 4) hx hb hts inG_X9 hown hK hP 2 rfl rfl 3 (by decide +kernel) (hts _ fl_X9_15) (fun _ h9 => h9) rfl dX9_firstSight_121 ?_
                    refine lv_iload hx hb dX9_firstSight_124 (lv_at hl 5 rfl) ?_
                    refine W.eq (g2 := F0 m 126 ls [.int k_h, .ref a_mt]) rfl ?_
                    refine lv_bipush (v := 64) hx hb dX9_firstSight_126 (by decide +kernel) ?_
                    refine lv_imul hx hb dX9_firstSight_128 ?_
                    have t_115 : (k_h * 64).toInt = k_h.toInt * 64 := g5_imul (a := k_h.toInt) (b := 64) (by rfl) (by decide +kernel) (by omega) (by omega)
                    refine lv_iload hx hb dX9_firstSight_129 (lv_at hl 3 rfl) ?_
                    refine lv_iadd hx hb dX9_firstSight_131 ?_
                    have t_116 : ((k_h * 64) + m_i).toInt = (k_h * 64).toInt + m_i.toInt := g5_iadd (a := (k_h * 64).toInt) (b := m_i.toInt) (by rfl) (by rfl) (by omega) (by omega)
                    refine lv_iload hx hb dX9_firstSight_132 (lv_at hl 2 rfl) ?_
                    refine W.eq (g2 := F0 m 134 ls [.int m_t, .int ((k_h * 64) + m_i), .ref a_mt]) rfl ?_
                    refine lv_if_eq (tgt := 147) hx hb dX9_firstSight_134 (by decide +kernel) (fun c_117 => ?_) (fun c_117 => ?_)
                    ·
                      have i_117 : m_t.toInt = 0 := g5_eq (a := m_t.toInt) (b := 0) rfl (by decide +kernel) c_117
                      omega
                    ·
                      have n_117 : gNe (m_t.toInt) (0) := g5_eqN (a := m_t.toInt) (b := 0) rfl (by decide +kernel) c_117
                      refine lv_aload_n hx hb dX9_firstSight_137 rfl (lv_at hl 6 rfl) ?_
                      refine va_get (D := G.1) (ci := 9) (v := .ref a_k) (C := RX9) (T := TX9) (N := 4) hx hb hts inG_X9 hown hK hP 2 rfl rfl 1 (by decide +kernel) (hts _ fl_X9_23) (fun _ h9 => h9) rfl dX9_firstSight_138 ?_
                      refine va_get (D := G.1) (ci := 5) (v := .int z99) (C := RX5) (T := TX5) (N := 13) hx hb hts inG_X5 hown hK hP 3 rfl rfl 8 (by decide +kernel) (hts _ fl_X9_53) (fun _ h9 => h9) rfl dX9_firstSight_141 ?_
                      refine lv_goto (tgt := 148) hx hb dX9_firstSight_144 (by decide +kernel) ?_
                      refine W.eq (g2 := F0 m 148 ls [.int z99, .int ((k_h * 64) + m_i), .ref a_mt]) rfl ?_
                      refine va_iast hx hb hK hP hD hS 1 0 rfl rfl (i := ((k_h * 64) + m_i)) (x := z99) (vp_in_iff.mpr ⟨by omega, by omega⟩) dX9_firstSight_148 ?_
                      clear hP hD hS
                      intro H locs hP hD hS
                      refine g5_rs [(a_go, (arJ G 24 k_go)), (a_mt, (arI G 1536 (upd m_mt ((k_h * 64) + m_i).toNatClampNeg z99))), (a_wk, (oc9 a_h a_k a_go a_mt)), (a_k, (oc5 a_h a_j a_pt z94 z95 z96 z97 z98 z99 z100 z101 z102 z103)), (a_h, (oc1 e_wa e_le e_st e_fo e_lc a_l a_g a_b a_s a_p a_w e_gb a_bb)), (a_g, (oc6 6 5 a_gn e_g)), (a_gn, (arI G 30 f_g)), (a_b, (oc6 5 24 a_bn e_b)), (a_bn, (arI G 120 f_b)), (a_p, (oc6 8 5 a_pn e_p)), (a_pn, (arI G 40 f_p)), (a_bb, (arJ G 24 f_bb)), (a_j, (oc2 a_as a_sk)), (a_as, (arI G 8 z105)), (a_sk, (arJ G 50 z106)), (a_l, (arW G 6 f_l)), (a_pt, (arI G 200 z104))] hP hD ?_
                      clear hP hD
                      intro hP hD
                      refine lv_iinc (v := (m_i + 1)) (lv' := [(11, .int (m_i + 1)), (9, .long (m_x ||| ((1 : Int64) <<< (m_i.toInt64 &&& 63)))), (12, .int 1), (7, .int m_t), (5, .long k_x), (8, .int k_h), (0, .ref a_wk), (1, .int p_b), (2, .int p_c), (3, .int p_f), (4, .int p_e)]) hx hb dX9_firstSight_149 hl (k := 3) rfl rfl (by decide +kernel) rfl ?_
                      clear hl
                      intro ls hl
                      have t_118 : (m_i + 1).toInt = m_i.toInt + 1 := g5_iadd (a := m_i.toInt) (b := 1) rfl (by decide +kernel) (by omega) (by omega)
                      refine lv_goto (tgt := 58) hx hb dX9_firstSight_152 (by decide +kernel) ?_
                      exact ih_58_70 ((m_x ||| ((1 : Int64) <<< (m_i.toInt64 &&& 63))), m_t, (m_i + 1), z95, z96, z97, z98, z99, z100, z101, z102, z103, z104, z105, z106, z94, (upd m_mt ((k_h * 64) + m_i).toNatClampNeg z99)) ls H locs (show Int.toNat (64 - (m_i + 1).toInt) < Int.toNat (64 - m_i.toInt) from g_up (show m_i.toInt < (m_i + 1).toInt by omega) (show m_i.toInt < 64 by omega)) ⟨lv_sub hl [3, 1, 0, 4, 5, 6, 7, 8, 9, 10] rfl, hP.sub [3, 5, 6, 9, 10, 11, 12, 13, 14, 15, 16, 0, 1, 4, 2, 7, 8] rfl, hD.sub [3, 5, 6, 9, 10, 11, 12, 13, 14, 15, 16, 0, 1, 4, 2, 7, 8] (by decide +kernel) rfl, hS, i_67, ⟨by omega, by omega⟩, i_92⟩
      ·
        have n_66 : gNe (z64.toInt) ((-1)) := g5_eqN (a := z64.toInt) (b := (-1)) rfl (by decide +kernel) c_66
        refine lv_iconst (v := 1) hx hb dX9_firstSight_45 (by decide +kernel) ?_
        refine lv_goto (tgt := 50) hx hb dX9_firstSight_46 (by decide +kernel) ?_
        refine lv_istore (lv' := [(7, .int 1), (5, .long k_x), (8, .int k_h), (0, .ref a_wk), (1, .int p_b), (2, .int p_c), (3, .int p_f), (4, .int p_e)]) hx hb dX9_firstSight_50 hl (by decide +kernel) rfl ?_
        clear hl
        intro ls hl
        refine lv_lconst (v := 0) hx hb dX9_firstSight_52 (by decide +kernel) ?_
        refine W.eq (g2 := F0 m 53 ls [.long 0]) rfl ?_
        refine lv_lstore (lv' := [(9, .long 0), (7, .int 1), (5, .long k_x), (8, .int k_h), (0, .ref a_wk), (1, .int p_b), (2, .int p_c), (3, .int p_f), (4, .int p_e)]) hx hb dX9_firstSight_53 hl (by decide +kernel) rfl ?_
        clear hl
        intro ls hl
        refine lv_iconst (v := 0) hx hb dX9_firstSight_55 (by decide +kernel) ?_
        refine lv_istore (lv' := [(11, .int 0), (9, .long 0), (7, .int 1), (5, .long k_x), (8, .int k_h), (0, .ref a_wk), (1, .int p_b), (2, .int p_c), (3, .int p_f), (4, .int p_e)]) hx hb dX9_firstSight_56 hl (by decide +kernel) rfl ?_
        clear hl
        intro ls hl
        refine g5_loop (α := (Int64) × (Int32) × (Int32) × (Int32) × (Int32) × (Int32) × (Int32) × (Int32) × (Int32) × (Int32) × (Int32) × (Int32) × (Nat → Int32) × (Nat → Int32) × (Nat → Int64) × (Int32) × (Nat → Int32)) (fun (q : (Int64) × (Int32) × (Int32) × (Int32) × (Int32) × (Int32) × (Int32) × (Int32) × (Int32) × (Int32) × (Int32) × (Int32) × (Nat → Int32) × (Nat → Int32) × (Nat → Int64) × (Int32) × (Nat → Int32)) (ls : Array Slot) (H : Heap) (locs : List Loc) => match q with | (m_x, m_t, m_i, m_se, m_lh, m_br, m_we, m_me, m_ce, m_wy, m_ho, m_ov, m_pt, m_as, m_sk, m_ln, m_mt) => lv_has ls 13 [(7, .int m_t), (9, .long m_x), (11, .int m_i), (5, .long k_x), (8, .int k_h), (0, .ref a_wk), (1, .int p_b), (2, .int p_c), (3, .int p_f), (4, .int p_e)] ∧ va_P G.1 vwCl [(a_k, (oc5 a_h a_j a_pt m_ln m_se m_lh m_br m_we m_me m_ce m_wy m_ho m_ov)), (a_g, (oc6 6 5 a_gn e_g)), (a_gn, (arI G 30 f_g)), (a_p, (oc6 8 5 a_pn e_p)), (a_pn, (arI G 40 f_p)), (a_bb, (arJ G 24 f_bb)), (a_j, (oc2 a_as a_sk)), (a_as, (arI G 8 m_as)), (a_sk, (arJ G 50 m_sk)), (a_l, (arW G 6 f_l)), (a_pt, (arI G 200 m_pt)), (a_go, (arJ G 24 k_go)), (a_mt, (arI G 1536 m_mt)), (a_h, (oc1 e_wa e_le e_st e_fo e_lc a_l a_g a_b a_s a_p a_w e_gb a_bb)), (a_wk, (oc9 a_h a_k a_go a_mt)), (a_b, (oc6 5 24 a_bn e_b)), (a_bn, (arI G 120 f_b))] H ∧ va_D A [(a_k, (oc5 a_h a_j a_pt m_ln m_se m_lh m_br m_we m_me m_ce m_wy m_ho m_ov)), (a_g, (oc6 6 5 a_gn e_g)), (a_gn, (arI G 30 f_g)), (a_p, (oc6 8 5 a_pn e_p)), (a_pn, (arI G 40 f_p)), (a_bb, (arJ G 24 f_bb)), (a_j, (oc2 a_as a_sk)), (a_as, (arI G 8 m_as)), (a_sk, (arJ G 50 m_sk)), (a_l, (arW G 6 f_l)), (a_pt, (arI G 200 m_pt)), (a_go, (arJ G 24 k_go)), (a_mt, (arI G 1536 m_mt)), (a_h, (oc1 e_wa e_le e_st e_fo e_lc a_l a_g a_b a_s a_p a_w e_gb a_bb)), (a_wk, (oc9 a_h a_k a_go a_mt)), (a_b, (oc6 5 24 a_bn e_b)), (a_bn, (arI G 120 f_b))] ∧ va_S A s.heap H locs ∧ (0 ≤ m_t.toInt ∧ m_t.toInt ≤ 1) ∧ (0 ≤ m_i.toInt ∧ m_i.toInt ≤ 64) ∧ (0 ≤ m_ov.toInt ∧ m_ov.toInt ≤ 1)) (fun (q : (Int64) × (Int32) × (Int32) × (Int32) × (Int32) × (Int32) × (Int32) × (Int32) × (Int32) × (Int32) × (Int32) × (Int32) × (Nat → Int32) × (Nat → Int32) × (Nat → Int64) × (Int32) × (Nat → Int32)) => match q with | (m_x, m_t, m_i, m_se, m_lh, m_br, m_we, m_me, m_ce, m_wy, m_ho, m_ov, m_pt, m_as, m_sk, m_ln, m_mt) => Int.toNat (64 - m_i.toInt)) (0, 1, 0, k_se, k_lh, k_br, k_we, k_me, k_ce, k_wy, k_ho, k_ov, k_pt, k_as, k_sk, k_ln, k_mt) ⟨lv_sub hl [2, 1, 0, 3, 4, 5, 6, 7, 8, 9] rfl, hP, hD, hS, ⟨by decide, by decide⟩, ⟨by decide, by decide⟩, i_6⟩ ?_
        rintro ⟨m_x, m_t, m_i, m_se, m_lh, m_br, m_we, m_me, m_ce, m_wy, m_ho, m_ov, m_pt, m_as, m_sk, m_ln, m_mt⟩ ls H locs ⟨hl, hP, hD, hS, (i_119 : 0 ≤ m_t.toInt ∧ m_t.toInt ≤ 1), (i_120 : 0 ≤ m_i.toInt ∧ m_i.toInt ≤ 64), (i_121 : 0 ≤ m_ov.toInt ∧ m_ov.toInt ≤ 1)⟩ ih_58_122
        replace hl : lv_has ls 13 [(7, .int m_t), (9, .long m_x), (11, .int m_i), (5, .long k_x), (8, .int k_h), (0, .ref a_wk), (1, .int p_b), (2, .int p_c), (3, .int p_f), (4, .int p_e)] := hl
        refine g5_rs [(a_k, (oc5 a_h a_j a_pt m_ln m_se m_lh m_br m_we m_me m_ce m_wy m_ho m_ov)), (a_g, (oc6 6 5 a_gn e_g)), (a_gn, (arI G 30 f_g)), (a_p, (oc6 8 5 a_pn e_p)), (a_pn, (arI G 40 f_p)), (a_bb, (arJ G 24 f_bb)), (a_j, (oc2 a_as a_sk)), (a_as, (arI G 8 m_as)), (a_sk, (arJ G 50 m_sk)), (a_l, (arW G 6 f_l)), (a_pt, (arI G 200 m_pt)), (a_go, (arJ G 24 k_go)), (a_mt, (arI G 1536 m_mt)), (a_h, (oc1 e_wa e_le e_st e_fo e_lc a_l a_g a_b a_s a_p a_w e_gb a_bb)), (a_wk, (oc9 a_h a_k a_go a_mt)), (a_b, (oc6 5 24 a_bn e_b)), (a_bn, (arI G 120 f_b))] hP hD ?_
        clear hP hD
        intro hP hD
        refine lv_iload hx hb dX9_firstSight_58 (lv_at hl 2 rfl) ?_
        refine lv_bipush (v := 64) hx hb dX9_firstSight_60 (by decide +kernel) ?_
        refine lv_icmp_ge (tgt := 155) hx hb dX9_firstSight_62 (by decide +kernel) (fun c_123 => ?_) (fun c_123 => ?_)
        ·
          have i_123 : m_i.toInt ≥ 64 := g5_ge (a := m_i.toInt) (b := 64) rfl (by decide +kernel) c_123
          refine lv_aload_n hx hb dX9_firstSight_155 rfl (lv_at hl 5 rfl) ?_
          refine va_get (D := G.1) (ci := 9) (v := .ref a_go) (C := RX9) (T := TX9) (N := 4) hx hb hts inG_X9 hown hK hP 14 rfl rfl 2 (by decide +kernel) (hts _ fl_X9_9) (fun _ h9 => h9) rfl dX9_firstSight_156 ?_
          refine lv_iload hx hb dX9_firstSight_159 (lv_at hl 4 rfl) ?_
          refine lv_lload hx hb dX9_firstSight_161 (lv_at hl 1 rfl) ?_
          refine W.eq (g2 := F0 m 163 ls [.long m_x, .int k_h, .ref a_go]) rfl ?_
          refine va_last hx hb hK hP hD hS 11 1 rfl rfl (i := k_h) (x := m_x) (vp_in_iff.mpr ⟨by omega, by omega⟩) dX9_firstSight_163 ?_
          clear hP hD hS
          intro H locs hP hD hS
          refine g5_rs [(a_k, (oc5 a_h a_j a_pt m_ln m_se m_lh m_br m_we m_me m_ce m_wy m_ho m_ov)), (a_g, (oc6 6 5 a_gn e_g)), (a_gn, (arI G 30 f_g)), (a_p, (oc6 8 5 a_pn e_p)), (a_pn, (arI G 40 f_p)), (a_bb, (arJ G 24 f_bb)), (a_j, (oc2 a_as a_sk)), (a_as, (arI G 8 m_as)), (a_sk, (arJ G 50 m_sk)), (a_l, (arW G 6 f_l)), (a_pt, (arI G 200 m_pt)), (a_go, (arJ G 24 (vp_updL k_go k_h.toNatClampNeg m_x))), (a_mt, (arI G 1536 m_mt)), (a_h, (oc1 e_wa e_le e_st e_fo e_lc a_l a_g a_b a_s a_p a_w e_gb a_bb)), (a_wk, (oc9 a_h a_k a_go a_mt)), (a_b, (oc6 5 24 a_bn e_b)), (a_bn, (arI G 120 f_b))] hP hD ?_
          clear hP hD
          intro hP hD
          refine lv_lload hx hb dX9_firstSight_164 (lv_at hl 1 rfl) ?_
          refine lv_lconst (v := 0) hx hb dX9_firstSight_166 (by decide +kernel) ?_
          refine W.lcmp hx hb dX9_firstSight_167 ?_
          refine lv_if_eq (tgt := 174) hx hb dX9_firstSight_168 (by decide +kernel) (fun c_124 => ?_) (fun c_124 => ?_)
          ·
            have i_124 : (lg_cmp m_x 0).toInt = 0 := g5_eq (a := (lg_cmp m_x 0).toInt) (b := 0) rfl (by decide +kernel) c_124
            refine lv_aload_n hx hb dX9_firstSight_174 rfl (lv_at hl 5 rfl) ?_
            refine lv_lload hx hb dX9_firstSight_175 (lv_at hl 3 rfl) ?_
            obtain ⟨hPc, hDc, hFc⟩ := g5_sub3 (wc := [(a_h, (oc1 e_wa e_le e_st e_fo e_lc a_l a_g a_b a_s a_p a_w e_gb a_bb)), (a_wk, (oc9 a_h a_k a_go a_mt))]) hP hD hS hA [13, 14] (by decide +kernel) rfl
            refine va_calll (va_runV (As := [.long k_x]) (rest := []) ⟨hx, hb, hml, hown, hts⟩ (a_spread l G a_h a_wk a_l a_g a_b a_s a_p a_w a_bb a_k a_go a_mt H.size e_le e_st e_fo e_lc e_wa e_gb k_x) (cwV 1 hts gV_X9_56 rfl rfl rfl hv_X9_spread ⟨Nat.le_of_ble_eq_true rfl, Nat.le_of_ble_eq_true rfl⟩) (g5_preV hPc hK hDc hN hT hS hFc (ci := 9) (q0 := 1) rfl rfl) rfl rfl hl.1 rfl (lv_room (Nat.le_of_ble_eq_true rfl)) dX9_firstSight_177 ⟨Nat.le_of_ble_eq_true rfl, Nat.le_of_ble_eq_true rfl⟩) hS (fun q _ h => hFc q h) hFc (fun r u t H locs ht hvm hw hB hz1 hk1 hS => ?_)
            obtain ⟨hP1, hD1⟩ := hB
            have hP1 := g5_ht ht hP1
            obtain ⟨z125, y126, rfl⟩ := hw
            have hJ9 := va_join (wr := [(a_k, (oc5 a_h a_j a_pt m_ln m_se m_lh m_br m_we m_me m_ce m_wy m_ho m_ov)), (a_g, (oc6 6 5 a_gn e_g)), (a_gn, (arI G 30 f_g)), (a_p, (oc6 8 5 a_pn e_p)), (a_pn, (arI G 40 f_p)), (a_bb, (arJ G 24 f_bb)), (a_j, (oc2 a_as a_sk)), (a_as, (arI G 8 m_as)), (a_sk, (arJ G 50 m_sk)), (a_l, (arW G 6 f_l)), (a_pt, (arI G 200 m_pt)), (a_go, (arJ G 24 (vp_updL k_go k_h.toNatClampNeg m_x))), (a_mt, (arI G 1536 m_mt)), (a_b, (oc6 5 24 a_bn e_b)), (a_bn, (arI G 120 f_b))]) hP hD [13, 14] [0, 1, 2, 3, 4, 5, 6, 7, 8, 9, 10, 11, 12, 15, 16] rfl rfl (by decide +kernel) (by decide +kernel) hk1 hFc hP1 hD1
            clear hP hD hPc hDc hFc ht hvm hz1 hk1 hP1 hD1
            obtain ⟨hP, hD⟩ := hJ9
            refine g5_rs [(a_k, (oc5 a_h a_j a_pt m_ln m_se m_lh m_br m_we m_me m_ce m_wy m_ho m_ov)), (a_g, (oc6 6 5 a_gn e_g)), (a_gn, (arI G 30 f_g)), (a_p, (oc6 8 5 a_pn e_p)), (a_pn, (arI G 40 f_p)), (a_bb, (arJ G 24 f_bb)), (a_j, (oc2 a_as a_sk)), (a_as, (arI G 8 m_as)), (a_sk, (arJ G 50 m_sk)), (a_l, (arW G 6 f_l)), (a_pt, (arI G 200 m_pt)), (a_go, (arJ G 24 (vp_updL k_go k_h.toNatClampNeg m_x))), (a_mt, (arI G 1536 m_mt)), (a_b, (oc6 5 24 a_bn e_b)), (a_bn, (arI G 120 f_b)), (a_h, (oc1 e_wa e_le e_st e_fo e_lc a_l a_g a_b a_s a_p a_w e_gb a_bb)), (a_wk, (oc9 a_h a_k a_go a_mt))] hP hD ?_
            clear hP hD
            intro hP hD
            refine g5_tl (v := z125) y126 ?_
            refine lv_lstore (lv' := [(5, .long z125), (7, .int m_t), (9, .long m_x), (11, .int m_i), (8, .int k_h), (0, .ref a_wk), (1, .int p_b), (2, .int p_c), (3, .int p_f), (4, .int p_e)]) hx hb dX9_firstSight_180 hl (by decide +kernel) rfl ?_
            clear hl
            intro ls hl
            refine W.eq (g2 := F0 m 182 ls []) rfl ?_
            refine lv_iinc (v := (k_h + 1)) (lv' := [(8, .int (k_h + 1)), (5, .long z125), (7, .int m_t), (9, .long m_x), (11, .int m_i), (0, .ref a_wk), (1, .int p_b), (2, .int p_c), (3, .int p_f), (4, .int p_e)]) hx hb dX9_firstSight_182 hl (k := 4) rfl rfl (by decide +kernel) rfl ?_
            clear hl
            intro ls hl
            have t_127 : (k_h + 1).toInt = k_h.toInt + 1 := g5_iadd (a := k_h.toInt) (b := 1) rfl (by decide +kernel) (by omega) (by omega)
            refine lv_goto (tgt := 16) hx hb dX9_firstSight_185 (by decide +kernel) ?_
            exact ih_16_8 (z125, m_t, (k_h + 1), m_se, m_lh, m_br, m_we, m_me, m_ce, m_wy, m_ho, m_ov, m_pt, m_as, m_sk, m_ln, (vp_updL k_go k_h.toNatClampNeg m_x), m_mt) ls H locs (show Int.toNat (24 - (k_h + 1).toInt) < Int.toNat (24 - k_h.toInt) from g_up (show k_h.toInt < (k_h + 1).toInt by omega) (show k_h.toInt < 24 by omega)) ⟨lv_sub hl [1, 2, 0, 5, 6, 7, 8, 9] rfl, hP.sub [0, 1, 2, 3, 4, 5, 6, 7, 8, 9, 10, 11, 12, 15, 13, 14, 16] rfl, hD.sub [0, 1, 2, 3, 4, 5, 6, 7, 8, 9, 10, 11, 12, 15, 13, 14, 16] (by decide +kernel) rfl, hS, i_119, ⟨by omega, by omega⟩, i_121, by omega⟩
          ·
            have n_124 : gNe ((lg_cmp m_x 0).toInt) (0) := g5_eqN (a := (lg_cmp m_x 0).toInt) (b := 0) rfl (by decide +kernel) c_124
            refine lv_iload hx hb dX9_firstSight_171 (lv_at hl 4 rfl) ?_
            exact W.iret (v := k_h) hx hb hr (fun t ht hW => ⟨⟨k_h, [(a_k, (oc5 a_h a_j a_pt m_ln m_se m_lh m_br m_we m_me m_ce m_wy m_ho m_ov)), (a_h, (oc1 e_wa e_le e_st e_fo e_lc a_l a_g a_b a_s a_p a_w e_gb a_bb)), (a_g, (oc6 6 5 a_gn e_g)), (a_gn, (arI G 30 f_g)), (a_b, (oc6 5 24 a_bn e_b)), (a_bn, (arI G 120 f_b)), (a_p, (oc6 8 5 a_pn e_p)), (a_pn, (arI G 40 f_p)), (a_bb, (arJ G 24 f_bb)), (a_j, (oc2 a_as a_sk)), (a_as, (arI G 8 m_as)), (a_sk, (arJ G 50 m_sk)), (a_l, (arW G 6 f_l)), (a_pt, (arI G 200 m_pt)), (a_wk, (oc9 a_h a_k a_go a_mt)), (a_go, (arJ G 24 (vp_updL k_go k_h.toNatClampNeg m_x))), (a_mt, (arI G 1536 m_mt))], rfl, ⟨k_h, m_ln, m_se, m_lh, m_br, m_we, m_me, m_ce, m_wy, m_ho, m_ov, m_pt, m_as, m_sk, (vp_updL k_go k_h.toNatClampNeg m_x), m_mt, i_121, ⟨by omega, by omega⟩, Or.inr ⟨by omega, by omega⟩, rfl, rfl⟩, by rw [ht]; exact hP.sub [0, 13, 1, 2, 15, 16, 3, 4, 5, 6, 7, 8, 9, 10, 14, 11, 12] rfl, hD.sub [0, 13, 1, 2, 15, 16, 3, 4, 5, 6, 7, 8, 9, 10, 14, 11, 12] (by decide +kernel) rfl⟩, hS.F ht⟩) hS.2.2 dX9_firstSight_173
        ·
          have i_123 : m_i.toInt < 64 := g5_geN (a := m_i.toInt) (b := 64) rfl (by decide +kernel) c_123
          refine lv_iload hx hb dX9_firstSight_65 (lv_at hl 0 rfl) ?_
          refine lv_if_eq (tgt := 99) hx hb dX9_firstSight_67 (by decide +kernel) (fun c_128 => ?_) (fun c_128 => ?_)
          ·
            have i_128 : m_t.toInt = 0 := g5_eq (a := m_t.toInt) (b := 0) rfl (by decide +kernel) c_128
            refine lv_iconst (v := 0) hx hb dX9_firstSight_99 (by decide +kernel) ?_
            refine lv_istore (lv' := [(12, .int 0), (7, .int m_t), (9, .long m_x), (11, .int m_i), (5, .long k_x), (8, .int k_h), (0, .ref a_wk), (1, .int p_b), (2, .int p_c), (3, .int p_f), (4, .int p_e)]) hx hb dX9_firstSight_100 hl (by decide +kernel) rfl ?_
            clear hl
            intro ls hl
            refine lv_lload hx hb dX9_firstSight_102 (lv_at hl 2 rfl) ?_
            refine lv_iload hx hb dX9_firstSight_104 (lv_at hl 0 rfl) ?_
            refine W.eq (g2 := F0 m 106 ls [.int 0, .long m_x]) rfl ?_
            refine lv_if_eq (tgt := 116) hx hb dX9_firstSight_106 (by decide +kernel) (fun c_129 => ?_) (fun c_129 => ?_)
            ·
              refine lv_lconst (v := 0) hx hb dX9_firstSight_116 (by decide +kernel) ?_
              refine lv_lor hx hb dX9_firstSight_117 ?_
              refine g5_tl (v := m_x) (by simp) ?_
              refine lv_lstore (lv' := [(9, .long m_x), (12, .int 0), (7, .int m_t), (11, .int m_i), (5, .long k_x), (8, .int k_h), (0, .ref a_wk), (1, .int p_b), (2, .int p_c), (3, .int p_f), (4, .int p_e)]) hx hb dX9_firstSight_118 hl (by decide +kernel) rfl ?_
              clear hl
              intro ls hl
              refine lv_aload_n hx hb dX9_firstSight_120 rfl (lv_at hl 6 rfl) ?_
              refine W.eq (g2 := F0 m 121 ls [.ref a_wk]) rfl ?_
              refine va_get (D := G.1) (ci := 9) (v := .ref a_mt) (C := RX9) (T := TX9) (N := 4) hx hb hts inG_X9 hown hK hP 14 rfl rfl 3 (by decide +kernel) (hts _ fl_X9_15) (fun _ h9 => h9) rfl dX9_firstSight_121 ?_
              refine lv_iload hx hb dX9_firstSight_124 (lv_at hl 5 rfl) ?_
              refine lv_bipush (v := 64) hx hb dX9_firstSight_126 (by decide +kernel) ?_
              refine lv_imul hx hb dX9_firstSight_128 ?_
              have t_130 : (k_h * 64).toInt = k_h.toInt * 64 := g5_imul (a := k_h.toInt) (b := 64) (by rfl) (by decide +kernel) (by omega) (by omega)
              refine lv_iload hx hb dX9_firstSight_129 (lv_at hl 3 rfl) ?_
              refine W.eq (g2 := F0 m 131 ls [.int m_i, .int (k_h * 64), .ref a_mt]) rfl ?_
              refine lv_iadd hx hb dX9_firstSight_131 ?_
              have t_131 : ((k_h * 64) + m_i).toInt = (k_h * 64).toInt + m_i.toInt := g5_iadd (a := (k_h * 64).toInt) (b := m_i.toInt) (by rfl) (by rfl) (by omega) (by omega)
              refine lv_iload hx hb dX9_firstSight_132 (lv_at hl 2 rfl) ?_
              refine lv_if_eq (tgt := 147) hx hb dX9_firstSight_134 (by decide +kernel) (fun c_132 => ?_) (fun c_132 => ?_)
              ·
                have i_132 : m_t.toInt = 0 := g5_eq (a := m_t.toInt) (b := 0) rfl (by decide +kernel) c_132
                refine lv_iconst (v := 0) hx hb dX9_firstSight_147 (by decide +kernel) ?_
                refine va_iast hx hb hK hP hD hS 12 0 rfl rfl (i := ((k_h * 64) + m_i)) (x := 0) (vp_in_iff.mpr ⟨by omega, by omega⟩) dX9_firstSight_148 ?_
                clear hP hD hS
                intro H locs hP hD hS
                refine g5_rs [(a_k, (oc5 a_h a_j a_pt m_ln m_se m_lh m_br m_we m_me m_ce m_wy m_ho m_ov)), (a_g, (oc6 6 5 a_gn e_g)), (a_gn, (arI G 30 f_g)), (a_p, (oc6 8 5 a_pn e_p)), (a_pn, (arI G 40 f_p)), (a_bb, (arJ G 24 f_bb)), (a_j, (oc2 a_as a_sk)), (a_as, (arI G 8 m_as)), (a_sk, (arJ G 50 m_sk)), (a_l, (arW G 6 f_l)), (a_pt, (arI G 200 m_pt)), (a_go, (arJ G 24 k_go)), (a_mt, (arI G 1536 (upd m_mt ((k_h * 64) + m_i).toNatClampNeg 0))), (a_h, (oc1 e_wa e_le e_st e_fo e_lc a_l a_g a_b a_s a_p a_w e_gb a_bb)), (a_wk, (oc9 a_h a_k a_go a_mt)), (a_b, (oc6 5 24 a_bn e_b)), (a_bn, (arI G 120 f_b))] hP hD ?_
                clear hP hD
                intro hP hD
                refine lv_iinc (v := (m_i + 1)) (lv' := [(11, .int (m_i + 1)), (9, .long m_x), (12, .int 0), (7, .int m_t), (5, .long k_x), (8, .int k_h), (0, .ref a_wk), (1, .int p_b), (2, .int p_c), (3, .int p_f), (4, .int p_e)]) hx hb dX9_firstSight_149 hl (k := 3) rfl rfl (by decide +kernel) rfl ?_
                clear hl
                intro ls hl
                have t_133 : (m_i + 1).toInt = m_i.toInt + 1 := g5_iadd (a := m_i.toInt) (b := 1) rfl (by decide +kernel) (by omega) (by omega)
                refine lv_goto (tgt := 58) hx hb dX9_firstSight_152 (by decide +kernel) ?_
                exact ih_58_122 (m_x, m_t, (m_i + 1), m_se, m_lh, m_br, m_we, m_me, m_ce, m_wy, m_ho, m_ov, m_pt, m_as, m_sk, m_ln, (upd m_mt ((k_h * 64) + m_i).toNatClampNeg 0)) ls H locs (show Int.toNat (64 - (m_i + 1).toInt) < Int.toNat (64 - m_i.toInt) from g_up (show m_i.toInt < (m_i + 1).toInt by omega) (show m_i.toInt < 64 by omega)) ⟨lv_sub hl [3, 1, 0, 4, 5, 6, 7, 8, 9, 10] rfl, hP, hD, hS, i_119, ⟨by omega, by omega⟩, i_121⟩
              ·
                have i_132 : m_t.toInt ≠ 0 := g5_eqN (a := m_t.toInt) (b := 0) rfl (by decide +kernel) c_132
                omega
            ·
              exact absurd c_129 (by decide +kernel)
          ·
            have n_128 : gNe (m_t.toInt) (0) := g5_eqN (a := m_t.toInt) (b := 0) rfl (by decide +kernel) c_128
            have i_128 : m_t.toInt ≥ 1 := by have z := g5_eqN (a := m_t.toInt) (b := 0) (by rfl) (by decide +kernel) c_128; omega
            refine lv_lload hx hb dX9_firstSight_70 (lv_at hl 3 rfl) ?_
            refine lv_iload hx hb dX9_firstSight_72 (lv_at hl 2 rfl) ?_
            obtain ⟨hPc, hDc, hFc⟩ := g5_sub3 (wc := []) hP hD hS hA [] (by decide +kernel) rfl
            refine va_calli (va_runSN (As := [.long k_x, .int m_i]) (rest := []) ⟨hx, hb, hml, hown, hts⟩ (k_isOn l G H.size m_i k_x ⟨by omega, by omega⟩) ⟨va_cnB 2 hts gW_X11_isOn rfl rfl rfl (hN.1 _ g5_nw_X9_43) (hts _ ini_X11) hs_X11_isOn ⟨Nat.le_of_ble_eq_true rfl, Nat.le_of_ble_eq_true rfl⟩, hts _ st_X11_isOn, trivial⟩ (g5_preS hPc hK hDc hN hT hS hFc) rfl rfl hl.1 rfl (lv_room (Nat.le_of_ble_eq_true rfl)) dX9_firstSight_74 ⟨Nat.le_of_ble_eq_true rfl, Nat.le_of_ble_eq_true rfl⟩) hS (fun q _ h => hFc q h) hFc (fun r u t H locs ht hvm hw hB hz1 hk1 hS => ?_)
            obtain ⟨hP1, hD1⟩ := hB
            have hP1 := g5_ht ht hP1
            rcases hw with ⟨(i_134 : onB k_x m_i.toInt = false), rfl, rfl⟩ | ⟨(i_135 : onB k_x m_i.toInt = true), rfl, rfl⟩
            ·
              have hJ9 := g5_same hP hk1
              clear hP hPc hDc hFc ht hvm hz1 hk1 hP1 hD1
              have hP := hJ9
              clear hJ9
              refine lv_if_eq (tgt := 99) hx hb dX9_firstSight_77 (by decide +kernel) (fun c_136 => ?_) (fun c_136 => ?_)
              ·
                refine lv_iconst (v := 0) hx hb dX9_firstSight_99 (by decide +kernel) ?_
                refine lv_istore (lv' := [(12, .int 0), (7, .int m_t), (9, .long m_x), (11, .int m_i), (5, .long k_x), (8, .int k_h), (0, .ref a_wk), (1, .int p_b), (2, .int p_c), (3, .int p_f), (4, .int p_e)]) hx hb dX9_firstSight_100 hl (by decide +kernel) rfl ?_
                clear hl
                intro ls hl
                refine lv_lload hx hb dX9_firstSight_102 (lv_at hl 2 rfl) ?_
                refine lv_iload hx hb dX9_firstSight_104 (lv_at hl 0 rfl) ?_
                refine W.eq (g2 := F0 m 106 ls [.int 0, .long m_x]) rfl ?_
                refine lv_if_eq (tgt := 116) hx hb dX9_firstSight_106 (by decide +kernel) (fun c_137 => ?_) (fun c_137 => ?_)
                ·
                  refine lv_lconst (v := 0) hx hb dX9_firstSight_116 (by decide +kernel) ?_
                  refine lv_lor hx hb dX9_firstSight_117 ?_
                  refine g5_tl (v := m_x) (by simp) ?_
                  refine lv_lstore (lv' := [(9, .long m_x), (12, .int 0), (7, .int m_t), (11, .int m_i), (5, .long k_x), (8, .int k_h), (0, .ref a_wk), (1, .int p_b), (2, .int p_c), (3, .int p_f), (4, .int p_e)]) hx hb dX9_firstSight_118 hl (by decide +kernel) rfl ?_
                  clear hl
                  intro ls hl
                  refine lv_aload_n hx hb dX9_firstSight_120 rfl (lv_at hl 6 rfl) ?_
                  refine W.eq (g2 := F0 m 121 ls [.ref a_wk]) rfl ?_
                  refine va_get (D := G.1) (ci := 9) (v := .ref a_mt) (C := RX9) (T := TX9) (N := 4) hx hb hts inG_X9 hown hK hP 14 rfl rfl 3 (by decide +kernel) (hts _ fl_X9_15) (fun _ h9 => h9) rfl dX9_firstSight_121 ?_
                  refine lv_iload hx hb dX9_firstSight_124 (lv_at hl 5 rfl) ?_
                  refine lv_bipush (v := 64) hx hb dX9_firstSight_126 (by decide +kernel) ?_
                  refine lv_imul hx hb dX9_firstSight_128 ?_
                  have t_138 : (k_h * 64).toInt = k_h.toInt * 64 := g5_imul (a := k_h.toInt) (b := 64) (by rfl) (by decide +kernel) (by omega) (by omega)
                  refine lv_iload hx hb dX9_firstSight_129 (lv_at hl 3 rfl) ?_
                  refine W.eq (g2 := F0 m 131 ls [.int m_i, .int (k_h * 64), .ref a_mt]) rfl ?_
                  refine lv_iadd hx hb dX9_firstSight_131 ?_
                  have t_139 : ((k_h * 64) + m_i).toInt = (k_h * 64).toInt + m_i.toInt := g5_iadd (a := (k_h * 64).toInt) (b := m_i.toInt) (by rfl) (by rfl) (by omega) (by omega)
                  refine lv_iload hx hb dX9_firstSight_132 (lv_at hl 2 rfl) ?_
                  refine lv_if_eq (tgt := 147) hx hb dX9_firstSight_134 (by decide +kernel) (fun c_140 => ?_) (fun c_140 => ?_)
                  ·
                    have i_140 : m_t.toInt = 0 := g5_eq (a := m_t.toInt) (b := 0) rfl (by decide +kernel) c_140
                    omega
                  ·
                    have n_140 : gNe (m_t.toInt) (0) := g5_eqN (a := m_t.toInt) (b := 0) rfl (by decide +kernel) c_140
                    refine lv_aload_n hx hb dX9_firstSight_137 rfl (lv_at hl 6 rfl) ?_
                    refine va_get (D := G.1) (ci := 9) (v := .ref a_k) (C := RX9) (T := TX9) (N := 4) hx hb hts inG_X9 hown hK hP 14 rfl rfl 1 (by decide +kernel) (hts _ fl_X9_23) (fun _ h9 => h9) rfl dX9_firstSight_138 ?_
                    refine va_get (D := G.1) (ci := 5) (v := .int m_me) (C := RX5) (T := TX5) (N := 13) hx hb hts inG_X5 hown hK hP 0 rfl rfl 8 (by decide +kernel) (hts _ fl_X9_53) (fun _ h9 => h9) rfl dX9_firstSight_141 ?_
                    refine lv_goto (tgt := 148) hx hb dX9_firstSight_144 (by decide +kernel) ?_
                    refine W.eq (g2 := F0 m 148 ls [.int m_me, .int ((k_h * 64) + m_i), .ref a_mt]) rfl ?_
                    refine va_iast hx hb hK hP hD hS 12 0 rfl rfl (i := ((k_h * 64) + m_i)) (x := m_me) (vp_in_iff.mpr ⟨by omega, by omega⟩) dX9_firstSight_148 ?_
                    clear hP hD hS
                    intro H locs hP hD hS
                    refine g5_rs [(a_k, (oc5 a_h a_j a_pt m_ln m_se m_lh m_br m_we m_me m_ce m_wy m_ho m_ov)), (a_g, (oc6 6 5 a_gn e_g)), (a_gn, (arI G 30 f_g)), (a_p, (oc6 8 5 a_pn e_p)), (a_pn, (arI G 40 f_p)), (a_bb, (arJ G 24 f_bb)), (a_j, (oc2 a_as a_sk)), (a_as, (arI G 8 m_as)), (a_sk, (arJ G 50 m_sk)), (a_l, (arW G 6 f_l)), (a_pt, (arI G 200 m_pt)), (a_go, (arJ G 24 k_go)), (a_mt, (arI G 1536 (upd m_mt ((k_h * 64) + m_i).toNatClampNeg m_me))), (a_h, (oc1 e_wa e_le e_st e_fo e_lc a_l a_g a_b a_s a_p a_w e_gb a_bb)), (a_wk, (oc9 a_h a_k a_go a_mt)), (a_b, (oc6 5 24 a_bn e_b)), (a_bn, (arI G 120 f_b))] hP hD ?_
                    clear hP hD
                    intro hP hD
                    refine lv_iinc (v := (m_i + 1)) (lv' := [(11, .int (m_i + 1)), (9, .long m_x), (12, .int 0), (7, .int m_t), (5, .long k_x), (8, .int k_h), (0, .ref a_wk), (1, .int p_b), (2, .int p_c), (3, .int p_f), (4, .int p_e)]) hx hb dX9_firstSight_149 hl (k := 3) rfl rfl (by decide +kernel) rfl ?_
                    clear hl
                    intro ls hl
                    have t_141 : (m_i + 1).toInt = m_i.toInt + 1 := g5_iadd (a := m_i.toInt) (b := 1) rfl (by decide +kernel) (by omega) (by omega)
                    refine lv_goto (tgt := 58) hx hb dX9_firstSight_152 (by decide +kernel) ?_
                    exact ih_58_122 (m_x, m_t, (m_i + 1), m_se, m_lh, m_br, m_we, m_me, m_ce, m_wy, m_ho, m_ov, m_pt, m_as, m_sk, m_ln, (upd m_mt ((k_h * 64) + m_i).toNatClampNeg m_me)) ls H locs (show Int.toNat (64 - (m_i + 1).toInt) < Int.toNat (64 - m_i.toInt) from g_up (show m_i.toInt < (m_i + 1).toInt by omega) (show m_i.toInt < 64 by omega)) ⟨lv_sub hl [3, 1, 0, 4, 5, 6, 7, 8, 9, 10] rfl, hP, hD, hS, i_119, ⟨by omega, by omega⟩, i_121⟩
                ·
                  exact absurd c_137 (by decide +kernel)
              ·
                exact absurd c_136 (by decide +kernel)
            ·
              have hJ9 := g5_same hP hk1
              clear hP hPc hDc hFc ht hvm hz1 hk1 hP1 hD1
              have hP := hJ9
              clear hJ9
              refine lv_if_eq (tgt := 99) hx hb dX9_firstSight_77 (by decide +kernel) (fun c_142 => ?_) (fun c_142 => ?_)
              ·
                exact absurd c_142 (by decide +kernel)
              ·
                refine lv_aload_n hx hb dX9_firstSight_80 rfl (lv_at hl 5 rfl) ?_
                refine va_get (D := G.1) (ci := 9) (v := .ref a_k) (C := RX9) (T := TX9) (N := 4) hx hb hts inG_X9 hown hK hP 14 rfl rfl 1 (by decide +kernel) (hts _ fl_X9_23) (fun _ h9 => h9) rfl dX9_firstSight_81 ?_
                refine lv_iload_n hx hb dX9_firstSight_84 rfl (lv_at hl 6 rfl) ?_
                refine lv_iload hx hb dX9_firstSight_85 (lv_at hl 2 rfl) ?_
                refine W.eq (g2 := F0 m 87 ls [.int m_i, .int p_b, .ref a_k]) rfl ?_
                refine lv_iload hx hb dX9_firstSight_87 (lv_at hl 4 rfl) ?_
                obtain ⟨hPc, hDc, hFc⟩ := g5_sub3 (wc := [(a_k, (oc5 a_h a_j a_pt m_ln m_se m_lh m_br m_we m_me m_ce m_wy m_ho m_ov)), (a_h, (oc1 e_wa e_le e_st e_fo e_lc a_l a_g a_b a_s a_p a_w e_gb a_bb)), (a_g, (oc6 6 5 a_gn e_g)), (a_gn, (arI G 30 f_g)), (a_b, (oc6 5 24 a_bn e_b)), (a_bn, (arI G 120 f_b)), (a_p, (oc6 8 5 a_pn e_p)), (a_pn, (arI G 40 f_p)), (a_bb, (arJ G 24 f_bb)), (a_j, (oc2 a_as a_sk)), (a_as, (arI G 8 m_as)), (a_sk, (arJ G 50 m_sk)), (a_l, (arW G 6 f_l)), (a_pt, (arI G 200 m_pt))]) hP hD hS hA [0, 13, 1, 2, 15, 16, 3, 4, 5, 6, 7, 8, 9, 10] (by decide +kernel) rfl
                refine va_calli (va_runV (As := [.int p_b, .int m_i, .int k_h]) (rest := []) ⟨hx, hb, hml, hown, hts⟩ (s_findsBodyN l G a_k a_h a_g a_gn a_b a_bn a_p a_pn a_bb a_j a_as a_sk a_l a_pt a_s a_w H.size e_le e_st e_fo e_lc e_g e_b e_p m_ln m_se m_lh m_br m_we m_me m_ce m_wy m_ho m_ov m_i k_h p_b e_wa e_gb f_g f_b f_p f_bb m_as m_sk f_l m_pt h_e_g h_e_b h_e_p i_121 (e_gk) (e_pk) (e_gi) (e_f)) (cwV 3 hts gV_X9_47 rfl rfl rfl hv_X5_findsBody ⟨Nat.le_of_ble_eq_true rfl, Nat.le_of_ble_eq_true rfl⟩) (g5_preV hPc hK hDc hN hT hS hFc (ci := 5) (q0 := 0) rfl rfl) rfl rfl hl.1 rfl (lv_room (Nat.le_of_ble_eq_true rfl)) dX9_firstSight_89 ⟨Nat.le_of_ble_eq_true rfl, Nat.le_of_ble_eq_true rfl⟩) hS (fun q _ h => hFc q h) hFc (fun r u t H locs ht hvm hw hB hz1 hk1 hS => ?_)
                obtain ⟨hP1, hD1⟩ := hB
                have hP1 := g5_ht ht hP1
                obtain ⟨z145, z146, z147, z148, z149, z150, z151, z152, z153, z154, z155, z156, z157, z158, (i_143 : 0 ≤ z145.toInt ∧ z145.toInt ≤ 1), (i_144 : 0 ≤ z155.toInt ∧ z155.toInt ≤ 1), y159, rfl⟩ := hw
                have hJ9 := va_join (wr := [(a_go, (arJ G 24 k_go)), (a_mt, (arI G 1536 m_mt)), (a_wk, (oc9 a_h a_k a_go a_mt))]) hP hD [0, 13, 1, 2, 15, 16, 3, 4, 5, 6, 7, 8, 9, 10] [11, 12, 14] rfl rfl (by decide +kernel) (by decide +kernel) hk1 hFc hP1 hD1
                clear hP hD hPc hDc hFc ht hvm hz1 hk1 hP1 hD1
                obtain ⟨hP, hD⟩ := hJ9
                refine g5_rs [(a_go, (arJ G 24 k_go)), (a_mt, (arI G 1536 m_mt)), (a_wk, (oc9 a_h a_k a_go a_mt)), (a_k, (oc5 a_h a_j a_pt z146 z147 z148 z149 z150 z151 z152 z153 z154 z155)), (a_h, (oc1 e_wa e_le e_st e_fo e_lc a_l a_g a_b a_s a_p a_w e_gb a_bb)), (a_g, (oc6 6 5 a_gn e_g)), (a_gn, (arI G 30 f_g)), (a_b, (oc6 5 24 a_bn e_b)), (a_bn, (arI G 120 f_b)), (a_p, (oc6 8 5 a_pn e_p)), (a_pn, (arI G 40 f_p)), (a_bb, (arJ G 24 f_bb)), (a_j, (oc2 a_as a_sk)), (a_as, (arI G 8 z157)), (a_sk, (arJ G 50 z158)), (a_l, (arW G 6 f_l)), (a_pt, (arI G 200 z156))] hP hD ?_
                clear hP hD
                intro hP hD
                refine g5_ti (v := z145) y159 ?_
                refine lv_if_eq (tgt := 99) hx hb dX9_firstSight_92 (by decide +kernel) (fun c_160 => ?_) (fun c_160 => ?_)
                ·
                  have i_160 : z145.toInt = 0 := g5_eq (a := z145.toInt) (b := 0) rfl (by decide +kernel) c_160
                  refine lv_iconst (v := 0) hx hb dX9_firstSight_99 (by decide +kernel) ?_
                  refine lv_istore (lv' := [(12, .int 0), (7, .int m_t), (9, .long m_x), (11, .int m_i), (5, .long k_x), (8, .int k_h), (0, .ref a_wk), (1, .int p_b), (2, .int p_c), (3, .int p_f), (4, .int p_e)]) hx hb dX9_firstSight_100 hl (by decide +kernel) rfl ?_
                  clear hl
                  intro ls hl
                  refine lv_lload hx hb dX9_firstSight_102 (lv_at hl 2 rfl) ?_
                  refine lv_iload hx hb dX9_firstSight_104 (lv_at hl 0 rfl) ?_
                  refine W.eq (g2 := F0 m 106 ls [.int 0, .long m_x]) rfl ?_
                  refine lv_if_eq (tgt := 116) hx hb dX9_firstSight_106 (by decide +kernel) (fun c_161 => ?_) (fun c_161 => ?_)
                  ·
                    refine lv_lconst (v := 0) hx hb dX9_firstSight_116 (by decide +kernel) ?_
                    refine lv_lor hx hb dX9_firstSight_117 ?_
                    refine g5_tl (v := m_x) (by simp) ?_
                    refine lv_lstore (lv' := [(9, .long m_x), (12, .int 0), (7, .int m_t), (11, .int m_i), (5, .long k_x), (8, .int k_h), (0, .ref a_wk), (1, .int p_b), (2, .int p_c), (3, .int p_f), (4, .int p_e)]) hx hb dX9_firstSight_118 hl (by decide +kernel) rfl ?_
                    clear hl
                    intro ls hl
                    refine lv_aload_n hx hb dX9_firstSight_120 rfl (lv_at hl 6 rfl) ?_
                    refine W.eq (g2 := F0 m 121 ls [.ref a_wk]) rfl ?_
                    refine va_get (D := G.1) (ci := 9) (v := .ref a_mt) (C := RX9) (T := TX9) (N := 4) hx hb hts inG_X9 hown hK hP 2 rfl rfl 3 (by decide +kernel) (hts _ fl_X9_15) (fun _ h9 => h9) rfl dX9_firstSight_121 ?_
                    refine lv_iload hx hb dX9_firstSight_124 (lv_at hl 5 rfl) ?_
                    refine lv_bipush (v := 64) hx hb dX9_firstSight_126 (by decide +kernel) ?_
                    refine lv_imul hx hb dX9_firstSight_128 ?_
                    have t_162 : (k_h * 64).toInt = k_h.toInt * 64 := g5_imul (a := k_h.toInt) (b := 64) (by rfl) (by decide +kernel) (by omega) (by omega)
                    refine lv_iload hx hb dX9_firstSight_129 (lv_at hl 3 rfl) ?_
                    refine W.eq (g2 := F0 m 131 ls [.int m_i, .int (k_h * 64), .ref a_mt]) rfl ?_
                    refine lv_iadd hx hb dX9_firstSight_131 ?_
                    have t_163 : ((k_h * 64) + m_i).toInt = (k_h * 64).toInt + m_i.toInt := g5_iadd (a := (k_h * 64).toInt) (b := m_i.toInt) (by rfl) (by rfl) (by omega) (by omega)
                    refine lv_iload hx hb dX9_firstSight_132 (lv_at hl 2 rfl) ?_
                    refine lv_if_eq (tgt := 147) hx hb dX9_firstSight_134 (by decide +kernel) (fun c_164 => ?_) (fun c_164 => ?_)
                    ·
                      have i_164 : m_t.toInt = 0 := g5_eq (a := m_t.toInt) (b := 0) rfl (by decide +kernel) c_164
                      omega
                    ·
                      have n_164 : gNe (m_t.toInt) (0) := g5_eqN (a := m_t.toInt) (b := 0) rfl (by decide +kernel) c_164
                      refine lv_aload_n hx hb dX9_firstSight_137 rfl (lv_at hl 6 rfl) ?_
                      refine va_get (D := G.1) (ci := 9) (v := .ref a_k) (C := RX9) (T := TX9) (N := 4) hx hb hts inG_X9 hown hK hP 2 rfl rfl 1 (by decide +kernel) (hts _ fl_X9_23) (fun _ h9 => h9) rfl dX9_firstSight_138 ?_
                      refine va_get (D := G.1) (ci := 5) (v := .int z151) (C := RX5) (T := TX5) (N := 13) hx hb hts inG_X5 hown hK hP 3 rfl rfl 8 (by decide +kernel) (hts _ fl_X9_53) (fun _ h9 => h9) rfl dX9_firstSight_141 ?_
                      refine lv_goto (tgt := 148) hx hb dX9_firstSight_144 (by decide +kernel) ?_
                      refine W.eq (g2 := F0 m 148 ls [.int z151, .int ((k_h * 64) + m_i), .ref a_mt]) rfl ?_
                      refine va_iast hx hb hK hP hD hS 1 0 rfl rfl (i := ((k_h * 64) + m_i)) (x := z151) (vp_in_iff.mpr ⟨by omega, by omega⟩) dX9_firstSight_148 ?_
                      clear hP hD hS
                      intro H locs hP hD hS
                      refine g5_rs [(a_go, (arJ G 24 k_go)), (a_mt, (arI G 1536 (upd m_mt ((k_h * 64) + m_i).toNatClampNeg z151))), (a_wk, (oc9 a_h a_k a_go a_mt)), (a_k, (oc5 a_h a_j a_pt z146 z147 z148 z149 z150 z151 z152 z153 z154 z155)), (a_h, (oc1 e_wa e_le e_st e_fo e_lc a_l a_g a_b a_s a_p a_w e_gb a_bb)), (a_g, (oc6 6 5 a_gn e_g)), (a_gn, (arI G 30 f_g)), (a_b, (oc6 5 24 a_bn e_b)), (a_bn, (arI G 120 f_b)), (a_p, (oc6 8 5 a_pn e_p)), (a_pn, (arI G 40 f_p)), (a_bb, (arJ G 24 f_bb)), (a_j, (oc2 a_as a_sk)), (a_as, (arI G 8 z157)), (a_sk, (arJ G 50 z158)), (a_l, (arW G 6 f_l)), (a_pt, (arI G 200 z156))] hP hD ?_
                      clear hP hD
                      intro hP hD
                      refine lv_iinc (v := (m_i + 1)) (lv' := [(11, .int (m_i + 1)), (9, .long m_x), (12, .int 0), (7, .int m_t), (5, .long k_x), (8, .int k_h), (0, .ref a_wk), (1, .int p_b), (2, .int p_c), (3, .int p_f), (4, .int p_e)]) hx hb dX9_firstSight_149 hl (k := 3) rfl rfl (by decide +kernel) rfl ?_
                      clear hl
                      intro ls hl
                      have t_165 : (m_i + 1).toInt = m_i.toInt + 1 := g5_iadd (a := m_i.toInt) (b := 1) rfl (by decide +kernel) (by omega) (by omega)
                      refine lv_goto (tgt := 58) hx hb dX9_firstSight_152 (by decide +kernel) ?_
                      exact ih_58_122 (m_x, m_t, (m_i + 1), z147, z148, z149, z150, z151, z152, z153, z154, z155, z156, z157, z158, z146, (upd m_mt ((k_h * 64) + m_i).toNatClampNeg z151)) ls H locs (show Int.toNat (64 - (m_i + 1).toInt) < Int.toNat (64 - m_i.toInt) from g_up (show m_i.toInt < (m_i + 1).toInt by omega) (show m_i.toInt < 64 by omega)) ⟨lv_sub hl [3, 1, 0, 4, 5, 6, 7, 8, 9, 10] rfl, hP.sub [3, 5, 6, 9, 10, 11, 12, 13, 14, 15, 16, 0, 1, 4, 2, 7, 8] rfl, hD.sub [3, 5, 6, 9, 10, 11, 12, 13, 14, 15, 16, 0, 1, 4, 2, 7, 8] (by decide +kernel) rfl, hS, i_119, ⟨by omega, by omega⟩, i_144⟩
                  ·
                    exact absurd c_161 (by decide +kernel)
                ·
                  have n_160 : gNe (z145.toInt) (0) := g5_eqN (a := z145.toInt) (b := 0) rfl (by decide +kernel) c_160
                  have i_160 : z145.toInt ≥ 1 := by have z := g5_eqN (a := z145.toInt) (b := 0) (by rfl) (by decide +kernel) c_160; omega
                  refine lv_iconst (v := 1) hx hb dX9_firstSight_95 (by decide +kernel) ?_
                  refine lv_goto (tgt := 100) hx hb dX9_firstSight_96 (by decide +kernel) ?_
                  refine lv_istore (lv' := [(12, .int 1), (7, .int m_t), (9, .long m_x), (11, .int m_i), (5, .long k_x), (8, .int k_h), (0, .ref a_wk), (1, .int p_b), (2, .int p_c), (3, .int p_f), (4, .int p_e)]) hx hb dX9_firstSight_100 hl (by decide +kernel) rfl ?_
                  clear hl
                  intro ls hl
                  refine lv_lload hx hb dX9_firstSight_102 (lv_at hl 2 rfl) ?_
                  refine W.eq (g2 := F0 m 104 ls [.long m_x]) rfl ?_
                  refine lv_iload hx hb dX9_firstSight_104 (lv_at hl 0 rfl) ?_
                  refine lv_if_eq (tgt := 116) hx hb dX9_firstSight_106 (by decide +kernel) (fun c_166 => ?_) (fun c_166 => ?_)
                  ·
                    exact absurd c_166 (by decide +kernel)
                  ·
                    refine lv_lconst (v := 1) hx hb dX9_firstSight_109 (by decide +kernel) ?_
                    refine lv_iload hx hb dX9_firstSight_110 (lv_at hl 3 rfl) ?_
                    refine lv_lshl (v := ((1 : Int64) <<< (m_i.toInt64 &&& 63))) hx hb dX9_firstSight_112 rfl ?_
                    refine lv_goto (tgt := 117) hx hb dX9_firstSight_113 (by decide +kernel) ?_
                    refine W.eq (g2 := F0 m 117 ls [.long ((1 : Int64) <<< (m_i.toInt64 &&& 63)), .long m_x]) rfl ?_
                    refine lv_lor hx hb dX9_firstSight_117 ?_
                    refine lv_lstore (lv' := [(9, .long (m_x ||| ((1 : Int64) <<< (m_i.toInt64 &&& 63)))), (12, .int 1), (7, .int m_t), (11, .int m_i), (5, .long k_x), (8, .int k_h), (0, .ref a_wk), (1, .int p_b), (2, .int p_c), (3, .int p_f), (4, .int p_e)]) hx hb dX9_firstSight_118 hl (by decide +kernel) rfl ?_
                    clear hl
                    intro ls hl
                    refine lv_aload_n hx hb dX9_firstSight_120 rfl (lv_at hl 6 rfl) ?_
                    refine va_get (D := G.1) (ci := 9) (v := .ref a_mt) (C := RX9) (T := TX9) (N := 4) hx hb hts inG_X9 hown hK hP 2 rfl rfl 3 (by decide +kernel) (hts _ fl_X9_15) (fun _ h9 => h9) rfl dX9_firstSight_121 ?_
                    refine lv_iload hx hb dX9_firstSight_124 (lv_at hl 5 rfl) ?_
                    refine W.eq (g2 := F0 m 126 ls [.int k_h, .ref a_mt]) rfl ?_
                    refine lv_bipush (v := 64) hx hb dX9_firstSight_126 (by decide +kernel) ?_
                    refine lv_imul hx hb dX9_firstSight_128 ?_
                    have t_167 : (k_h * 64).toInt = k_h.toInt * 64 := g5_imul (a := k_h.toInt) (b := 64) (by rfl) (by decide +kernel) (by omega) (by omega)
                    refine lv_iload hx hb dX9_firstSight_129 (lv_at hl 3 rfl) ?_
                    refine lv_iadd hx hb dX9_firstSight_131 ?_
                    have t_168 : ((k_h * 64) + m_i).toInt = (k_h * 64).toInt + m_i.toInt := g5_iadd (a := (k_h * 64).toInt) (b := m_i.toInt) (by rfl) (by rfl) (by omega) (by omega)
                    refine lv_iload hx hb dX9_firstSight_132 (lv_at hl 2 rfl) ?_
                    refine W.eq (g2 := F0 m 134 ls [.int m_t, .int ((k_h * 64) + m_i), .ref a_mt]) rfl ?_
                    refine lv_if_eq (tgt := 147) hx hb dX9_firstSight_134 (by decide +kernel) (fun c_169 => ?_) (fun c_169 => ?_)
                    ·
                      have i_169 : m_t.toInt = 0 := g5_eq (a := m_t.toInt) (b := 0) rfl (by decide +kernel) c_169
                      omega
                    ·
                      have n_169 : gNe (m_t.toInt) (0) := g5_eqN (a := m_t.toInt) (b := 0) rfl (by decide +kernel) c_169
                      refine lv_aload_n hx hb dX9_firstSight_137 rfl (lv_at hl 6 rfl) ?_
                      refine va_get (D := G.1) (ci := 9) (v := .ref a_k) (C := RX9) (T := TX9) (N := 4) hx hb hts inG_X9 hown hK hP 2 rfl rfl 1 (by decide +kernel) (hts _ fl_X9_23) (fun _ h9 => h9) rfl dX9_firstSight_138 ?_
                      refine va_get (D := G.1) (ci := 5) (v := .int z151) (C := RX5) (T := TX5) (N := 13) hx hb hts inG_X5 hown hK hP 3 rfl rfl 8 (by decide +kernel) (hts _ fl_X9_53) (fun _ h9 => h9) rfl dX9_firstSight_141 ?_
                      refine lv_goto (tgt := 148) hx hb dX9_firstSight_144 (by decide +kernel) ?_
                      refine W.eq (g2 := F0 m 148 ls [.int z151, .int ((k_h * 64) + m_i), .ref a_mt]) rfl ?_
                      refine va_iast hx hb hK hP hD hS 1 0 rfl rfl (i := ((k_h * 64) + m_i)) (x := z151) (vp_in_iff.mpr ⟨by omega, by omega⟩) dX9_firstSight_148 ?_
                      clear hP hD hS
                      intro H locs hP hD hS
                      refine g5_rs [(a_go, (arJ G 24 k_go)), (a_mt, (arI G 1536 (upd m_mt ((k_h * 64) + m_i).toNatClampNeg z151))), (a_wk, (oc9 a_h a_k a_go a_mt)), (a_k, (oc5 a_h a_j a_pt z146 z147 z148 z149 z150 z151 z152 z153 z154 z155)), (a_h, (oc1 e_wa e_le e_st e_fo e_lc a_l a_g a_b a_s a_p a_w e_gb a_bb)), (a_g, (oc6 6 5 a_gn e_g)), (a_gn, (arI G 30 f_g)), (a_b, (oc6 5 24 a_bn e_b)), (a_bn, (arI G 120 f_b)), (a_p, (oc6 8 5 a_pn e_p)), (a_pn, (arI G 40 f_p)), (a_bb, (arJ G 24 f_bb)), (a_j, (oc2 a_as a_sk)), (a_as, (arI G 8 z157)), (a_sk, (arJ G 50 z158)), (a_l, (arW G 6 f_l)), (a_pt, (arI G 200 z156))] hP hD ?_
                      clear hP hD
                      intro hP hD
                      refine lv_iinc (v := (m_i + 1)) (lv' := [(11, .int (m_i + 1)), (9, .long (m_x ||| ((1 : Int64) <<< (m_i.toInt64 &&& 63)))), (12, .int 1), (7, .int m_t), (5, .long k_x), (8, .int k_h), (0, .ref a_wk), (1, .int p_b), (2, .int p_c), (3, .int p_f), (4, .int p_e)]) hx hb dX9_firstSight_149 hl (k := 3) rfl rfl (by decide +kernel) rfl ?_
                      clear hl
                      intro ls hl
                      have t_170 : (m_i + 1).toInt = m_i.toInt + 1 := g5_iadd (a := m_i.toInt) (b := 1) rfl (by decide +kernel) (by omega) (by omega)
                      refine lv_goto (tgt := 58) hx hb dX9_firstSight_152 (by decide +kernel) ?_
                      exact ih_58_122 ((m_x ||| ((1 : Int64) <<< (m_i.toInt64 &&& 63))), m_t, (m_i + 1), z147, z148, z149, z150, z151, z152, z153, z154, z155, z156, z157, z158, z146, (upd m_mt ((k_h * 64) + m_i).toNatClampNeg z151)) ls H locs (show Int.toNat (64 - (m_i + 1).toInt) < Int.toNat (64 - m_i.toInt) from g_up (show m_i.toInt < (m_i + 1).toInt by omega) (show m_i.toInt < 64 by omega)) ⟨lv_sub hl [3, 1, 0, 4, 5, 6, 7, 8, 9, 10] rfl, hP.sub [3, 5, 6, 9, 10, 11, 12, 13, 14, 15, 16, 0, 1, 4, 2, 7, 8] rfl, hD.sub [3, 5, 6, 9, 10, 11, 12, 13, 14, 15, 16, 0, 1, 4, 2, 7, 8] (by decide +kernel) rfl, hS, i_119, ⟨by omega, by omega⟩, i_144⟩
set_option maxHeartbeats 4000000 in
set_option maxRecDepth 100000 in
theorem a_firstL (l : Launch) (G : g5_G) (a_k a_h a_g a_gn a_b a_bn a_p a_pn a_bb a_j a_as a_sk a_l a_lo a_sr a_cd a_hd a_pt a_wk a_go a_mt a_s a_w : Nat) (sz : Nat) (e_le : Int32) (e_st : Int32) (e_fo : Int32) (e_lc : Int32) (e_g : Int32) (e_b : Int32) (e_p : Int32) (e_cl : Int32) (e_ln : Int32) (e_se : Int32) (e_lh : Int32) (e_br : Int32) (e_we : Int32) (e_me : Int32) (e_ce : Int32) (e_wy : Int32) (e_ho : Int32) (e_ov : Int32) (p_b : Int32) (p_c : Int32) (p_f : Int32) (p_e : Int32) (e_wa : Int64) (e_gb : Int64) (f_g : Nat → Int32) (f_b : Nat → Int32) (f_p : Nat → Int32) (f_bb : Nat → Int64) (f_as : Nat → Int32) (f_sk : Nat → Int64) (f_l : Nat → Option Nat) (f_sr : Nat → Int32) (f_cd : Nat → Int32) (f_hd : Nat → Int32) (f_pt : Nat → Int32) (f_go : Nat → Int64) (f_mt : Nat → Int32) (n_sr : Nat) (n_cd : Nat) (n_hd : Nat) (h_e_g : 0 ≤ e_g.toInt ∧ e_g.toInt ≤ 6) (h_e_b : 0 ≤ e_b.toInt ∧ e_b.toInt ≤ 5) (h_e_p : 0 ≤ e_p.toInt ∧ e_p.toInt ≤ 8) (h_e_cl : 0 ≤ e_cl.toInt ∧ e_cl.toInt ≤ 12) (h_e_ov : 0 ≤ e_ov.toInt ∧ e_ov.toInt ≤ 1) (h_p_c : 0 ≤ p_c.toInt ∧ p_c.toInt ≤ 63) (h_p_f : 0 ≤ p_f.toInt ∧ p_f.toInt ≤ 23) (h_p_e : 0 ≤ p_e.toInt ∧ p_e.toInt ≤ 24) (e_gk : gOK f_g e_g.toInt) (e_pk : gOK f_p e_p.toInt) (e_gi : inT e_gb f_g e_g.toInt) (e_f : 0 ≤ e_fo.toInt ∧ e_fo.toInt < e_lc.toInt ∧ e_lc.toInt ≤ 6) (e_a : f_l e_fo.toNatClampNeg = some a_lo) (e_hn : n_cd ≤ 400) (e_hs : ∀ j : Nat, j < n_sr → 0 ≤ (f_sr j).toInt ∧ (f_sr j).toInt ≤ (n_cd : Int)) (e_hk : ∀ j : Nat, j < n_cd → (f_cd j >>> (12 &&& 31)).toInt = 1 → (f_cd j &&& 4095).toInt < 8) (e_c : (e_cl.toInt : Int) ≤ (n_hd : Int) ∧ (e_cl.toInt + 1 : Int) ≤ (n_sr : Int)) : Met l yX9_firstSight (wsG yX9_firstSight cX9_firstSight 13 (some .int)) ({ frames := 15, cells := 0, slots := 0, locals := 580 }) (va_Pc [.ref a_wk, .int p_b, .int p_c, .int p_f, .int p_e] (g5_P G [(a_k, (oc5 a_h a_j a_pt e_ln e_se e_lh e_br e_we e_me e_ce e_wy e_ho e_ov)), (a_h, (oc1 e_wa e_le e_st e_fo e_lc a_l a_g a_b a_s a_p a_w e_gb a_bb)), (a_g, (oc6 6 5 a_gn e_g)), (a_gn, (arI G 30 f_g)), (a_b, (oc6 5 24 a_bn e_b)), (a_bn, (arI G 120 f_b)), (a_p, (oc6 8 5 a_pn e_p)), (a_pn, (arI G 40 f_p)), (a_bb, (arJ G 24 f_bb)), (a_j, (oc2 a_as a_sk)), (a_as, (arI G 8 f_as)), (a_sk, (arJ G 50 f_sk)), (a_l, (arW G 6 f_l)), (a_lo, (oc3 e_cl a_hd a_sr a_cd)), (a_sr, (arI G n_sr f_sr)), (a_cd, (arI G n_cd f_cd)), (a_hd, (arI G n_hd f_hd)), (a_pt, (arI G 200 f_pt)), (a_wk, (oc9 a_h a_k a_go a_mt)), (a_go, (arJ G 24 f_go)), (a_mt, (arI G 1536 f_mt))] sz)) (va_Qi (fun (r : Int32) (u : va_W) => (∃ (o_r : Int32) (o_ln : Int32) (o_se : Int32) (o_lh : Int32) (o_br : Int32) (o_we : Int32) (o_me : Int32) (o_ce : Int32) (o_wy : Int32) (o_ho : Int32) (o_ov : Int32) (o_pt : Nat → Int32) (o_as : Nat → Int32) (o_sk : Nat → Int64) (o_go : Nat → Int64) (o_mt : Nat → Int32), (0 ≤ o_ov.toInt ∧ o_ov.toInt ≤ 1) ∧ (-1 ≤ o_r.toInt ∧ o_r.toInt ≤ 23) ∧ (o_r.toInt = -1 ∨ (p_f.toInt ≤ o_r.toInt ∧ o_r.toInt < p_e.toInt)) ∧ (r = o_r) ∧ (u = [(a_k, (oc5 a_h a_j a_pt o_ln o_se o_lh o_br o_we o_me o_ce o_wy o_ho o_ov)), (a_h, (oc1 e_wa e_le e_st e_fo e_lc a_l a_g a_b a_s a_p a_w e_gb a_bb)), (a_g, (oc6 6 5 a_gn e_g)), (a_gn, (arI G 30 f_g)), (a_b, (oc6 5 24 a_bn e_b)), (a_bn, (arI G 120 f_b)), (a_p, (oc6 8 5 a_pn e_p)), (a_pn, (arI G 40 f_p)), (a_bb, (arJ G 24 f_bb)), (a_j, (oc2 a_as a_sk)), (a_as, (arI G 8 o_as)), (a_sk, (arJ G 50 o_sk)), (a_l, (arW G 6 f_l)), (a_lo, (oc3 e_cl a_hd a_sr a_cd)), (a_sr, (arI G n_sr f_sr)), (a_cd, (arI G n_cd f_cd)), (a_hd, (arI G n_hd f_hd)), (a_pt, (arI G 200 o_pt)), (a_wk, (oc9 a_h a_k a_go a_mt)), (a_go, (arJ G 24 o_go)), (a_mt, (arI G 1536 o_mt))]))) (g5_B G (va_A [(a_k, (oc5 a_h a_j a_pt e_ln e_se e_lh e_br e_we e_me e_ce e_wy e_ho e_ov)), (a_h, (oc1 e_wa e_le e_st e_fo e_lc a_l a_g a_b a_s a_p a_w e_gb a_bb)), (a_g, (oc6 6 5 a_gn e_g)), (a_gn, (arI G 30 f_g)), (a_b, (oc6 5 24 a_bn e_b)), (a_bn, (arI G 120 f_b)), (a_p, (oc6 8 5 a_pn e_p)), (a_pn, (arI G 40 f_p)), (a_bb, (arJ G 24 f_bb)), (a_j, (oc2 a_as a_sk)), (a_as, (arI G 8 f_as)), (a_sk, (arJ G 50 f_sk)), (a_l, (arW G 6 f_l)), (a_lo, (oc3 e_cl a_hd a_sr a_cd)), (a_sr, (arI G n_sr f_sr)), (a_cd, (arI G n_cd f_cd)), (a_hd, (arI G n_hd f_hd)), (a_pt, (arI G 200 f_pt)), (a_wk, (oc9 a_h a_k a_go a_mt)), (a_go, (arJ G 24 f_go)), (a_mt, (arI G 1536 f_mt))] sz)) (va_A [(a_k, (oc5 a_h a_j a_pt e_ln e_se e_lh e_br e_we e_me e_ce e_wy e_ho e_ov)), (a_h, (oc1 e_wa e_le e_st e_fo e_lc a_l a_g a_b a_s a_p a_w e_gb a_bb)), (a_g, (oc6 6 5 a_gn e_g)), (a_gn, (arI G 30 f_g)), (a_b, (oc6 5 24 a_bn e_b)), (a_bn, (arI G 120 f_b)), (a_p, (oc6 8 5 a_pn e_p)), (a_pn, (arI G 40 f_p)), (a_bb, (arJ G 24 f_bb)), (a_j, (oc2 a_as a_sk)), (a_as, (arI G 8 f_as)), (a_sk, (arJ G 50 f_sk)), (a_l, (arW G 6 f_l)), (a_lo, (oc3 e_cl a_hd a_sr a_cd)), (a_sr, (arI G n_sr f_sr)), (a_cd, (arI G n_cd f_cd)), (a_hd, (arI G n_hd f_hd)), (a_pt, (arI G 200 f_pt)), (a_wk, (oc9 a_h a_k a_go a_mt)), (a_go, (arJ G 24 f_go)), (a_mt, (arI G 1536 f_mt))] sz)) 0 0 (va_A [(a_k, (oc5 a_h a_j a_pt e_ln e_se e_lh e_br e_we e_me e_ce e_wy e_ho e_ov)), (a_h, (oc1 e_wa e_le e_st e_fo e_lc a_l a_g a_b a_s a_p a_w e_gb a_bb)), (a_g, (oc6 6 5 a_gn e_g)), (a_gn, (arI G 30 f_g)), (a_b, (oc6 5 24 a_bn e_b)), (a_bn, (arI G 120 f_b)), (a_p, (oc6 8 5 a_pn e_p)), (a_pn, (arI G 40 f_p)), (a_bb, (arJ G 24 f_bb)), (a_j, (oc2 a_as a_sk)), (a_as, (arI G 8 f_as)), (a_sk, (arJ G 50 f_sk)), (a_l, (arW G 6 f_l)), (a_lo, (oc3 e_cl a_hd a_sr a_cd)), (a_sr, (arI G n_sr f_sr)), (a_cd, (arI G n_cd f_cd)), (a_hd, (arI G n_hd f_hd)), (a_pt, (arI G 200 f_pt)), (a_wk, (oc9 a_h a_k a_go a_mt)), (a_go, (arJ G 24 f_go)), (a_mt, (arI G 1536 f_mt))] sz) := by
  refine Met.ofW (cc := cX9_firstSight) (maxL := 13) (ret := (some .int)) (by decide +kernel) rfl ?_
  intro p e s m args below meth c s₁ B hml hv
  obtain ⟨rfl, hsz, hP, hK, hD0, hN, hT⟩ := hv
  have hx := B.exec
  have hb := B.bytes
  have hr := B.returns
  have hts : ∀ w ∈ tblG, w.before _ s = true := fun w h => atoms_spec (ws := (wsG yX9_firstSight cX9_firstSight 13 (some .int))) B.pre w (List.mem_cons_of_mem _ h)
  have hown : s.vm.findClass RX9 = some m.cls := findClass_of_methodNamed B.named
  have hlocks := B.notSynchronized
  subst hsz
  have hD := hD0.self (sz := s.heap.size)
  generalize hAe : va_A [(a_k, (oc5 a_h a_j a_pt e_ln e_se e_lh e_br e_we e_me e_ce e_wy e_ho e_ov)), (a_h, (oc1 e_wa e_le e_st e_fo e_lc a_l a_g a_b a_s a_p a_w e_gb a_bb)), (a_g, (oc6 6 5 a_gn e_g)), (a_gn, (arI G 30 f_g)), (a_b, (oc6 5 24 a_bn e_b)), (a_bn, (arI G 120 f_b)), (a_p, (oc6 8 5 a_pn e_p)), (a_pn, (arI G 40 f_p)), (a_bb, (arJ G 24 f_bb)), (a_j, (oc2 a_as a_sk)), (a_as, (arI G 8 f_as)), (a_sk, (arJ G 50 f_sk)), (a_l, (arW G 6 f_l)), (a_lo, (oc3 e_cl a_hd a_sr a_cd)), (a_sr, (arI G n_sr f_sr)), (a_cd, (arI G n_cd f_cd)), (a_hd, (arI G n_hd f_hd)), (a_pt, (arI G 200 f_pt)), (a_wk, (oc9 a_h a_k a_go a_mt)), (a_go, (arJ G 24 f_go)), (a_mt, (arI G 1536 f_mt))] s.heap.size = A at hD hT ⊢
  have hA : ∀ q : Nat, s.heap.size ≤ q → A q := fun q h => by rw [← hAe]; exact Or.inr h
  have hS : va_S A s.heap s.heap [] := va_S.rf
  replace hP : va_P G.1 vwCl [(a_k, (oc5 a_h a_j a_pt e_ln e_se e_lh e_br e_we e_me e_ce e_wy e_ho e_ov)), (a_h, (oc1 e_wa e_le e_st e_fo e_lc a_l a_g a_b a_s a_p a_w e_gb a_bb)), (a_g, (oc6 6 5 a_gn e_g)), (a_gn, (arI G 30 f_g)), (a_b, (oc6 5 24 a_bn e_b)), (a_bn, (arI G 120 f_b)), (a_p, (oc6 8 5 a_pn e_p)), (a_pn, (arI G 40 f_p)), (a_bb, (arJ G 24 f_bb)), (a_j, (oc2 a_as a_sk)), (a_as, (arI G 8 f_as)), (a_sk, (arJ G 50 f_sk)), (a_l, (arW G 6 f_l)), (a_lo, (oc3 e_cl a_hd a_sr a_cd)), (a_sr, (arI G n_sr f_sr)), (a_cd, (arI G n_cd f_cd)), (a_hd, (arI G n_hd f_hd)), (a_pt, (arI G 200 f_pt)), (a_wk, (oc9 a_h a_k a_go a_mt)), (a_go, (arJ G 24 f_go)), (a_mt, (arI G 1536 f_mt))] s.heap := hP
  have hl := lv_entry ([.ref a_wk, .int p_b, .int p_c, .int p_f, .int p_e]) (n := 13) (Nat.le_of_ble_eq_true rfl)
  rw [lg_entry_eq]
  generalize (lg_sl ([.ref a_wk, .int p_b, .int p_c, .int p_f, .int p_e]) ++ List.replicate (13 - (lg_sl ([.ref a_wk, .int p_b, .int p_c, .int p_f, .int p_e])).length) Slot.unset).toArray = ls at hl ⊢
  replace hl : lv_has ls 13 [(0, .ref a_wk), (1, .int p_b), (2, .int p_c), (3, .int p_f), (4, .int p_e)] := hl
  refine lv_lconst (v := 1) hx hb dX9_firstSight_0 (by decide +kernel) ?_
  refine lv_iload_n hx hb dX9_firstSight_1 rfl (lv_at hl 2 rfl) ?_
  refine lv_lshl (v := ((1 : Int64) <<< (p_c.toInt64 &&& 63))) hx hb dX9_firstSight_2 rfl ?_
  refine lv_lstore (lv' := [(5, .long ((1 : Int64) <<< (p_c.toInt64 &&& 63))), (0, .ref a_wk), (1, .int p_b), (2, .int p_c), (3, .int p_f), (4, .int p_e)]) hx hb dX9_firstSight_3 hl (by decide +kernel) rfl ?_
  clear hl
  intro ls hl
  refine W.eq (g2 := F0 m 5 ls []) rfl ?_
  refine lv_aload_n hx hb dX9_firstSight_5 rfl (lv_at hl 1 rfl) ?_
  refine lv_iload_n hx hb dX9_firstSight_6 rfl (lv_at hl 2 rfl) ?_
  refine lv_iload_n hx hb dX9_firstSight_7 rfl (lv_at hl 4 rfl) ?_
  obtain ⟨hPc, hDc, hFc⟩ := g5_sub3 (wc := [(a_h, (oc1 e_wa e_le e_st e_fo e_lc a_l a_g a_b a_s a_p a_w e_gb a_bb)), (a_b, (oc6 5 24 a_bn e_b)), (a_bn, (arI G 120 f_b)), (a_wk, (oc9 a_h a_k a_go a_mt))]) hP hD hS hA [1, 4, 5, 18] (by decide +kernel) rfl
  refine va_calli (va_runV (As := [.int p_b, .int p_f]) (rest := []) ⟨hx, hb, hml, hown, hts⟩ (a_isEverIn l G a_h a_b a_bn a_wk a_l a_g a_s a_p a_w a_bb a_k a_go a_mt s.heap.size e_le e_st e_fo e_lc e_b p_b p_f e_wa e_gb f_b h_e_b ⟨by omega, by omega⟩) (cwV 2 hts gV_X9_27 rfl rfl rfl hv_X9_isEverIn ⟨Nat.le_of_ble_eq_true rfl, Nat.le_of_ble_eq_true rfl⟩) (g5_preV hPc hK hDc hN hT hS hFc (ci := 9) (q0 := 3) rfl rfl) rfl rfl hl.1 rfl (lv_room (Nat.le_of_ble_eq_true rfl)) dX9_firstSight_8 ⟨Nat.le_of_ble_eq_true rfl, Nat.le_of_ble_eq_true rfl⟩) hS (fun q _ h => hFc q h) hFc (fun r u t H locs ht hvm hw hB hz1 hk1 hS => ?_)
  obtain ⟨hP1, hD1⟩ := hB
  have hP1 := g5_ht ht hP1
  obtain ⟨z2, (i_1 : 0 ≤ z2.toInt ∧ z2.toInt ≤ 1), y3, rfl⟩ := hw
  have hJ9 := va_join (wr := [(a_k, (oc5 a_h a_j a_pt e_ln e_se e_lh e_br e_we e_me e_ce e_wy e_ho e_ov)), (a_g, (oc6 6 5 a_gn e_g)), (a_gn, (arI G 30 f_g)), (a_p, (oc6 8 5 a_pn e_p)), (a_pn, (arI G 40 f_p)), (a_bb, (arJ G 24 f_bb)), (a_j, (oc2 a_as a_sk)), (a_as, (arI G 8 f_as)), (a_sk, (arJ G 50 f_sk)), (a_l, (arW G 6 f_l)), (a_lo, (oc3 e_cl a_hd a_sr a_cd)), (a_sr, (arI G n_sr f_sr)), (a_cd, (arI G n_cd f_cd)), (a_hd, (arI G n_hd f_hd)), (a_pt, (arI G 200 f_pt)), (a_go, (arJ G 24 f_go)), (a_mt, (arI G 1536 f_mt))]) hP hD [1, 4, 5, 18] [0, 2, 3, 6, 7, 8, 9, 10, 11, 12, 13, 14, 15, 16, 17, 19, 20] rfl rfl (by decide +kernel) (by decide +kernel) hk1 hFc hP1 hD1
  clear hP hD hPc hDc hFc ht hvm hz1 hk1 hP1 hD1
  obtain ⟨hP, hD⟩ := hJ9
  refine g5_rs [(a_k, (oc5 a_h a_j a_pt e_ln e_se e_lh e_br e_we e_me e_ce e_wy e_ho e_ov)), (a_g, (oc6 6 5 a_gn e_g)), (a_gn, (arI G 30 f_g)), (a_p, (oc6 8 5 a_pn e_p)), (a_pn, (arI G 40 f_p)), (a_bb, (arJ G 24 f_bb)), (a_j, (oc2 a_as a_sk)), (a_as, (arI G 8 f_as)), (a_sk, (arJ G 50 f_sk)), (a_l, (arW G 6 f_l)), (a_lo, (oc3 e_cl a_hd a_sr a_cd)), (a_sr, (arI G n_sr f_sr)), (a_cd, (arI G n_cd f_cd)), (a_hd, (arI G n_hd f_hd)), (a_pt, (arI G 200 f_pt)), (a_go, (arJ G 24 f_go)), (a_mt, (arI G 1536 f_mt)), (a_h, (oc1 e_wa e_le e_st e_fo e_lc a_l a_g a_b a_s a_p a_w e_gb a_bb)), (a_b, (oc6 5 24 a_bn e_b)), (a_bn, (arI G 120 f_b)), (a_wk, (oc9 a_h a_k a_go a_mt))] hP hD ?_
  clear hP hD
  intro hP hD
  refine g5_ti (v := z2) y3 ?_
  refine lv_istore (lv' := [(7, .int z2), (5, .long ((1 : Int64) <<< (p_c.toInt64 &&& 63))), (0, .ref a_wk), (1, .int p_b), (2, .int p_c), (3, .int p_f), (4, .int p_e)]) hx hb dX9_firstSight_11 hl (by decide +kernel) rfl ?_
  clear hl
  intro ls hl
  refine W.eq (g2 := F0 m 13 ls []) rfl ?_
  refine lv_iload_n hx hb dX9_firstSight_13 rfl (lv_at hl 5 rfl) ?_
  refine lv_istore (lv' := [(8, .int p_f), (7, .int z2), (5, .long ((1 : Int64) <<< (p_c.toInt64 &&& 63))), (0, .ref a_wk), (1, .int p_b), (2, .int p_c), (3, .int p_f), (4, .int p_e)]) hx hb dX9_firstSight_14 hl (by decide +kernel) rfl ?_
  clear hl
  intro ls hl
  refine g5_loop (α := (Int64) × (Int32) × (Int32) × (Int32) × (Int32) × (Int32) × (Int32) × (Int32) × (Int32) × (Int32) × (Int32) × (Int32) × (Nat → Int32) × (Nat → Int32) × (Nat → Int64) × (Int32) × (Nat → Int64) × (Nat → Int32)) (fun (q : (Int64) × (Int32) × (Int32) × (Int32) × (Int32) × (Int32) × (Int32) × (Int32) × (Int32) × (Int32) × (Int32) × (Int32) × (Nat → Int32) × (Nat → Int32) × (Nat → Int64) × (Int32) × (Nat → Int64) × (Nat → Int32)) (ls : Array Slot) (H : Heap) (locs : List Loc) => match q with | (k_x, k_t, k_h, k_se, k_lh, k_br, k_we, k_me, k_ce, k_wy, k_ho, k_ov, k_pt, k_as, k_sk, k_ln, k_go, k_mt) => lv_has ls 13 [(5, .long k_x), (7, .int k_t), (8, .int k_h), (0, .ref a_wk), (1, .int p_b), (2, .int p_c), (3, .int p_f), (4, .int p_e)] ∧ va_P G.1 vwCl [(a_k, (oc5 a_h a_j a_pt k_ln k_se k_lh k_br k_we k_me k_ce k_wy k_ho k_ov)), (a_g, (oc6 6 5 a_gn e_g)), (a_gn, (arI G 30 f_g)), (a_p, (oc6 8 5 a_pn e_p)), (a_pn, (arI G 40 f_p)), (a_bb, (arJ G 24 f_bb)), (a_j, (oc2 a_as a_sk)), (a_as, (arI G 8 k_as)), (a_sk, (arJ G 50 k_sk)), (a_l, (arW G 6 f_l)), (a_lo, (oc3 e_cl a_hd a_sr a_cd)), (a_sr, (arI G n_sr f_sr)), (a_cd, (arI G n_cd f_cd)), (a_hd, (arI G n_hd f_hd)), (a_pt, (arI G 200 k_pt)), (a_go, (arJ G 24 k_go)), (a_mt, (arI G 1536 k_mt)), (a_h, (oc1 e_wa e_le e_st e_fo e_lc a_l a_g a_b a_s a_p a_w e_gb a_bb)), (a_b, (oc6 5 24 a_bn e_b)), (a_bn, (arI G 120 f_b)), (a_wk, (oc9 a_h a_k a_go a_mt))] H ∧ va_D A [(a_k, (oc5 a_h a_j a_pt k_ln k_se k_lh k_br k_we k_me k_ce k_wy k_ho k_ov)), (a_g, (oc6 6 5 a_gn e_g)), (a_gn, (arI G 30 f_g)), (a_p, (oc6 8 5 a_pn e_p)), (a_pn, (arI G 40 f_p)), (a_bb, (arJ G 24 f_bb)), (a_j, (oc2 a_as a_sk)), (a_as, (arI G 8 k_as)), (a_sk, (arJ G 50 k_sk)), (a_l, (arW G 6 f_l)), (a_lo, (oc3 e_cl a_hd a_sr a_cd)), (a_sr, (arI G n_sr f_sr)), (a_cd, (arI G n_cd f_cd)), (a_hd, (arI G n_hd f_hd)), (a_pt, (arI G 200 k_pt)), (a_go, (arJ G 24 k_go)), (a_mt, (arI G 1536 k_mt)), (a_h, (oc1 e_wa e_le e_st e_fo e_lc a_l a_g a_b a_s a_p a_w e_gb a_bb)), (a_b, (oc6 5 24 a_bn e_b)), (a_bn, (arI G 120 f_b)), (a_wk, (oc9 a_h a_k a_go a_mt))] ∧ va_S A s.heap H locs ∧ (0 ≤ k_t.toInt ∧ k_t.toInt ≤ 1) ∧ (0 ≤ k_h.toInt ∧ k_h.toInt ≤ 24) ∧ (0 ≤ k_ov.toInt ∧ k_ov.toInt ≤ 1) ∧ (p_f.toInt ≤ k_h.toInt)) (fun (q : (Int64) × (Int32) × (Int32) × (Int32) × (Int32) × (Int32) × (Int32) × (Int32) × (Int32) × (Int32) × (Int32) × (Int32) × (Nat → Int32) × (Nat → Int32) × (Nat → Int64) × (Int32) × (Nat → Int64) × (Nat → Int32)) => match q with | (k_x, k_t, k_h, k_se, k_lh, k_br, k_we, k_me, k_ce, k_wy, k_ho, k_ov, k_pt, k_as, k_sk, k_ln, k_go, k_mt) => Int.toNat (24 - k_h.toInt)) (((1 : Int64) <<< (p_c.toInt64 &&& 63)), z2, p_f, e_se, e_lh, e_br, e_we, e_me, e_ce, e_wy, e_ho, e_ov, f_pt, f_as, f_sk, e_ln, f_go, f_mt) ⟨lv_sub hl [2, 1, 0, 3, 4, 5, 6, 7] rfl, hP, hD, hS, i_1, ⟨by omega, by omega⟩, h_e_ov, by omega⟩ ?_
  rintro ⟨k_x, k_t, k_h, k_se, k_lh, k_br, k_we, k_me, k_ce, k_wy, k_ho, k_ov, k_pt, k_as, k_sk, k_ln, k_go, k_mt⟩ ls H locs ⟨hl, hP, hD, hS, (i_4 : 0 ≤ k_t.toInt ∧ k_t.toInt ≤ 1), (i_5 : 0 ≤ k_h.toInt ∧ k_h.toInt ≤ 24), (i_6 : 0 ≤ k_ov.toInt ∧ k_ov.toInt ≤ 1), (i_7 : p_f.toInt ≤ k_h.toInt)⟩ ih_16_8
  replace hl : lv_has ls 13 [(5, .long k_x), (7, .int k_t), (8, .int k_h), (0, .ref a_wk), (1, .int p_b), (2, .int p_c), (3, .int p_f), (4, .int p_e)] := hl
  refine g5_rs [(a_k, (oc5 a_h a_j a_pt k_ln k_se k_lh k_br k_we k_me k_ce k_wy k_ho k_ov)), (a_g, (oc6 6 5 a_gn e_g)), (a_gn, (arI G 30 f_g)), (a_p, (oc6 8 5 a_pn e_p)), (a_pn, (arI G 40 f_p)), (a_bb, (arJ G 24 f_bb)), (a_j, (oc2 a_as a_sk)), (a_as, (arI G 8 k_as)), (a_sk, (arJ G 50 k_sk)), (a_l, (arW G 6 f_l)), (a_lo, (oc3 e_cl a_hd a_sr a_cd)), (a_sr, (arI G n_sr f_sr)), (a_cd, (arI G n_cd f_cd)), (a_hd, (arI G n_hd f_hd)), (a_pt, (arI G 200 k_pt)), (a_go, (arJ G 24 k_go)), (a_mt, (arI G 1536 k_mt)), (a_h, (oc1 e_wa e_le e_st e_fo e_lc a_l a_g a_b a_s a_p a_w e_gb a_bb)), (a_b, (oc6 5 24 a_bn e_b)), (a_bn, (arI G 120 f_b)), (a_wk, (oc9 a_h a_k a_go a_mt))] hP hD ?_
  clear hP hD
  intro hP hD
  refine lv_iload hx hb dX9_firstSight_16 (lv_at hl 2 rfl) ?_
  refine lv_iload hx hb dX9_firstSight_18 (lv_at hl 7 rfl) ?_
  refine lv_icmp_ge (tgt := 188) hx hb dX9_firstSight_20 (by decide +kernel) (fun c_9 => ?_) (fun c_9 => ?_)
  ·
    have i_9 : k_h.toInt ≥ p_e.toInt := g5_ge (a := k_h.toInt) (b := p_e.toInt) rfl rfl c_9
    refine lv_iconst (v := (-1)) hx hb dX9_firstSight_188 (by decide +kernel) ?_
    exact W.iret (v := (-1)) hx hb hr (fun t ht hW => ⟨⟨(-1), [(a_k, (oc5 a_h a_j a_pt k_ln k_se k_lh k_br k_we k_me k_ce k_wy k_ho k_ov)), (a_h, (oc1 e_wa e_le e_st e_fo e_lc a_l a_g a_b a_s a_p a_w e_gb a_bb)), (a_g, (oc6 6 5 a_gn e_g)), (a_gn, (arI G 30 f_g)), (a_b, (oc6 5 24 a_bn e_b)), (a_bn, (arI G 120 f_b)), (a_p, (oc6 8 5 a_pn e_p)), (a_pn, (arI G 40 f_p)), (a_bb, (arJ G 24 f_bb)), (a_j, (oc2 a_as a_sk)), (a_as, (arI G 8 k_as)), (a_sk, (arJ G 50 k_sk)), (a_l, (arW G 6 f_l)), (a_lo, (oc3 e_cl a_hd a_sr a_cd)), (a_sr, (arI G n_sr f_sr)), (a_cd, (arI G n_cd f_cd)), (a_hd, (arI G n_hd f_hd)), (a_pt, (arI G 200 k_pt)), (a_wk, (oc9 a_h a_k a_go a_mt)), (a_go, (arJ G 24 k_go)), (a_mt, (arI G 1536 k_mt))], rfl, ⟨(-1), k_ln, k_se, k_lh, k_br, k_we, k_me, k_ce, k_wy, k_ho, k_ov, k_pt, k_as, k_sk, k_go, k_mt, i_6, ⟨by have zc_o_r : ((-1) : Int32).toInt = (-1) := (by decide +kernel); omega, by have zc_o_r : ((-1) : Int32).toInt = (-1) := (by decide +kernel); omega⟩, Or.inl (by decide +kernel), rfl, rfl⟩, by rw [ht]; exact hP.sub [0, 17, 1, 2, 18, 19, 3, 4, 5, 6, 7, 8, 9, 10, 11, 12, 13, 14, 20, 15, 16] rfl, hD.sub [0, 17, 1, 2, 18, 19, 3, 4, 5, 6, 7, 8, 9, 10, 11, 12, 13, 14, 20, 15, 16] (by decide +kernel) rfl⟩, hS.F ht⟩) hS.2.2 dX9_firstSight_189
  ·
    have i_9 : k_h.toInt < p_e.toInt := g5_geN (a := k_h.toInt) (b := p_e.toInt) rfl rfl c_9
    refine lv_iload hx hb dX9_firstSight_23 (lv_at hl 1 rfl) ?_
    refine lv_if_ne (tgt := 45) hx hb dX9_firstSight_25 (by decide +kernel) (fun c_10 => ?_) (fun c_10 => ?_)
    ·
      have n_10 : gNe (k_t.toInt) (0) := g5_ne (a := k_t.toInt) (b := 0) rfl (by decide +kernel) c_10
      have i_10 : k_t.toInt ≥ 1 := by have z := g5_ne (a := k_t.toInt) (b := 0) (by rfl) (by decide +kernel) c_10; omega
      refine lv_iconst (v := 1) hx hb dX9_firstSight_45 (by decide +kernel) ?_
      refine lv_goto (tgt := 50) hx hb dX9_firstSight_46 (by decide +kernel) ?_
      refine lv_istore (lv' := [(7, .int 1), (5, .long k_x), (8, .int k_h), (0, .ref a_wk), (1, .int p_b), (2, .int p_c), (3, .int p_f), (4, .int p_e)]) hx hb dX9_firstSight_50 hl (by decide +kernel) rfl ?_
      clear hl
      intro ls hl
      refine lv_lconst (v := 0) hx hb dX9_firstSight_52 (by decide +kernel) ?_
      refine W.eq (g2 := F0 m 53 ls [.long 0]) rfl ?_
      refine lv_lstore (lv' := [(9, .long 0), (7, .int 1), (5, .long k_x), (8, .int k_h), (0, .ref a_wk), (1, .int p_b), (2, .int p_c), (3, .int p_f), (4, .int p_e)]) hx hb dX9_firstSight_53 hl (by decide +kernel) rfl ?_
      clear hl
      intro ls hl
      refine lv_iconst (v := 0) hx hb dX9_firstSight_55 (by decide +kernel) ?_
      refine lv_istore (lv' := [(11, .int 0), (9, .long 0), (7, .int 1), (5, .long k_x), (8, .int k_h), (0, .ref a_wk), (1, .int p_b), (2, .int p_c), (3, .int p_f), (4, .int p_e)]) hx hb dX9_firstSight_56 hl (by decide +kernel) rfl ?_
      clear hl
      intro ls hl
      refine g5_loop (α := (Int64) × (Int32) × (Int32) × (Int32) × (Int32) × (Int32) × (Int32) × (Int32) × (Int32) × (Int32) × (Int32) × (Int32) × (Nat → Int32) × (Nat → Int32) × (Nat → Int64) × (Int32) × (Nat → Int32)) (fun (q : (Int64) × (Int32) × (Int32) × (Int32) × (Int32) × (Int32) × (Int32) × (Int32) × (Int32) × (Int32) × (Int32) × (Int32) × (Nat → Int32) × (Nat → Int32) × (Nat → Int64) × (Int32) × (Nat → Int32)) (ls : Array Slot) (H : Heap) (locs : List Loc) => match q with | (m_x, m_t, m_i, m_se, m_lh, m_br, m_we, m_me, m_ce, m_wy, m_ho, m_ov, m_pt, m_as, m_sk, m_ln, m_mt) => lv_has ls 13 [(7, .int m_t), (9, .long m_x), (11, .int m_i), (5, .long k_x), (8, .int k_h), (0, .ref a_wk), (1, .int p_b), (2, .int p_c), (3, .int p_f), (4, .int p_e)] ∧ va_P G.1 vwCl [(a_k, (oc5 a_h a_j a_pt m_ln m_se m_lh m_br m_we m_me m_ce m_wy m_ho m_ov)), (a_g, (oc6 6 5 a_gn e_g)), (a_gn, (arI G 30 f_g)), (a_p, (oc6 8 5 a_pn e_p)), (a_pn, (arI G 40 f_p)), (a_bb, (arJ G 24 f_bb)), (a_j, (oc2 a_as a_sk)), (a_as, (arI G 8 m_as)), (a_sk, (arJ G 50 m_sk)), (a_l, (arW G 6 f_l)), (a_lo, (oc3 e_cl a_hd a_sr a_cd)), (a_sr, (arI G n_sr f_sr)), (a_cd, (arI G n_cd f_cd)), (a_hd, (arI G n_hd f_hd)), (a_pt, (arI G 200 m_pt)), (a_go, (arJ G 24 k_go)), (a_mt, (arI G 1536 m_mt)), (a_h, (oc1 e_wa e_le e_st e_fo e_lc a_l a_g a_b a_s a_p a_w e_gb a_bb)), (a_b, (oc6 5 24 a_bn e_b)), (a_bn, (arI G 120 f_b)), (a_wk, (oc9 a_h a_k a_go a_mt))] H ∧ va_D A [(a_k, (oc5 a_h a_j a_pt m_ln m_se m_lh m_br m_we m_me m_ce m_wy m_ho m_ov)), (a_g, (oc6 6 5 a_gn e_g)), (a_gn, (arI G 30 f_g)), (a_p, (oc6 8 5 a_pn e_p)), (a_pn, (arI G 40 f_p)), (a_bb, (arJ G 24 f_bb)), (a_j, (oc2 a_as a_sk)), (a_as, (arI G 8 m_as)), (a_sk, (arJ G 50 m_sk)), (a_l, (arW G 6 f_l)), (a_lo, (oc3 e_cl a_hd a_sr a_cd)), (a_sr, (arI G n_sr f_sr)), (a_cd, (arI G n_cd f_cd)), (a_hd, (arI G n_hd f_hd)), (a_pt, (arI G 200 m_pt)), (a_go, (arJ G 24 k_go)), (a_mt, (arI G 1536 m_mt)), (a_h, (oc1 e_wa e_le e_st e_fo e_lc a_l a_g a_b a_s a_p a_w e_gb a_bb)), (a_b, (oc6 5 24 a_bn e_b)), (a_bn, (arI G 120 f_b)), (a_wk, (oc9 a_h a_k a_go a_mt))] ∧ va_S A s.heap H locs ∧ (0 ≤ m_t.toInt ∧ m_t.toInt ≤ 1) ∧ (0 ≤ m_i.toInt ∧ m_i.toInt ≤ 64) ∧ (0 ≤ m_ov.toInt ∧ m_ov.toInt ≤ 1)) (fun (q : (Int64) × (Int32) × (Int32) × (Int32) × (Int32) × (Int32) × (Int32) × (Int32) × (Int32) × (Int32) × (Int32) × (Int32) × (Nat → Int32) × (Nat → Int32) × (Nat → Int64) × (Int32) × (Nat → Int32)) => match q with | (m_x, m_t, m_i, m_se, m_lh, m_br, m_we, m_me, m_ce, m_wy, m_ho, m_ov, m_pt, m_as, m_sk, m_ln, m_mt) => Int.toNat (64 - m_i.toInt)) (0, 1, 0, k_se, k_lh, k_br, k_we, k_me, k_ce, k_wy, k_ho, k_ov, k_pt, k_as, k_sk, k_ln, k_mt) ⟨lv_sub hl [2, 1, 0, 3, 4, 5, 6, 7, 8, 9] rfl, hP, hD, hS, ⟨by decide, by decide⟩, ⟨by decide, by decide⟩, i_6⟩ ?_
      rintro ⟨m_x, m_t, m_i, m_se, m_lh, m_br, m_we, m_me, m_ce, m_wy, m_ho, m_ov, m_pt, m_as, m_sk, m_ln, m_mt⟩ ls H locs ⟨hl, hP, hD, hS, (i_11 : 0 ≤ m_t.toInt ∧ m_t.toInt ≤ 1), (i_12 : 0 ≤ m_i.toInt ∧ m_i.toInt ≤ 64), (i_13 : 0 ≤ m_ov.toInt ∧ m_ov.toInt ≤ 1)⟩ ih_58_14
      replace hl : lv_has ls 13 [(7, .int m_t), (9, .long m_x), (11, .int m_i), (5, .long k_x), (8, .int k_h), (0, .ref a_wk), (1, .int p_b), (2, .int p_c), (3, .int p_f), (4, .int p_e)] := hl
      refine g5_rs [(a_k, (oc5 a_h a_j a_pt m_ln m_se m_lh m_br m_we m_me m_ce m_wy m_ho m_ov)), (a_g, (oc6 6 5 a_gn e_g)), (a_gn, (arI G 30 f_g)), (a_p, (oc6 8 5 a_pn e_p)), (a_pn, (arI G 40 f_p)), (a_bb, (arJ G 24 f_bb)), (a_j, (oc2 a_as a_sk)), (a_as, (arI G 8 m_as)), (a_sk, (arJ G 50 m_sk)), (a_l, (arW G 6 f_l)), (a_lo, (oc3 e_cl a_hd a_sr a_cd)), (a_sr, (arI G n_sr f_sr)), (a_cd, (arI G n_cd f_cd)), (a_hd, (arI G n_hd f_hd)), (a_pt, (arI G 200 m_pt)), (a_go, (arJ G 24 k_go)), (a_mt, (arI G 1536 m_mt)), (a_h, (oc1 e_wa e_le e_st e_fo e_lc a_l a_g a_b a_s a_p a_w e_gb a_bb)), (a_b, (oc6 5 24 a_bn e_b)), (a_bn, (arI G 120 f_b)), (a_wk, (oc9 a_h a_k a_go a_mt))] hP hD ?_
      clear hP hD
      intro hP hD
      refine lv_iload hx hb dX9_firstSight_58 (lv_at hl 2 rfl) ?_
      refine lv_bipush (v := 64) hx hb dX9_firstSight_60 (by decide +kernel) ?_
      refine lv_icmp_ge (tgt := 155) hx hb dX9_firstSight_62 (by decide +kernel) (fun c_15 => ?_) (fun c_15 => ?_)
      ·
        have i_15 : m_i.toInt ≥ 64 := g5_ge (a := m_i.toInt) (b := 64) rfl (by decide +kernel) c_15
        refine lv_aload_n hx hb dX9_firstSight_155 rfl (lv_at hl 5 rfl) ?_
        refine va_get (D := G.1) (ci := 9) (v := .ref a_go) (C := RX9) (T := TX9) (N := 4) hx hb hts inG_X9 hown hK hP 20 rfl rfl 2 (by decide +kernel) (hts _ fl_X9_9) (fun _ h9 => h9) rfl dX9_firstSight_156 ?_
        refine lv_iload hx hb dX9_firstSight_159 (lv_at hl 4 rfl) ?_
        refine lv_lload hx hb dX9_firstSight_161 (lv_at hl 1 rfl) ?_
        refine W.eq (g2 := F0 m 163 ls [.long m_x, .int k_h, .ref a_go]) rfl ?_
        refine va_last hx hb hK hP hD hS 15 1 rfl rfl (i := k_h) (x := m_x) (vp_in_iff.mpr ⟨by omega, by omega⟩) dX9_firstSight_163 ?_
        clear hP hD hS
        intro H locs hP hD hS
        refine g5_rs [(a_k, (oc5 a_h a_j a_pt m_ln m_se m_lh m_br m_we m_me m_ce m_wy m_ho m_ov)), (a_g, (oc6 6 5 a_gn e_g)), (a_gn, (arI G 30 f_g)), (a_p, (oc6 8 5 a_pn e_p)), (a_pn, (arI G 40 f_p)), (a_bb, (arJ G 24 f_bb)), (a_j, (oc2 a_as a_sk)), (a_as, (arI G 8 m_as)), (a_sk, (arJ G 50 m_sk)), (a_l, (arW G 6 f_l)), (a_lo, (oc3 e_cl a_hd a_sr a_cd)), (a_sr, (arI G n_sr f_sr)), (a_cd, (arI G n_cd f_cd)), (a_hd, (arI G n_hd f_hd)), (a_pt, (arI G 200 m_pt)), (a_go, (arJ G 24 (vp_updL k_go k_h.toNatClampNeg m_x))), (a_mt, (arI G 1536 m_mt)), (a_h, (oc1 e_wa e_le e_st e_fo e_lc a_l a_g a_b a_s a_p a_w e_gb a_bb)), (a_b, (oc6 5 24 a_bn e_b)), (a_bn, (arI G 120 f_b)), (a_wk, (oc9 a_h a_k a_go a_mt))] hP hD ?_
        clear hP hD
        intro hP hD
        refine lv_lload hx hb dX9_firstSight_164 (lv_at hl 1 rfl) ?_
        refine lv_lconst (v := 0) hx hb dX9_firstSight_166 (by decide +kernel) ?_
        refine W.lcmp hx hb dX9_firstSight_167 ?_
        refine lv_if_eq (tgt := 174) hx hb dX9_firstSight_168 (by decide +kernel) (fun c_16 => ?_) (fun c_16 => ?_)
        ·
          have i_16 : (lg_cmp m_x 0).toInt = 0 := g5_eq (a := (lg_cmp m_x 0).toInt) (b := 0) rfl (by decide +kernel) c_16
          refine lv_aload_n hx hb dX9_firstSight_174 rfl (lv_at hl 5 rfl) ?_
          refine lv_lload hx hb dX9_firstSight_175 (lv_at hl 3 rfl) ?_
          obtain ⟨hPc, hDc, hFc⟩ := g5_sub3 (wc := [(a_h, (oc1 e_wa e_le e_st e_fo e_lc a_l a_g a_b a_s a_p a_w e_gb a_bb)), (a_wk, (oc9 a_h a_k a_go a_mt))]) hP hD hS hA [17, 20] (by decide +kernel) rfl
          refine va_calll (va_runV (As := [.long k_x]) (rest := []) ⟨hx, hb, hml, hown, hts⟩ (a_spread l G a_h a_wk a_l a_g a_b a_s a_p a_w a_bb a_k a_go a_mt H.size e_le e_st e_fo e_lc e_wa e_gb k_x) (cwV 1 hts gV_X9_56 rfl rfl rfl hv_X9_spread ⟨Nat.le_of_ble_eq_true rfl, Nat.le_of_ble_eq_true rfl⟩) (g5_preV hPc hK hDc hN hT hS hFc (ci := 9) (q0 := 1) rfl rfl) rfl rfl hl.1 rfl (lv_room (Nat.le_of_ble_eq_true rfl)) dX9_firstSight_177 ⟨Nat.le_of_ble_eq_true rfl, Nat.le_of_ble_eq_true rfl⟩) hS (fun q _ h => hFc q h) hFc (fun r u t H locs ht hvm hw hB hz1 hk1 hS => ?_)
          obtain ⟨hP1, hD1⟩ := hB
          have hP1 := g5_ht ht hP1
          obtain ⟨z17, y18, rfl⟩ := hw
          have hJ9 := va_join (wr := [(a_k, (oc5 a_h a_j a_pt m_ln m_se m_lh m_br m_we m_me m_ce m_wy m_ho m_ov)), (a_g, (oc6 6 5 a_gn e_g)), (a_gn, (arI G 30 f_g)), (a_p, (oc6 8 5 a_pn e_p)), (a_pn, (arI G 40 f_p)), (a_bb, (arJ G 24 f_bb)), (a_j, (oc2 a_as a_sk)), (a_as, (arI G 8 m_as)), (a_sk, (arJ G 50 m_sk)), (a_l, (arW G 6 f_l)), (a_lo, (oc3 e_cl a_hd a_sr a_cd)), (a_sr, (arI G n_sr f_sr)), (a_cd, (arI G n_cd f_cd)), (a_hd, (arI G n_hd f_hd)), (a_pt, (arI G 200 m_pt)), (a_go, (arJ G 24 (vp_updL k_go k_h.toNatClampNeg m_x))), (a_mt, (arI G 1536 m_mt)), (a_b, (oc6 5 24 a_bn e_b)), (a_bn, (arI G 120 f_b))]) hP hD [17, 20] [0, 1, 2, 3, 4, 5, 6, 7, 8, 9, 10, 11, 12, 13, 14, 15, 16, 18, 19] rfl rfl (by decide +kernel) (by decide +kernel) hk1 hFc hP1 hD1
          clear hP hD hPc hDc hFc ht hvm hz1 hk1 hP1 hD1
          obtain ⟨hP, hD⟩ := hJ9
          refine g5_rs [(a_k, (oc5 a_h a_j a_pt m_ln m_se m_lh m_br m_we m_me m_ce m_wy m_ho m_ov)), (a_g, (oc6 6 5 a_gn e_g)), (a_gn, (arI G 30 f_g)), (a_p, (oc6 8 5 a_pn e_p)), (a_pn, (arI G 40 f_p)), (a_bb, (arJ G 24 f_bb)), (a_j, (oc2 a_as a_sk)), (a_as, (arI G 8 m_as)), (a_sk, (arJ G 50 m_sk)), (a_l, (arW G 6 f_l)), (a_lo, (oc3 e_cl a_hd a_sr a_cd)), (a_sr, (arI G n_sr f_sr)), (a_cd, (arI G n_cd f_cd)), (a_hd, (arI G n_hd f_hd)), (a_pt, (arI G 200 m_pt)), (a_go, (arJ G 24 (vp_updL k_go k_h.toNatClampNeg m_x))), (a_mt, (arI G 1536 m_mt)), (a_b, (oc6 5 24 a_bn e_b)), (a_bn, (arI G 120 f_b)), (a_h, (oc1 e_wa e_le e_st e_fo e_lc a_l a_g a_b a_s a_p a_w e_gb a_bb)), (a_wk, (oc9 a_h a_k a_go a_mt))] hP hD ?_
          clear hP hD
          intro hP hD
          refine g5_tl (v := z17) y18 ?_
          refine lv_lstore (lv' := [(5, .long z17), (7, .int m_t), (9, .long m_x), (11, .int m_i), (8, .int k_h), (0, .ref a_wk), (1, .int p_b), (2, .int p_c), (3, .int p_f), (4, .int p_e)]) hx hb dX9_firstSight_180 hl (by decide +kernel) rfl ?_
          clear hl
          intro ls hl
          refine W.eq (g2 := F0 m 182 ls []) rfl ?_
          refine lv_iinc (v := (k_h + 1)) (lv' := [(8, .int (k_h + 1)), (5, .long z17), (7, .int m_t), (9, .long m_x), (11, .int m_i), (0, .ref a_wk), (1, .int p_b), (2, .int p_c), (3, .int p_f), (4, .int p_e)]) hx hb dX9_firstSight_182 hl (k := 4) rfl rfl (by decide +kernel) rfl ?_
          clear hl
          intro ls hl
          have t_19 : (k_h + 1).toInt = k_h.toInt + 1 := g5_iadd (a := k_h.toInt) (b := 1) rfl (by decide +kernel) (by omega) (by omega)
          refine lv_goto (tgt := 16) hx hb dX9_firstSight_185 (by decide +kernel) ?_
          exact ih_16_8 (z17, m_t, (k_h + 1), m_se, m_lh, m_br, m_we, m_me, m_ce, m_wy, m_ho, m_ov, m_pt, m_as, m_sk, m_ln, (vp_updL k_go k_h.toNatClampNeg m_x), m_mt) ls H locs (show Int.toNat (24 - (k_h + 1).toInt) < Int.toNat (24 - k_h.toInt) from g_up (show k_h.toInt < (k_h + 1).toInt by omega) (show k_h.toInt < 24 by omega)) ⟨lv_sub hl [1, 2, 0, 5, 6, 7, 8, 9] rfl, hP.sub [0, 1, 2, 3, 4, 5, 6, 7, 8, 9, 10, 11, 12, 13, 14, 15, 16, 19, 17, 18, 20] rfl, hD.sub [0, 1, 2, 3, 4, 5, 6, 7, 8, 9, 10, 11, 12, 13, 14, 15, 16, 19, 17, 18, 20] (by decide +kernel) rfl, hS, i_11, ⟨by omega, by omega⟩, i_13, by omega⟩
        ·
          have n_16 : gNe ((lg_cmp m_x 0).toInt) (0) := g5_eqN (a := (lg_cmp m_x 0).toInt) (b := 0) rfl (by decide +kernel) c_16
          refine lv_iload hx hb dX9_firstSight_171 (lv_at hl 4 rfl) ?_
          exact W.iret (v := k_h) hx hb hr (fun t ht hW => ⟨⟨k_h, [(a_k, (oc5 a_h a_j a_pt m_ln m_se m_lh m_br m_we m_me m_ce m_wy m_ho m_ov)), (a_h, (oc1 e_wa e_le e_st e_fo e_lc a_l a_g a_b a_s a_p a_w e_gb a_bb)), (a_g, (oc6 6 5 a_gn e_g)), (a_gn, (arI G 30 f_g)), (a_b, (oc6 5 24 a_bn e_b)), (a_bn, (arI G 120 f_b)), (a_p, (oc6 8 5 a_pn e_p)), (a_pn, (arI G 40 f_p)), (a_bb, (arJ G 24 f_bb)), (a_j, (oc2 a_as a_sk)), (a_as, (arI G 8 m_as)), (a_sk, (arJ G 50 m_sk)), (a_l, (arW G 6 f_l)), (a_lo, (oc3 e_cl a_hd a_sr a_cd)), (a_sr, (arI G n_sr f_sr)), (a_cd, (arI G n_cd f_cd)), (a_hd, (arI G n_hd f_hd)), (a_pt, (arI G 200 m_pt)), (a_wk, (oc9 a_h a_k a_go a_mt)), (a_go, (arJ G 24 (vp_updL k_go k_h.toNatClampNeg m_x))), (a_mt, (arI G 1536 m_mt))], rfl, ⟨k_h, m_ln, m_se, m_lh, m_br, m_we, m_me, m_ce, m_wy, m_ho, m_ov, m_pt, m_as, m_sk, (vp_updL k_go k_h.toNatClampNeg m_x), m_mt, i_13, ⟨by omega, by omega⟩, Or.inr ⟨by omega, by omega⟩, rfl, rfl⟩, by rw [ht]; exact hP.sub [0, 17, 1, 2, 18, 19, 3, 4, 5, 6, 7, 8, 9, 10, 11, 12, 13, 14, 20, 15, 16] rfl, hD.sub [0, 17, 1, 2, 18, 19, 3, 4, 5, 6, 7, 8, 9, 10, 11, 12, 13, 14, 20, 15, 16] (by decide +kernel) rfl⟩, hS.F ht⟩) hS.2.2 dX9_firstSight_173
      ·
        have i_15 : m_i.toInt < 64 := g5_geN (a := m_i.toInt) (b := 64) rfl (by decide +kernel) c_15
        refine lv_iload hx hb dX9_firstSight_65 (lv_at hl 0 rfl) ?_
        refine lv_if_eq (tgt := 99) hx hb dX9_firstSight_67 (by decide +kernel) (fun c_20 => ?_) (fun c_20 => ?_)
        ·
          have i_20 : m_t.toInt = 0 := g5_eq (a := m_t.toInt) (b := 0) rfl (by decide +kernel) c_20
          refine lv_iconst (v := 0) hx hb dX9_firstSight_99 (by decide +kernel) ?_
          refine lv_istore (lv' := [(12, .int 0), (7, .int m_t), (9, .long m_x), (11, .int m_i), (5, .long k_x), (8, .int k_h), (0, .ref a_wk), (1, .int p_b), (2, .int p_c), (3, .int p_f), (4, .int p_e)]) hx hb dX9_firstSight_100 hl (by decide +kernel) rfl ?_
          clear hl
          intro ls hl
          refine lv_lload hx hb dX9_firstSight_102 (lv_at hl 2 rfl) ?_
          refine lv_iload hx hb dX9_firstSight_104 (lv_at hl 0 rfl) ?_
          refine W.eq (g2 := F0 m 106 ls [.int 0, .long m_x]) rfl ?_
          refine lv_if_eq (tgt := 116) hx hb dX9_firstSight_106 (by decide +kernel) (fun c_21 => ?_) (fun c_21 => ?_)
          ·
            refine lv_lconst (v := 0) hx hb dX9_firstSight_116 (by decide +kernel) ?_
            refine lv_lor hx hb dX9_firstSight_117 ?_
            refine g5_tl (v := m_x) (by simp) ?_
            refine lv_lstore (lv' := [(9, .long m_x), (12, .int 0), (7, .int m_t), (11, .int m_i), (5, .long k_x), (8, .int k_h), (0, .ref a_wk), (1, .int p_b), (2, .int p_c), (3, .int p_f), (4, .int p_e)]) hx hb dX9_firstSight_118 hl (by decide +kernel) rfl ?_
            clear hl
            intro ls hl
            refine lv_aload_n hx hb dX9_firstSight_120 rfl (lv_at hl 6 rfl) ?_
            refine W.eq (g2 := F0 m 121 ls [.ref a_wk]) rfl ?_
            refine va_get (D := G.1) (ci := 9) (v := .ref a_mt) (C := RX9) (T := TX9) (N := 4) hx hb hts inG_X9 hown hK hP 20 rfl rfl 3 (by decide +kernel) (hts _ fl_X9_15) (fun _ h9 => h9) rfl dX9_firstSight_121 ?_
            refine lv_iload hx hb dX9_firstSight_124 (lv_at hl 5 rfl) ?_
            refine lv_bipush (v := 64) hx hb dX9_firstSight_126 (by decide +kernel) ?_
            refine lv_imul hx hb dX9_firstSight_128 ?_
            have t_22 : (k_h * 64).toInt = k_h.toInt * 64 := g5_imul (a := k_h.toInt) (b := 64) (by rfl) (by decide +kernel) (by omega) (by omega)
            refine lv_iload hx hb dX9_firstSight_129 (lv_at hl 3 rfl) ?_
            refine W.eq (g2 := F0 m 131 ls [.int m_i, .int (k_h * 64), .ref a_mt]) rfl ?_
            refine lv_iadd hx hb dX9_firstSight_131 ?_
            have t_23 : ((k_h * 64) + m_i).toInt = (k_h * 64).toInt + m_i.toInt := g5_iadd (a := (k_h * 64).toInt) (b := m_i.toInt) (by rfl) (by rfl) (by omega) (by omega)
            refine lv_iload hx hb dX9_firstSight_132 (lv_at hl 2 rfl) ?_
            refine lv_if_eq (tgt := 147) hx hb dX9_firstSight_134 (by decide +kernel) (fun c_24 => ?_) (fun c_24 => ?_)
            ·
              have i_24 : m_t.toInt = 0 := g5_eq (a := m_t.toInt) (b := 0) rfl (by decide +kernel) c_24
              refine lv_iconst (v := 0) hx hb dX9_firstSight_147 (by decide +kernel) ?_
              refine va_iast hx hb hK hP hD hS 16 0 rfl rfl (i := ((k_h * 64) + m_i)) (x := 0) (vp_in_iff.mpr ⟨by omega, by omega⟩) dX9_firstSight_148 ?_
              clear hP hD hS
              intro H locs hP hD hS
              refine g5_rs [(a_k, (oc5 a_h a_j a_pt m_ln m_se m_lh m_br m_we m_me m_ce m_wy m_ho m_ov)), (a_g, (oc6 6 5 a_gn e_g)), (a_gn, (arI G 30 f_g)), (a_p, (oc6 8 5 a_pn e_p)), (a_pn, (arI G 40 f_p)), (a_bb, (arJ G 24 f_bb)), (a_j, (oc2 a_as a_sk)), (a_as, (arI G 8 m_as)), (a_sk, (arJ G 50 m_sk)), (a_l, (arW G 6 f_l)), (a_lo, (oc3 e_cl a_hd a_sr a_cd)), (a_sr, (arI G n_sr f_sr)), (a_cd, (arI G n_cd f_cd)), (a_hd, (arI G n_hd f_hd)), (a_pt, (arI G 200 m_pt)), (a_go, (arJ G 24 k_go)), (a_mt, (arI G 1536 (upd m_mt ((k_h * 64) + m_i).toNatClampNeg 0))), (a_h, (oc1 e_wa e_le e_st e_fo e_lc a_l a_g a_b a_s a_p a_w e_gb a_bb)), (a_b, (oc6 5 24 a_bn e_b)), (a_bn, (arI G 120 f_b)), (a_wk, (oc9 a_h a_k a_go a_mt))] hP hD ?_
              clear hP hD
              intro hP hD
              refine lv_iinc (v := (m_i + 1)) (lv' := [(11, .int (m_i + 1)), (9, .long m_x), (12, .int 0), (7, .int m_t), (5, .long k_x), (8, .int k_h), (0, .ref a_wk), (1, .int p_b), (2, .int p_c), (3, .int p_f), (4, .int p_e)]) hx hb dX9_firstSight_149 hl (k := 3) rfl rfl (by decide +kernel) rfl ?_
              clear hl
              intro ls hl
              have t_25 : (m_i + 1).toInt = m_i.toInt + 1 := g5_iadd (a := m_i.toInt) (b := 1) rfl (by decide +kernel) (by omega) (by omega)
              refine lv_goto (tgt := 58) hx hb dX9_firstSight_152 (by decide +kernel) ?_
              exact ih_58_14 (m_x, m_t, (m_i + 1), m_se, m_lh, m_br, m_we, m_me, m_ce, m_wy, m_ho, m_ov, m_pt, m_as, m_sk, m_ln, (upd m_mt ((k_h * 64) + m_i).toNatClampNeg 0)) ls H locs (show Int.toNat (64 - (m_i + 1).toInt) < Int.toNat (64 - m_i.toInt) from g_up (show m_i.toInt < (m_i + 1).toInt by omega) (show m_i.toInt < 64 by omega)) ⟨lv_sub hl [3, 1, 0, 4, 5, 6, 7, 8, 9, 10] rfl, hP, hD, hS, i_11, ⟨by omega, by omega⟩, i_13⟩
            ·
              have i_24 : m_t.toInt ≠ 0 := g5_eqN (a := m_t.toInt) (b := 0) rfl (by decide +kernel) c_24
              omega
          ·
            exact absurd c_21 (by decide +kernel)
        ·
          have n_20 : gNe (m_t.toInt) (0) := g5_eqN (a := m_t.toInt) (b := 0) rfl (by decide +kernel) c_20
          have i_20 : m_t.toInt ≥ 1 := by have z := g5_eqN (a := m_t.toInt) (b := 0) (by rfl) (by decide +kernel) c_20; omega
          refine lv_lload hx hb dX9_firstSight_70 (lv_at hl 3 rfl) ?_
          refine lv_iload hx hb dX9_firstSight_72 (lv_at hl 2 rfl) ?_
          obtain ⟨hPc, hDc, hFc⟩ := g5_sub3 (wc := []) hP hD hS hA [] (by decide +kernel) rfl
          refine va_calli (va_runSN (As := [.long k_x, .int m_i]) (rest := []) ⟨hx, hb, hml, hown, hts⟩ (k_isOn l G H.size m_i k_x ⟨by omega, by omega⟩) ⟨va_cnB 2 hts gW_X11_isOn rfl rfl rfl (hN.1 _ g5_nw_X9_43) (hts _ ini_X11) hs_X11_isOn ⟨Nat.le_of_ble_eq_true rfl, Nat.le_of_ble_eq_true rfl⟩, hts _ st_X11_isOn, trivial⟩ (g5_preS hPc hK hDc hN hT hS hFc) rfl rfl hl.1 rfl (lv_room (Nat.le_of_ble_eq_true rfl)) dX9_firstSight_74 ⟨Nat.le_of_ble_eq_true rfl, Nat.le_of_ble_eq_true rfl⟩) hS (fun q _ h => hFc q h) hFc (fun r u t H locs ht hvm hw hB hz1 hk1 hS => ?_)
          obtain ⟨hP1, hD1⟩ := hB
          have hP1 := g5_ht ht hP1
          rcases hw with ⟨(i_26 : onB k_x m_i.toInt = false), rfl, rfl⟩ | ⟨(i_27 : onB k_x m_i.toInt = true), rfl, rfl⟩
          ·
            have hJ9 := g5_same hP hk1
            clear hP hPc hDc hFc ht hvm hz1 hk1 hP1 hD1
            have hP := hJ9
            clear hJ9
            refine lv_if_eq (tgt := 99) hx hb dX9_firstSight_77 (by decide +kernel) (fun c_28 => ?_) (fun c_28 => ?_)
            ·
              refine lv_iconst (v := 0) hx hb dX9_firstSight_99 (by decide +kernel) ?_
              refine lv_istore (lv' := [(12, .int 0), (7, .int m_t), (9, .long m_x), (11, .int m_i), (5, .long k_x), (8, .int k_h), (0, .ref a_wk), (1, .int p_b), (2, .int p_c), (3, .int p_f), (4, .int p_e)]) hx hb dX9_firstSight_100 hl (by decide +kernel) rfl ?_
              clear hl
              intro ls hl
              refine lv_lload hx hb dX9_firstSight_102 (lv_at hl 2 rfl) ?_
              refine lv_iload hx hb dX9_firstSight_104 (lv_at hl 0 rfl) ?_
              refine W.eq (g2 := F0 m 106 ls [.int 0, .long m_x]) rfl ?_
              refine lv_if_eq (tgt := 116) hx hb dX9_firstSight_106 (by decide +kernel) (fun c_29 => ?_) (fun c_29 => ?_)
              ·
                refine lv_lconst (v := 0) hx hb dX9_firstSight_116 (by decide +kernel) ?_
                refine lv_lor hx hb dX9_firstSight_117 ?_
                refine g5_tl (v := m_x) (by simp) ?_
                refine lv_lstore (lv' := [(9, .long m_x), (12, .int 0), (7, .int m_t), (11, .int m_i), (5, .long k_x), (8, .int k_h), (0, .ref a_wk), (1, .int p_b), (2, .int p_c), (3, .int p_f), (4, .int p_e)]) hx hb dX9_firstSight_118 hl (by decide +kernel) rfl ?_
                clear hl
                intro ls hl
                refine lv_aload_n hx hb dX9_firstSight_120 rfl (lv_at hl 6 rfl) ?_
                refine W.eq (g2 := F0 m 121 ls [.ref a_wk]) rfl ?_
                refine va_get (D := G.1) (ci := 9) (v := .ref a_mt) (C := RX9) (T := TX9) (N := 4) hx hb hts inG_X9 hown hK hP 20 rfl rfl 3 (by decide +kernel) (hts _ fl_X9_15) (fun _ h9 => h9) rfl dX9_firstSight_121 ?_
                refine lv_iload hx hb dX9_firstSight_124 (lv_at hl 5 rfl) ?_
                refine lv_bipush (v := 64) hx hb dX9_firstSight_126 (by decide +kernel) ?_
                refine lv_imul hx hb dX9_firstSight_128 ?_
                have t_30 : (k_h * 64).toInt = k_h.toInt * 64 := g5_imul (a := k_h.toInt) (b := 64) (by rfl) (by decide +kernel) (by omega) (by omega)
                refine lv_iload hx hb dX9_firstSight_129 (lv_at hl 3 rfl) ?_
                refine W.eq (g2 := F0 m 131 ls [.int m_i, .int (k_h * 64), .ref a_mt]) rfl ?_
                refine lv_iadd hx hb dX9_firstSight_131 ?_
                have t_31 : ((k_h * 64) + m_i).toInt = (k_h * 64).toInt + m_i.toInt := g5_iadd (a := (k_h * 64).toInt) (b := m_i.toInt) (by rfl) (by rfl) (by omega) (by omega)
                refine lv_iload hx hb dX9_firstSight_132 (lv_at hl 2 rfl) ?_
                refine lv_if_eq (tgt := 147) hx hb dX9_firstSight_134 (by decide +kernel) (fun c_32 => ?_) (fun c_32 => ?_)
                ·
                  have i_32 : m_t.toInt = 0 := g5_eq (a := m_t.toInt) (b := 0) rfl (by decide +kernel) c_32
                  omega
                ·
                  have n_32 : gNe (m_t.toInt) (0) := g5_eqN (a := m_t.toInt) (b := 0) rfl (by decide +kernel) c_32
                  refine lv_aload_n hx hb dX9_firstSight_137 rfl (lv_at hl 6 rfl) ?_
                  refine va_get (D := G.1) (ci := 9) (v := .ref a_k) (C := RX9) (T := TX9) (N := 4) hx hb hts inG_X9 hown hK hP 20 rfl rfl 1 (by decide +kernel) (hts _ fl_X9_23) (fun _ h9 => h9) rfl dX9_firstSight_138 ?_
                  refine va_get (D := G.1) (ci := 5) (v := .int m_me) (C := RX5) (T := TX5) (N := 13) hx hb hts inG_X5 hown hK hP 0 rfl rfl 8 (by decide +kernel) (hts _ fl_X9_53) (fun _ h9 => h9) rfl dX9_firstSight_141 ?_
                  refine lv_goto (tgt := 148) hx hb dX9_firstSight_144 (by decide +kernel) ?_
                  refine W.eq (g2 := F0 m 148 ls [.int m_me, .int ((k_h * 64) + m_i), .ref a_mt]) rfl ?_
                  refine va_iast hx hb hK hP hD hS 16 0 rfl rfl (i := ((k_h * 64) + m_i)) (x := m_me) (vp_in_iff.mpr ⟨by omega, by omega⟩) dX9_firstSight_148 ?_
                  clear hP hD hS
                  intro H locs hP hD hS
                  refine g5_rs [(a_k, (oc5 a_h a_j a_pt m_ln m_se m_lh m_br m_we m_me m_ce m_wy m_ho m_ov)), (a_g, (oc6 6 5 a_gn e_g)), (a_gn, (arI G 30 f_g)), (a_p, (oc6 8 5 a_pn e_p)), (a_pn, (arI G 40 f_p)), (a_bb, (arJ G 24 f_bb)), (a_j, (oc2 a_as a_sk)), (a_as, (arI G 8 m_as)), (a_sk, (arJ G 50 m_sk)), (a_l, (arW G 6 f_l)), (a_lo, (oc3 e_cl a_hd a_sr a_cd)), (a_sr, (arI G n_sr f_sr)), (a_cd, (arI G n_cd f_cd)), (a_hd, (arI G n_hd f_hd)), (a_pt, (arI G 200 m_pt)), (a_go, (arJ G 24 k_go)), (a_mt, (arI G 1536 (upd m_mt ((k_h * 64) + m_i).toNatClampNeg m_me))), (a_h, (oc1 e_wa e_le e_st e_fo e_lc a_l a_g a_b a_s a_p a_w e_gb a_bb)), (a_b, (oc6 5 24 a_bn e_b)), (a_bn, (arI G 120 f_b)), (a_wk, (oc9 a_h a_k a_go a_mt))] hP hD ?_
                  clear hP hD
                  intro hP hD
                  refine lv_iinc (v := (m_i + 1)) (lv' := [(11, .int (m_i + 1)), (9, .long m_x), (12, .int 0), (7, .int m_t), (5, .long k_x), (8, .int k_h), (0, .ref a_wk), (1, .int p_b), (2, .int p_c), (3, .int p_f), (4, .int p_e)]) hx hb dX9_firstSight_149 hl (k := 3) rfl rfl (by decide +kernel) rfl ?_
                  clear hl
                  intro ls hl
                  have t_33 : (m_i + 1).toInt = m_i.toInt + 1 := g5_iadd (a := m_i.toInt) (b := 1) rfl (by decide +kernel) (by omega) (by omega)
                  refine lv_goto (tgt := 58) hx hb dX9_firstSight_152 (by decide +kernel) ?_
                  exact ih_58_14 (m_x, m_t, (m_i + 1), m_se, m_lh, m_br, m_we, m_me, m_ce, m_wy, m_ho, m_ov, m_pt, m_as, m_sk, m_ln, (upd m_mt ((k_h * 64) + m_i).toNatClampNeg m_me)) ls H locs (show Int.toNat (64 - (m_i + 1).toInt) < Int.toNat (64 - m_i.toInt) from g_up (show m_i.toInt < (m_i + 1).toInt by omega) (show m_i.toInt < 64 by omega)) ⟨lv_sub hl [3, 1, 0, 4, 5, 6, 7, 8, 9, 10] rfl, hP, hD, hS, i_11, ⟨by omega, by omega⟩, i_13⟩
              ·
                exact absurd c_29 (by decide +kernel)
            ·
              exact absurd c_28 (by decide +kernel)
          ·
            have hJ9 := g5_same hP hk1
            clear hP hPc hDc hFc ht hvm hz1 hk1 hP1 hD1
            have hP := hJ9
            clear hJ9
            refine lv_if_eq (tgt := 99) hx hb dX9_firstSight_77 (by decide +kernel) (fun c_34 => ?_) (fun c_34 => ?_)
            ·
              exact absurd c_34 (by decide +kernel)
            ·
              refine lv_aload_n hx hb dX9_firstSight_80 rfl (lv_at hl 5 rfl) ?_
              refine va_get (D := G.1) (ci := 9) (v := .ref a_k) (C := RX9) (T := TX9) (N := 4) hx hb hts inG_X9 hown hK hP 20 rfl rfl 1 (by decide +kernel) (hts _ fl_X9_23) (fun _ h9 => h9) rfl dX9_firstSight_81 ?_
              refine lv_iload_n hx hb dX9_firstSight_84 rfl (lv_at hl 6 rfl) ?_
              refine lv_iload hx hb dX9_firstSight_85 (lv_at hl 2 rfl) ?_
              refine W.eq (g2 := F0 m 87 ls [.int m_i, .int p_b, .ref a_k]) rfl ?_
              refine lv_iload hx hb dX9_firstSight_87 (lv_at hl 4 rfl) ?_
              obtain ⟨hPc, hDc, hFc⟩ := g5_sub3 (wc := [(a_k, (oc5 a_h a_j a_pt m_ln m_se m_lh m_br m_we m_me m_ce m_wy m_ho m_ov)), (a_h, (oc1 e_wa e_le e_st e_fo e_lc a_l a_g a_b a_s a_p a_w e_gb a_bb)), (a_g, (oc6 6 5 a_gn e_g)), (a_gn, (arI G 30 f_g)), (a_b, (oc6 5 24 a_bn e_b)), (a_bn, (arI G 120 f_b)), (a_p, (oc6 8 5 a_pn e_p)), (a_pn, (arI G 40 f_p)), (a_bb, (arJ G 24 f_bb)), (a_j, (oc2 a_as a_sk)), (a_as, (arI G 8 m_as)), (a_sk, (arJ G 50 m_sk)), (a_l, (arW G 6 f_l)), (a_lo, (oc3 e_cl a_hd a_sr a_cd)), (a_sr, (arI G n_sr f_sr)), (a_cd, (arI G n_cd f_cd)), (a_hd, (arI G n_hd f_hd)), (a_pt, (arI G 200 m_pt))]) hP hD hS hA [0, 17, 1, 2, 18, 19, 3, 4, 5, 6, 7, 8, 9, 10, 11, 12, 13, 14] (by decide +kernel) rfl
              refine va_calli (va_runV (As := [.int p_b, .int m_i, .int k_h]) (rest := []) ⟨hx, hb, hml, hown, hts⟩ (s_findsBodyL l G a_k a_h a_g a_gn a_b a_bn a_p a_pn a_bb a_j a_as a_sk a_l a_lo a_sr a_cd a_hd a_pt a_s a_w H.size e_le e_st e_fo e_lc e_g e_b e_p e_cl m_ln m_se m_lh m_br m_we m_me m_ce m_wy m_ho m_ov m_i k_h p_b e_wa e_gb f_g f_b f_p f_bb m_as m_sk f_l f_sr f_cd f_hd m_pt n_sr n_cd n_hd h_e_g h_e_b h_e_p h_e_cl i_13 (e_gk) (e_pk) (e_gi) (e_f) (e_a) (e_hn) (e_hs) (e_hk) (e_c)) (cwV 3 hts gV_X9_47 rfl rfl rfl hv_X5_findsBody ⟨Nat.le_of_ble_eq_true rfl, Nat.le_of_ble_eq_true rfl⟩) (g5_preV hPc hK hDc hN hT hS hFc (ci := 5) (q0 := 0) rfl rfl) rfl rfl hl.1 rfl (lv_room (Nat.le_of_ble_eq_true rfl)) dX9_firstSight_89 ⟨Nat.le_of_ble_eq_true rfl, Nat.le_of_ble_eq_true rfl⟩) hS (fun q _ h => hFc q h) hFc (fun r u t H locs ht hvm hw hB hz1 hk1 hS => ?_)
              obtain ⟨hP1, hD1⟩ := hB
              have hP1 := g5_ht ht hP1
              obtain ⟨z37, z38, z39, z40, z41, z42, z43, z44, z45, z46, z47, z48, z49, z50, (i_35 : 0 ≤ z37.toInt ∧ z37.toInt ≤ 1), (i_36 : 0 ≤ z47.toInt ∧ z47.toInt ≤ 1), y51, rfl⟩ := hw
              have hJ9 := va_join (wr := [(a_go, (arJ G 24 k_go)), (a_mt, (arI G 1536 m_mt)), (a_wk, (oc9 a_h a_k a_go a_mt))]) hP hD [0, 17, 1, 2, 18, 19, 3, 4, 5, 6, 7, 8, 9, 10, 11, 12, 13, 14] [15, 16, 20] rfl rfl (by decide +kernel) (by decide +kernel) hk1 hFc hP1 hD1
              clear hP hD hPc hDc hFc ht hvm hz1 hk1 hP1 hD1
              obtain ⟨hP, hD⟩ := hJ9
              refine g5_rs [(a_go, (arJ G 24 k_go)), (a_mt, (arI G 1536 m_mt)), (a_wk, (oc9 a_h a_k a_go a_mt)), (a_k, (oc5 a_h a_j a_pt z38 z39 z40 z41 z42 z43 z44 z45 z46 z47)), (a_h, (oc1 e_wa e_le e_st e_fo e_lc a_l a_g a_b a_s a_p a_w e_gb a_bb)), (a_g, (oc6 6 5 a_gn e_g)), (a_gn, (arI G 30 f_g)), (a_b, (oc6 5 24 a_bn e_b)), (a_bn, (arI G 120 f_b)), (a_p, (oc6 8 5 a_pn e_p)), (a_pn, (arI G 40 f_p)), (a_bb, (arJ G 24 f_bb)), (a_j, (oc2 a_as a_sk)), (a_as, (arI G 8 z49)), (a_sk, (arJ G 50 z50)), (a_l, (arW G 6 f_l)), (a_lo, (oc3 e_cl a_hd a_sr a_cd)), (a_sr, (arI G n_sr f_sr)), (a_cd, (arI G n_cd f_cd)), (a_hd, (arI G n_hd f_hd)), (a_pt, (arI G 200 z48))] hP hD ?_
              clear hP hD
              intro hP hD
              refine g5_ti (v := z37) y51 ?_
              refine lv_if_eq (tgt := 99) hx hb dX9_firstSight_92 (by decide +kernel) (fun c_52 => ?_) (fun c_52 => ?_)
              ·
                have i_52 : z37.toInt = 0 := g5_eq (a := z37.toInt) (b := 0) rfl (by decide +kernel) c_52
                refine lv_iconst (v := 0) hx hb dX9_firstSight_99 (by decide +kernel) ?_
                refine lv_istore (lv' := [(12, .int 0), (7, .int m_t), (9, .long m_x), (11, .int m_i), (5, .long k_x), (8, .int k_h), (0, .ref a_wk), (1, .int p_b), (2, .int p_c), (3, .int p_f), (4, .int p_e)]) hx hb dX9_firstSight_100 hl (by decide +kernel) rfl ?_
                clear hl
                intro ls hl
                refine lv_lload hx hb dX9_firstSight_102 (lv_at hl 2 rfl) ?_
                refine lv_iload hx hb dX9_firstSight_104 (lv_at hl 0 rfl) ?_
                refine W.eq (g2 := F0 m 106 ls [.int 0, .long m_x]) rfl ?_
                refine lv_if_eq (tgt := 116) hx hb dX9_firstSight_106 (by decide +kernel) (fun c_53 => ?_) (fun c_53 => ?_)
                ·
                  refine lv_lconst (v := 0) hx hb dX9_firstSight_116 (by decide +kernel) ?_
                  refine lv_lor hx hb dX9_firstSight_117 ?_
                  refine g5_tl (v := m_x) (by simp) ?_
                  refine lv_lstore (lv' := [(9, .long m_x), (12, .int 0), (7, .int m_t), (11, .int m_i), (5, .long k_x), (8, .int k_h), (0, .ref a_wk), (1, .int p_b), (2, .int p_c), (3, .int p_f), (4, .int p_e)]) hx hb dX9_firstSight_118 hl (by decide +kernel) rfl ?_
                  clear hl
                  intro ls hl
                  refine lv_aload_n hx hb dX9_firstSight_120 rfl (lv_at hl 6 rfl) ?_
                  refine W.eq (g2 := F0 m 121 ls [.ref a_wk]) rfl ?_
                  refine va_get (D := G.1) (ci := 9) (v := .ref a_mt) (C := RX9) (T := TX9) (N := 4) hx hb hts inG_X9 hown hK hP 2 rfl rfl 3 (by decide +kernel) (hts _ fl_X9_15) (fun _ h9 => h9) rfl dX9_firstSight_121 ?_
                  refine lv_iload hx hb dX9_firstSight_124 (lv_at hl 5 rfl) ?_
                  refine lv_bipush (v := 64) hx hb dX9_firstSight_126 (by decide +kernel) ?_
                  refine lv_imul hx hb dX9_firstSight_128 ?_
                  have t_54 : (k_h * 64).toInt = k_h.toInt * 64 := g5_imul (a := k_h.toInt) (b := 64) (by rfl) (by decide +kernel) (by omega) (by omega)
                  refine lv_iload hx hb dX9_firstSight_129 (lv_at hl 3 rfl) ?_
                  refine W.eq (g2 := F0 m 131 ls [.int m_i, .int (k_h * 64), .ref a_mt]) rfl ?_
                  refine lv_iadd hx hb dX9_firstSight_131 ?_
                  have t_55 : ((k_h * 64) + m_i).toInt = (k_h * 64).toInt + m_i.toInt := g5_iadd (a := (k_h * 64).toInt) (b := m_i.toInt) (by rfl) (by rfl) (by omega) (by omega)
                  refine lv_iload hx hb dX9_firstSight_132 (lv_at hl 2 rfl) ?_
                  refine lv_if_eq (tgt := 147) hx hb dX9_firstSight_134 (by decide +kernel) (fun c_56 => ?_) (fun c_56 => ?_)
                  ·
                    have i_56 : m_t.toInt = 0 := g5_eq (a := m_t.toInt) (b := 0) rfl (by decide +kernel) c_56
                    omega
                  ·
                    have n_56 : gNe (m_t.toInt) (0) := g5_eqN (a := m_t.toInt) (b := 0) rfl (by decide +kernel) c_56
                    refine lv_aload_n hx hb dX9_firstSight_137 rfl (lv_at hl 6 rfl) ?_
                    refine va_get (D := G.1) (ci := 9) (v := .ref a_k) (C := RX9) (T := TX9) (N := 4) hx hb hts inG_X9 hown hK hP 2 rfl rfl 1 (by decide +kernel) (hts _ fl_X9_23) (fun _ h9 => h9) rfl dX9_firstSight_138 ?_
                    refine va_get (D := G.1) (ci := 5) (v := .int z43) (C := RX5) (T := TX5) (N := 13) hx hb hts inG_X5 hown hK hP 3 rfl rfl 8 (by decide +kernel) (hts _ fl_X9_53) (fun _ h9 => h9) rfl dX9_firstSight_141 ?_
                    refine lv_goto (tgt := 148) hx hb dX9_firstSight_144 (by decide +kernel) ?_
                    refine W.eq (g2 := F0 m 148 ls [.int z43, .int ((k_h * 64) + m_i), .ref a_mt]) rfl ?_
                    refine va_iast hx hb hK hP hD hS 1 0 rfl rfl (i := ((k_h * 64) + m_i)) (x := z43) (vp_in_iff.mpr ⟨by omega, by omega⟩) dX9_firstSight_148 ?_
                    clear hP hD hS
                    intro H locs hP hD hS
                    refine g5_rs [(a_go, (arJ G 24 k_go)), (a_mt, (arI G 1536 (upd m_mt ((k_h * 64) + m_i).toNatClampNeg z43))), (a_wk, (oc9 a_h a_k a_go a_mt)), (a_k, (oc5 a_h a_j a_pt z38 z39 z40 z41 z42 z43 z44 z45 z46 z47)), (a_h, (oc1 e_wa e_le e_st e_fo e_lc a_l a_g a_b a_s a_p a_w e_gb a_bb)), (a_g, (oc6 6 5 a_gn e_g)), (a_gn, (arI G 30 f_g)), (a_b, (oc6 5 24 a_bn e_b)), (a_bn, (arI G 120 f_b)), (a_p, (oc6 8 5 a_pn e_p)), (a_pn, (arI G 40 f_p)), (a_bb, (arJ G 24 f_bb)), (a_j, (oc2 a_as a_sk)), (a_as, (arI G 8 z49)), (a_sk, (arJ G 50 z50)), (a_l, (arW G 6 f_l)), (a_lo, (oc3 e_cl a_hd a_sr a_cd)), (a_sr, (arI G n_sr f_sr)), (a_cd, (arI G n_cd f_cd)), (a_hd, (arI G n_hd f_hd)), (a_pt, (arI G 200 z48))] hP hD ?_
                    clear hP hD
                    intro hP hD
                    refine lv_iinc (v := (m_i + 1)) (lv' := [(11, .int (m_i + 1)), (9, .long m_x), (12, .int 0), (7, .int m_t), (5, .long k_x), (8, .int k_h), (0, .ref a_wk), (1, .int p_b), (2, .int p_c), (3, .int p_f), (4, .int p_e)]) hx hb dX9_firstSight_149 hl (k := 3) rfl rfl (by decide +kernel) rfl ?_
                    clear hl
                    intro ls hl
                    have t_57 : (m_i + 1).toInt = m_i.toInt + 1 := g5_iadd (a := m_i.toInt) (b := 1) rfl (by decide +kernel) (by omega) (by omega)
                    refine lv_goto (tgt := 58) hx hb dX9_firstSight_152 (by decide +kernel) ?_
                    exact ih_58_14 (m_x, m_t, (m_i + 1), z39, z40, z41, z42, z43, z44, z45, z46, z47, z48, z49, z50, z38, (upd m_mt ((k_h * 64) + m_i).toNatClampNeg z43)) ls H locs (show Int.toNat (64 - (m_i + 1).toInt) < Int.toNat (64 - m_i.toInt) from g_up (show m_i.toInt < (m_i + 1).toInt by omega) (show m_i.toInt < 64 by omega)) ⟨lv_sub hl [3, 1, 0, 4, 5, 6, 7, 8, 9, 10] rfl, hP.sub [3, 5, 6, 9, 10, 11, 12, 13, 14, 15, 16, 17, 18, 19, 20, 0, 1, 4, 7, 8, 2] rfl, hD.sub [3, 5, 6, 9, 10, 11, 12, 13, 14, 15, 16, 17, 18, 19, 20, 0, 1, 4, 7, 8, 2] (by decide +kernel) rfl, hS, i_11, ⟨by omega, by omega⟩, i_36⟩
                ·
                  exact absurd c_53 (by decide +kernel)
              ·
                have n_52 : gNe (z37.toInt) (0) := g5_eqN (a := z37.toInt) (b := 0) rfl (by decide +kernel) c_52
                have i_52 : z37.toInt ≥ 1 := by have z := g5_eqN (a := z37.toInt) (b := 0) (by rfl) (by decide +kernel) c_52; omega
                refine lv_iconst (v := 1) hx hb dX9_firstSight_95 (by decide +kernel) ?_
                refine lv_goto (tgt := 100) hx hb dX9_firstSight_96 (by decide +kernel) ?_
                refine lv_istore (lv' := [(12, .int 1), (7, .int m_t), (9, .long m_x), (11, .int m_i), (5, .long k_x), (8, .int k_h), (0, .ref a_wk), (1, .int p_b), (2, .int p_c), (3, .int p_f), (4, .int p_e)]) hx hb dX9_firstSight_100 hl (by decide +kernel) rfl ?_
                clear hl
                intro ls hl
                refine lv_lload hx hb dX9_firstSight_102 (lv_at hl 2 rfl) ?_
                refine W.eq (g2 := F0 m 104 ls [.long m_x]) rfl ?_
                refine lv_iload hx hb dX9_firstSight_104 (lv_at hl 0 rfl) ?_
                refine lv_if_eq (tgt := 116) hx hb dX9_firstSight_106 (by decide +kernel) (fun c_58 => ?_) (fun c_58 => ?_)
                ·
                  exact absurd c_58 (by decide +kernel)
                ·
                  refine lv_lconst (v := 1) hx hb dX9_firstSight_109 (by decide +kernel) ?_
                  refine lv_iload hx hb dX9_firstSight_110 (lv_at hl 3 rfl) ?_
                  refine lv_lshl (v := ((1 : Int64) <<< (m_i.toInt64 &&& 63))) hx hb dX9_firstSight_112 rfl ?_
                  refine lv_goto (tgt := 117) hx hb dX9_firstSight_113 (by decide +kernel) ?_
                  refine W.eq (g2 := F0 m 117 ls [.long ((1 : Int64) <<< (m_i.toInt64 &&& 63)), .long m_x]) rfl ?_
                  refine lv_lor hx hb dX9_firstSight_117 ?_
                  refine lv_lstore (lv' := [(9, .long (m_x ||| ((1 : Int64) <<< (m_i.toInt64 &&& 63)))), (12, .int 1), (7, .int m_t), (11, .int m_i), (5, .long k_x), (8, .int k_h), (0, .ref a_wk), (1, .int p_b), (2, .int p_c), (3, .int p_f), (4, .int p_e)]) hx hb dX9_firstSight_118 hl (by decide +kernel) rfl ?_
                  clear hl
                  intro ls hl
                  refine lv_aload_n hx hb dX9_firstSight_120 rfl (lv_at hl 6 rfl) ?_
                  refine va_get (D := G.1) (ci := 9) (v := .ref a_mt) (C := RX9) (T := TX9) (N := 4) hx hb hts inG_X9 hown hK hP 2 rfl rfl 3 (by decide +kernel) (hts _ fl_X9_15) (fun _ h9 => h9) rfl dX9_firstSight_121 ?_
                  refine lv_iload hx hb dX9_firstSight_124 (lv_at hl 5 rfl) ?_
                  refine W.eq (g2 := F0 m 126 ls [.int k_h, .ref a_mt]) rfl ?_
                  refine lv_bipush (v := 64) hx hb dX9_firstSight_126 (by decide +kernel) ?_
                  refine lv_imul hx hb dX9_firstSight_128 ?_
                  have t_59 : (k_h * 64).toInt = k_h.toInt * 64 := g5_imul (a := k_h.toInt) (b := 64) (by rfl) (by decide +kernel) (by omega) (by omega)
                  refine lv_iload hx hb dX9_firstSight_129 (lv_at hl 3 rfl) ?_
                  refine lv_iadd hx hb dX9_firstSight_131 ?_
                  have t_60 : ((k_h * 64) + m_i).toInt = (k_h * 64).toInt + m_i.toInt := g5_iadd (a := (k_h * 64).toInt) (b := m_i.toInt) (by rfl) (by rfl) (by omega) (by omega)
                  refine lv_iload hx hb dX9_firstSight_132 (lv_at hl 2 rfl) ?_
                  refine W.eq (g2 := F0 m 134 ls [.int m_t, .int ((k_h * 64) + m_i), .ref a_mt]) rfl ?_
                  refine lv_if_eq (tgt := 147) hx hb dX9_firstSight_134 (by decide +kernel) (fun c_61 => ?_) (fun c_61 => ?_)
                  ·
                    have i_61 : m_t.toInt = 0 := g5_eq (a := m_t.toInt) (b := 0) rfl (by decide +kernel) c_61
                    omega
                  ·
                    have n_61 : gNe (m_t.toInt) (0) := g5_eqN (a := m_t.toInt) (b := 0) rfl (by decide +kernel) c_61
                    refine lv_aload_n hx hb dX9_firstSight_137 rfl (lv_at hl 6 rfl) ?_
                    refine va_get (D := G.1) (ci := 9) (v := .ref a_k) (C := RX9) (T := TX9) (N := 4) hx hb hts inG_X9 hown hK hP 2 rfl rfl 1 (by decide +kernel) (hts _ fl_X9_23) (fun _ h9 => h9) rfl dX9_firstSight_138 ?_
                    refine va_get (D := G.1) (ci := 5) (v := .int z43) (C := RX5) (T := TX5) (N := 13) hx hb hts inG_X5 hown hK hP 3 rfl rfl 8 (by decide +kernel) (hts _ fl_X9_53) (fun _ h9 => h9) rfl dX9_firstSight_141 ?_
                    refine lv_goto (tgt := 148) hx hb dX9_firstSight_144 (by decide +kernel) ?_
                    refine W.eq (g2 := F0 m 148 ls [.int z43, .int ((k_h * 64) + m_i), .ref a_mt]) rfl ?_
                    refine va_iast hx hb hK hP hD hS 1 0 rfl rfl (i := ((k_h * 64) + m_i)) (x := z43) (vp_in_iff.mpr ⟨by omega, by omega⟩) dX9_firstSight_148 ?_
                    clear hP hD hS
                    intro H locs hP hD hS
                    refine g5_rs [(a_go, (arJ G 24 k_go)), (a_mt, (arI G 1536 (upd m_mt ((k_h * 64) + m_i).toNatClampNeg z43))), (a_wk, (oc9 a_h a_k a_go a_mt)), (a_k, (oc5 a_h a_j a_pt z38 z39 z40 z41 z42 z43 z44 z45 z46 z47)), (a_h, (oc1 e_wa e_le e_st e_fo e_lc a_l a_g a_b a_s a_p a_w e_gb a_bb)), (a_g, (oc6 6 5 a_gn e_g)), (a_gn, (arI G 30 f_g)), (a_b, (oc6 5 24 a_bn e_b)), (a_bn, (arI G 120 f_b)), (a_p, (oc6 8 5 a_pn e_p)), (a_pn, (arI G 40 f_p)), (a_bb, (arJ G 24 f_bb)), (a_j, (oc2 a_as a_sk)), (a_as, (arI G 8 z49)), (a_sk, (arJ G 50 z50)), (a_l, (arW G 6 f_l)), (a_lo, (oc3 e_cl a_hd a_sr a_cd)), (a_sr, (arI G n_sr f_sr)), (a_cd, (arI G n_cd f_cd)), (a_hd, (arI G n_hd f_hd)), (a_pt, (arI G 200 z48))] hP hD ?_
                    clear hP hD
                    intro hP hD
                    refine lv_iinc (v := (m_i + 1)) (lv' := [(11, .int (m_i + 1)), (9, .long (m_x ||| ((1 : Int64) <<< (m_i.toInt64 &&& 63)))), (12, .int 1), (7, .int m_t), (5, .long k_x), (8, .int k_h), (0, .ref a_wk), (1, .int p_b), (2, .int p_c), (3, .int p_f), (4, .int p_e)]) hx hb dX9_firstSight_149 hl (k := 3) rfl rfl (by decide +kernel) rfl ?_
                    clear hl
                    intro ls hl
                    have t_62 : (m_i + 1).toInt = m_i.toInt + 1 := g5_iadd (a := m_i.toInt) (b := 1) rfl (by decide +kernel) (by omega) (by omega)
                    refine lv_goto (tgt := 58) hx hb dX9_firstSight_152 (by decide +kernel) ?_
                    exact ih_58_14 ((m_x ||| ((1 : Int64) <<< (m_i.toInt64 &&& 63))), m_t, (m_i + 1), z39, z40, z41, z42, z43, z44, z45, z46, z47, z48, z49, z50, z38, (upd m_mt ((k_h * 64) + m_i).toNatClampNeg z43)) ls H locs (show Int.toNat (64 - (m_i + 1).toInt) < Int.toNat (64 - m_i.toInt) from g_up (show m_i.toInt < (m_i + 1).toInt by omega) (show m_i.toInt < 64 by omega)) ⟨lv_sub hl [3, 1, 0, 4, 5, 6, 7, 8, 9, 10] rfl, hP.sub [3, 5, 6, 9, 10, 11, 12, 13, 14, 15, 16, 17, 18, 19, 20, 0, 1, 4, 7, 8, 2] rfl, hD.sub [3, 5, 6, 9, 10, 11, 12, 13, 14, 15, 16, 17, 18, 19, 20, 0, 1, 4, 7, 8, 2] (by decide +kernel) rfl, hS, i_11, ⟨by omega, by omega⟩, i_36⟩
    ·
      have i_10 : k_t.toInt = 0 := g5_neN (a := k_t.toInt) (b := 0) rfl (by decide +kernel) c_10
      refine lv_aload_n hx hb dX9_firstSight_28 rfl (lv_at hl 3 rfl) ?_
      refine va_get (D := G.1) (ci := 9) (v := .ref a_h) (C := RX9) (T := TX9) (N := 4) hx hb hts inG_X9 hown hK hP 20 rfl rfl 0 (by decide +kernel) (hts _ fl_X9_19) (fun _ h9 => h9) rfl dX9_firstSight_29 ?_
      refine va_get (D := G.1) (ci := 1) (v := .ref a_b) (C := RX1) (T := TX1) (N := 13) hx hb hts inG_X1 hown hK hP 17 rfl rfl 7 (by decide +kernel) (hts _ fl_X9_31) (fun _ h9 => h9) rfl dX9_firstSight_32 ?_
      refine lv_iload_n hx hb dX9_firstSight_35 rfl (lv_at hl 4 rfl) ?_
      refine W.eq (g2 := F0 m 36 ls [.int p_b, .ref a_b]) rfl ?_
      refine lv_iload hx hb dX9_firstSight_36 (lv_at hl 2 rfl) ?_
      obtain ⟨hPc, hDc, hFc⟩ := g5_sub3 (wc := [(a_b, (oc6 5 24 a_bn e_b)), (a_bn, (arI G 120 f_b))]) hP hD hS hA [18, 19] (by decide +kernel) rfl
      refine va_calli (va_runV (As := [.int p_b, .int k_h]) (rest := []) ⟨hx, hb, hml, hown, hts⟩ (t_get_B l G a_b a_bn H.size e_b p_b k_h f_b h_e_b) (cwV 2 hts gV_X9_37 rfl rfl rfl hv_X6_get ⟨Nat.le_of_ble_eq_true rfl, Nat.le_of_ble_eq_true rfl⟩) (g5_preV hPc hK hDc hN hT hS hFc (ci := 6) (q0 := 0) rfl rfl) rfl rfl hl.1 rfl (lv_room (Nat.le_of_ble_eq_true rfl)) dX9_firstSight_38 ⟨Nat.le_of_ble_eq_true rfl, Nat.le_of_ble_eq_true rfl⟩) hS (fun q _ h => hFc q h) hFc (fun r u t H locs ht hvm hw hB hz1 hk1 hS => ?_)
      obtain ⟨hP1, hD1⟩ := hB
      have hP1 := g5_ht ht hP1
      obtain ⟨z64, (i_63 : z64 = tget f_b e_b.toInt 24 p_b.toInt k_h.toInt), y65, rfl⟩ := hw
      have hJ9 := va_join (wr := [(a_k, (oc5 a_h a_j a_pt k_ln k_se k_lh k_br k_we k_me k_ce k_wy k_ho k_ov)), (a_g, (oc6 6 5 a_gn e_g)), (a_gn, (arI G 30 f_g)), (a_p, (oc6 8 5 a_pn e_p)), (a_pn, (arI G 40 f_p)), (a_bb, (arJ G 24 f_bb)), (a_j, (oc2 a_as a_sk)), (a_as, (arI G 8 k_as)), (a_sk, (arJ G 50 k_sk)), (a_l, (arW G 6 f_l)), (a_lo, (oc3 e_cl a_hd a_sr a_cd)), (a_sr, (arI G n_sr f_sr)), (a_cd, (arI G n_cd f_cd)), (a_hd, (arI G n_hd f_hd)), (a_pt, (arI G 200 k_pt)), (a_go, (arJ G 24 k_go)), (a_mt, (arI G 1536 k_mt)), (a_h, (oc1 e_wa e_le e_st e_fo e_lc a_l a_g a_b a_s a_p a_w e_gb a_bb)), (a_wk, (oc9 a_h a_k a_go a_mt))]) hP hD [18, 19] [0, 1, 2, 3, 4, 5, 6, 7, 8, 9, 10, 11, 12, 13, 14, 15, 16, 17, 20] rfl rfl (by decide +kernel) (by decide +kernel) hk1 hFc hP1 hD1
      clear hP hD hPc hDc hFc ht hvm hz1 hk1 hP1 hD1
      obtain ⟨hP, hD⟩ := hJ9
      refine g5_rs [(a_k, (oc5 a_h a_j a_pt k_ln k_se k_lh k_br k_we k_me k_ce k_wy k_ho k_ov)), (a_g, (oc6 6 5 a_gn e_g)), (a_gn, (arI G 30 f_g)), (a_p, (oc6 8 5 a_pn e_p)), (a_pn, (arI G 40 f_p)), (a_bb, (arJ G 24 f_bb)), (a_j, (oc2 a_as a_sk)), (a_as, (arI G 8 k_as)), (a_sk, (arJ G 50 k_sk)), (a_l, (arW G 6 f_l)), (a_lo, (oc3 e_cl a_hd a_sr a_cd)), (a_sr, (arI G n_sr f_sr)), (a_cd, (arI G n_cd f_cd)), (a_hd, (arI G n_hd f_hd)), (a_pt, (arI G 200 k_pt)), (a_go, (arJ G 24 k_go)), (a_mt, (arI G 1536 k_mt)), (a_h, (oc1 e_wa e_le e_st e_fo e_lc a_l a_g a_b a_s a_p a_w e_gb a_bb)), (a_wk, (oc9 a_h a_k a_go a_mt)), (a_b, (oc6 5 24 a_bn e_b)), (a_bn, (arI G 120 f_b))] hP hD ?_
      clear hP hD
      intro hP hD
      refine g5_ti (v := z64) y65 ?_
      refine lv_iconst (v := (-1)) hx hb dX9_firstSight_41 (by decide +kernel) ?_
      refine lv_icmp_eq (tgt := 49) hx hb dX9_firstSight_42 (by decide +kernel) (fun c_66 => ?_) (fun c_66 => ?_)
      ·
        have i_66 : z64.toInt = (-1) := g5_eq (a := z64.toInt) (b := (-1)) rfl (by decide +kernel) c_66
        refine lv_iconst (v := 0) hx hb dX9_firstSight_49 (by decide +kernel) ?_
        refine lv_istore (lv' := [(7, .int 0), (5, .long k_x), (8, .int k_h), (0, .ref a_wk), (1, .int p_b), (2, .int p_c), (3, .int p_f), (4, .int p_e)]) hx hb dX9_firstSight_50 hl (by decide +kernel) rfl ?_
        clear hl
        intro ls hl
        refine lv_lconst (v := 0) hx hb dX9_firstSight_52 (by decide +kernel) ?_
        refine lv_lstore (lv' := [(9, .long 0), (7, .int 0), (5, .long k_x), (8, .int k_h), (0, .ref a_wk), (1, .int p_b), (2, .int p_c), (3, .int p_f), (4, .int p_e)]) hx hb dX9_firstSight_53 hl (by decide +kernel) rfl ?_
        clear hl
        intro ls hl
        refine W.eq (g2 := F0 m 55 ls []) rfl ?_
        refine lv_iconst (v := 0) hx hb dX9_firstSight_55 (by decide +kernel) ?_
        refine lv_istore (lv' := [(11, .int 0), (9, .long 0), (7, .int 0), (5, .long k_x), (8, .int k_h), (0, .ref a_wk), (1, .int p_b), (2, .int p_c), (3, .int p_f), (4, .int p_e)]) hx hb dX9_firstSight_56 hl (by decide +kernel) rfl ?_
        clear hl
        intro ls hl
        refine g5_loop (α := (Int64) × (Int32) × (Int32) × (Int32) × (Int32) × (Int32) × (Int32) × (Int32) × (Int32) × (Int32) × (Int32) × (Int32) × (Nat → Int32) × (Nat → Int32) × (Nat → Int64) × (Int32) × (Nat → Int32)) (fun (q : (Int64) × (Int32) × (Int32) × (Int32) × (Int32) × (Int32) × (Int32) × (Int32) × (Int32) × (Int32) × (Int32) × (Int32) × (Nat → Int32) × (Nat → Int32) × (Nat → Int64) × (Int32) × (Nat → Int32)) (ls : Array Slot) (H : Heap) (locs : List Loc) => match q with | (m_x, m_t, m_i, m_se, m_lh, m_br, m_we, m_me, m_ce, m_wy, m_ho, m_ov, m_pt, m_as, m_sk, m_ln, m_mt) => lv_has ls 13 [(7, .int m_t), (9, .long m_x), (11, .int m_i), (5, .long k_x), (8, .int k_h), (0, .ref a_wk), (1, .int p_b), (2, .int p_c), (3, .int p_f), (4, .int p_e)] ∧ va_P G.1 vwCl [(a_k, (oc5 a_h a_j a_pt m_ln m_se m_lh m_br m_we m_me m_ce m_wy m_ho m_ov)), (a_g, (oc6 6 5 a_gn e_g)), (a_gn, (arI G 30 f_g)), (a_p, (oc6 8 5 a_pn e_p)), (a_pn, (arI G 40 f_p)), (a_bb, (arJ G 24 f_bb)), (a_j, (oc2 a_as a_sk)), (a_as, (arI G 8 m_as)), (a_sk, (arJ G 50 m_sk)), (a_l, (arW G 6 f_l)), (a_lo, (oc3 e_cl a_hd a_sr a_cd)), (a_sr, (arI G n_sr f_sr)), (a_cd, (arI G n_cd f_cd)), (a_hd, (arI G n_hd f_hd)), (a_pt, (arI G 200 m_pt)), (a_go, (arJ G 24 k_go)), (a_mt, (arI G 1536 m_mt)), (a_h, (oc1 e_wa e_le e_st e_fo e_lc a_l a_g a_b a_s a_p a_w e_gb a_bb)), (a_wk, (oc9 a_h a_k a_go a_mt)), (a_b, (oc6 5 24 a_bn e_b)), (a_bn, (arI G 120 f_b))] H ∧ va_D A [(a_k, (oc5 a_h a_j a_pt m_ln m_se m_lh m_br m_we m_me m_ce m_wy m_ho m_ov)), (a_g, (oc6 6 5 a_gn e_g)), (a_gn, (arI G 30 f_g)), (a_p, (oc6 8 5 a_pn e_p)), (a_pn, (arI G 40 f_p)), (a_bb, (arJ G 24 f_bb)), (a_j, (oc2 a_as a_sk)), (a_as, (arI G 8 m_as)), (a_sk, (arJ G 50 m_sk)), (a_l, (arW G 6 f_l)), (a_lo, (oc3 e_cl a_hd a_sr a_cd)), (a_sr, (arI G n_sr f_sr)), (a_cd, (arI G n_cd f_cd)), (a_hd, (arI G n_hd f_hd)), (a_pt, (arI G 200 m_pt)), (a_go, (arJ G 24 k_go)), (a_mt, (arI G 1536 m_mt)), (a_h, (oc1 e_wa e_le e_st e_fo e_lc a_l a_g a_b a_s a_p a_w e_gb a_bb)), (a_wk, (oc9 a_h a_k a_go a_mt)), (a_b, (oc6 5 24 a_bn e_b)), (a_bn, (arI G 120 f_b))] ∧ va_S A s.heap H locs ∧ (0 ≤ m_t.toInt ∧ m_t.toInt ≤ 1) ∧ (0 ≤ m_i.toInt ∧ m_i.toInt ≤ 64) ∧ (0 ≤ m_ov.toInt ∧ m_ov.toInt ≤ 1)) (fun (q : (Int64) × (Int32) × (Int32) × (Int32) × (Int32) × (Int32) × (Int32) × (Int32) × (Int32) × (Int32) × (Int32) × (Int32) × (Nat → Int32) × (Nat → Int32) × (Nat → Int64) × (Int32) × (Nat → Int32)) => match q with | (m_x, m_t, m_i, m_se, m_lh, m_br, m_we, m_me, m_ce, m_wy, m_ho, m_ov, m_pt, m_as, m_sk, m_ln, m_mt) => Int.toNat (64 - m_i.toInt)) (0, 0, 0, k_se, k_lh, k_br, k_we, k_me, k_ce, k_wy, k_ho, k_ov, k_pt, k_as, k_sk, k_ln, k_mt) ⟨lv_sub hl [2, 1, 0, 3, 4, 5, 6, 7, 8, 9] rfl, hP, hD, hS, ⟨by decide, by decide⟩, ⟨by decide, by decide⟩, i_6⟩ ?_
        rintro ⟨m_x, m_t, m_i, m_se, m_lh, m_br, m_we, m_me, m_ce, m_wy, m_ho, m_ov, m_pt, m_as, m_sk, m_ln, m_mt⟩ ls H locs ⟨hl, hP, hD, hS, (i_67 : 0 ≤ m_t.toInt ∧ m_t.toInt ≤ 1), (i_68 : 0 ≤ m_i.toInt ∧ m_i.toInt ≤ 64), (i_69 : 0 ≤ m_ov.toInt ∧ m_ov.toInt ≤ 1)⟩ ih_58_70
        replace hl : lv_has ls 13 [(7, .int m_t), (9, .long m_x), (11, .int m_i), (5, .long k_x), (8, .int k_h), (0, .ref a_wk), (1, .int p_b), (2, .int p_c), (3, .int p_f), (4, .int p_e)] := hl
        refine g5_rs [(a_k, (oc5 a_h a_j a_pt m_ln m_se m_lh m_br m_we m_me m_ce m_wy m_ho m_ov)), (a_g, (oc6 6 5 a_gn e_g)), (a_gn, (arI G 30 f_g)), (a_p, (oc6 8 5 a_pn e_p)), (a_pn, (arI G 40 f_p)), (a_bb, (arJ G 24 f_bb)), (a_j, (oc2 a_as a_sk)), (a_as, (arI G 8 m_as)), (a_sk, (arJ G 50 m_sk)), (a_l, (arW G 6 f_l)), (a_lo, (oc3 e_cl a_hd a_sr a_cd)), (a_sr, (arI G n_sr f_sr)), (a_cd, (arI G n_cd f_cd)), (a_hd, (arI G n_hd f_hd)), (a_pt, (arI G 200 m_pt)), (a_go, (arJ G 24 k_go)), (a_mt, (arI G 1536 m_mt)), (a_h, (oc1 e_wa e_le e_st e_fo e_lc a_l a_g a_b a_s a_p a_w e_gb a_bb)), (a_wk, (oc9 a_h a_k a_go a_mt)), (a_b, (oc6 5 24 a_bn e_b)), (a_bn, (arI G 120 f_b))] hP hD ?_
        clear hP hD
        intro hP hD
        refine lv_iload hx hb dX9_firstSight_58 (lv_at hl 2 rfl) ?_
        refine lv_bipush (v := 64) hx hb dX9_firstSight_60 (by decide +kernel) ?_
        refine lv_icmp_ge (tgt := 155) hx hb dX9_firstSight_62 (by decide +kernel) (fun c_71 => ?_) (fun c_71 => ?_)
        ·
          have i_71 : m_i.toInt ≥ 64 := g5_ge (a := m_i.toInt) (b := 64) rfl (by decide +kernel) c_71
          refine lv_aload_n hx hb dX9_firstSight_155 rfl (lv_at hl 5 rfl) ?_
          refine va_get (D := G.1) (ci := 9) (v := .ref a_go) (C := RX9) (T := TX9) (N := 4) hx hb hts inG_X9 hown hK hP 18 rfl rfl 2 (by decide +kernel) (hts _ fl_X9_9) (fun _ h9 => h9) rfl dX9_firstSight_156 ?_
          refine lv_iload hx hb dX9_firstSight_159 (lv_at hl 4 rfl) ?_
          refine lv_lload hx hb dX9_firstSight_161 (lv_at hl 1 rfl) ?_
          refine W.eq (g2 := F0 m 163 ls [.long m_x, .int k_h, .ref a_go]) rfl ?_
          refine va_last hx hb hK hP hD hS 15 1 rfl rfl (i := k_h) (x := m_x) (vp_in_iff.mpr ⟨by omega, by omega⟩) dX9_firstSight_163 ?_
          clear hP hD hS
          intro H locs hP hD hS
          refine g5_rs [(a_k, (oc5 a_h a_j a_pt m_ln m_se m_lh m_br m_we m_me m_ce m_wy m_ho m_ov)), (a_g, (oc6 6 5 a_gn e_g)), (a_gn, (arI G 30 f_g)), (a_p, (oc6 8 5 a_pn e_p)), (a_pn, (arI G 40 f_p)), (a_bb, (arJ G 24 f_bb)), (a_j, (oc2 a_as a_sk)), (a_as, (arI G 8 m_as)), (a_sk, (arJ G 50 m_sk)), (a_l, (arW G 6 f_l)), (a_lo, (oc3 e_cl a_hd a_sr a_cd)), (a_sr, (arI G n_sr f_sr)), (a_cd, (arI G n_cd f_cd)), (a_hd, (arI G n_hd f_hd)), (a_pt, (arI G 200 m_pt)), (a_go, (arJ G 24 (vp_updL k_go k_h.toNatClampNeg m_x))), (a_mt, (arI G 1536 m_mt)), (a_h, (oc1 e_wa e_le e_st e_fo e_lc a_l a_g a_b a_s a_p a_w e_gb a_bb)), (a_wk, (oc9 a_h a_k a_go a_mt)), (a_b, (oc6 5 24 a_bn e_b)), (a_bn, (arI G 120 f_b))] hP hD ?_
          clear hP hD
          intro hP hD
          refine lv_lload hx hb dX9_firstSight_164 (lv_at hl 1 rfl) ?_
          refine lv_lconst (v := 0) hx hb dX9_firstSight_166 (by decide +kernel) ?_
          refine W.lcmp hx hb dX9_firstSight_167 ?_
          refine lv_if_eq (tgt := 174) hx hb dX9_firstSight_168 (by decide +kernel) (fun c_72 => ?_) (fun c_72 => ?_)
          ·
            have i_72 : (lg_cmp m_x 0).toInt = 0 := g5_eq (a := (lg_cmp m_x 0).toInt) (b := 0) rfl (by decide +kernel) c_72
            refine lv_aload_n hx hb dX9_firstSight_174 rfl (lv_at hl 5 rfl) ?_
            refine lv_lload hx hb dX9_firstSight_175 (lv_at hl 3 rfl) ?_
            obtain ⟨hPc, hDc, hFc⟩ := g5_sub3 (wc := [(a_h, (oc1 e_wa e_le e_st e_fo e_lc a_l a_g a_b a_s a_p a_w e_gb a_bb)), (a_wk, (oc9 a_h a_k a_go a_mt))]) hP hD hS hA [17, 18] (by decide +kernel) rfl
            refine va_calll (va_runV (As := [.long k_x]) (rest := []) ⟨hx, hb, hml, hown, hts⟩ (a_spread l G a_h a_wk a_l a_g a_b a_s a_p a_w a_bb a_k a_go a_mt H.size e_le e_st e_fo e_lc e_wa e_gb k_x) (cwV 1 hts gV_X9_56 rfl rfl rfl hv_X9_spread ⟨Nat.le_of_ble_eq_true rfl, Nat.le_of_ble_eq_true rfl⟩) (g5_preV hPc hK hDc hN hT hS hFc (ci := 9) (q0 := 1) rfl rfl) rfl rfl hl.1 rfl (lv_room (Nat.le_of_ble_eq_true rfl)) dX9_firstSight_177 ⟨Nat.le_of_ble_eq_true rfl, Nat.le_of_ble_eq_true rfl⟩) hS (fun q _ h => hFc q h) hFc (fun r u t H locs ht hvm hw hB hz1 hk1 hS => ?_)
            obtain ⟨hP1, hD1⟩ := hB
            have hP1 := g5_ht ht hP1
            obtain ⟨z73, y74, rfl⟩ := hw
            have hJ9 := va_join (wr := [(a_k, (oc5 a_h a_j a_pt m_ln m_se m_lh m_br m_we m_me m_ce m_wy m_ho m_ov)), (a_g, (oc6 6 5 a_gn e_g)), (a_gn, (arI G 30 f_g)), (a_p, (oc6 8 5 a_pn e_p)), (a_pn, (arI G 40 f_p)), (a_bb, (arJ G 24 f_bb)), (a_j, (oc2 a_as a_sk)), (a_as, (arI G 8 m_as)), (a_sk, (arJ G 50 m_sk)), (a_l, (arW G 6 f_l)), (a_lo, (oc3 e_cl a_hd a_sr a_cd)), (a_sr, (arI G n_sr f_sr)), (a_cd, (arI G n_cd f_cd)), (a_hd, (arI G n_hd f_hd)), (a_pt, (arI G 200 m_pt)), (a_go, (arJ G 24 (vp_updL k_go k_h.toNatClampNeg m_x))), (a_mt, (arI G 1536 m_mt)), (a_b, (oc6 5 24 a_bn e_b)), (a_bn, (arI G 120 f_b))]) hP hD [17, 18] [0, 1, 2, 3, 4, 5, 6, 7, 8, 9, 10, 11, 12, 13, 14, 15, 16, 19, 20] rfl rfl (by decide +kernel) (by decide +kernel) hk1 hFc hP1 hD1
            clear hP hD hPc hDc hFc ht hvm hz1 hk1 hP1 hD1
            obtain ⟨hP, hD⟩ := hJ9
            refine g5_rs [(a_k, (oc5 a_h a_j a_pt m_ln m_se m_lh m_br m_we m_me m_ce m_wy m_ho m_ov)), (a_g, (oc6 6 5 a_gn e_g)), (a_gn, (arI G 30 f_g)), (a_p, (oc6 8 5 a_pn e_p)), (a_pn, (arI G 40 f_p)), (a_bb, (arJ G 24 f_bb)), (a_j, (oc2 a_as a_sk)), (a_as, (arI G 8 m_as)), (a_sk, (arJ G 50 m_sk)), (a_l, (arW G 6 f_l)), (a_lo, (oc3 e_cl a_hd a_sr a_cd)), (a_sr, (arI G n_sr f_sr)), (a_cd, (arI G n_cd f_cd)), (a_hd, (arI G n_hd f_hd)), (a_pt, (arI G 200 m_pt)), (a_go, (arJ G 24 (vp_updL k_go k_h.toNatClampNeg m_x))), (a_mt, (arI G 1536 m_mt)), (a_b, (oc6 5 24 a_bn e_b)), (a_bn, (arI G 120 f_b)), (a_h, (oc1 e_wa e_le e_st e_fo e_lc a_l a_g a_b a_s a_p a_w e_gb a_bb)), (a_wk, (oc9 a_h a_k a_go a_mt))] hP hD ?_
            clear hP hD
            intro hP hD
            refine g5_tl (v := z73) y74 ?_
            refine lv_lstore (lv' := [(5, .long z73), (7, .int m_t), (9, .long m_x), (11, .int m_i), (8, .int k_h), (0, .ref a_wk), (1, .int p_b), (2, .int p_c), (3, .int p_f), (4, .int p_e)]) hx hb dX9_firstSight_180 hl (by decide +kernel) rfl ?_
            clear hl
            intro ls hl
            refine W.eq (g2 := F0 m 182 ls []) rfl ?_
            refine lv_iinc (v := (k_h + 1)) (lv' := [(8, .int (k_h + 1)), (5, .long z73), (7, .int m_t), (9, .long m_x), (11, .int m_i), (0, .ref a_wk), (1, .int p_b), (2, .int p_c), (3, .int p_f), (4, .int p_e)]) hx hb dX9_firstSight_182 hl (k := 4) rfl rfl (by decide +kernel) rfl ?_
            clear hl
            intro ls hl
            have t_75 : (k_h + 1).toInt = k_h.toInt + 1 := g5_iadd (a := k_h.toInt) (b := 1) rfl (by decide +kernel) (by omega) (by omega)
            refine lv_goto (tgt := 16) hx hb dX9_firstSight_185 (by decide +kernel) ?_
            exact ih_16_8 (z73, m_t, (k_h + 1), m_se, m_lh, m_br, m_we, m_me, m_ce, m_wy, m_ho, m_ov, m_pt, m_as, m_sk, m_ln, (vp_updL k_go k_h.toNatClampNeg m_x), m_mt) ls H locs (show Int.toNat (24 - (k_h + 1).toInt) < Int.toNat (24 - k_h.toInt) from g_up (show k_h.toInt < (k_h + 1).toInt by omega) (show k_h.toInt < 24 by omega)) ⟨lv_sub hl [1, 2, 0, 5, 6, 7, 8, 9] rfl, hP.sub [0, 1, 2, 3, 4, 5, 6, 7, 8, 9, 10, 11, 12, 13, 14, 15, 16, 19, 17, 18, 20] rfl, hD.sub [0, 1, 2, 3, 4, 5, 6, 7, 8, 9, 10, 11, 12, 13, 14, 15, 16, 19, 17, 18, 20] (by decide +kernel) rfl, hS, i_67, ⟨by omega, by omega⟩, i_69, by omega⟩
          ·
            have n_72 : gNe ((lg_cmp m_x 0).toInt) (0) := g5_eqN (a := (lg_cmp m_x 0).toInt) (b := 0) rfl (by decide +kernel) c_72
            refine lv_iload hx hb dX9_firstSight_171 (lv_at hl 4 rfl) ?_
            exact W.iret (v := k_h) hx hb hr (fun t ht hW => ⟨⟨k_h, [(a_k, (oc5 a_h a_j a_pt m_ln m_se m_lh m_br m_we m_me m_ce m_wy m_ho m_ov)), (a_h, (oc1 e_wa e_le e_st e_fo e_lc a_l a_g a_b a_s a_p a_w e_gb a_bb)), (a_g, (oc6 6 5 a_gn e_g)), (a_gn, (arI G 30 f_g)), (a_b, (oc6 5 24 a_bn e_b)), (a_bn, (arI G 120 f_b)), (a_p, (oc6 8 5 a_pn e_p)), (a_pn, (arI G 40 f_p)), (a_bb, (arJ G 24 f_bb)), (a_j, (oc2 a_as a_sk)), (a_as, (arI G 8 m_as)), (a_sk, (arJ G 50 m_sk)), (a_l, (arW G 6 f_l)), (a_lo, (oc3 e_cl a_hd a_sr a_cd)), (a_sr, (arI G n_sr f_sr)), (a_cd, (arI G n_cd f_cd)), (a_hd, (arI G n_hd f_hd)), (a_pt, (arI G 200 m_pt)), (a_wk, (oc9 a_h a_k a_go a_mt)), (a_go, (arJ G 24 (vp_updL k_go k_h.toNatClampNeg m_x))), (a_mt, (arI G 1536 m_mt))], rfl, ⟨k_h, m_ln, m_se, m_lh, m_br, m_we, m_me, m_ce, m_wy, m_ho, m_ov, m_pt, m_as, m_sk, (vp_updL k_go k_h.toNatClampNeg m_x), m_mt, i_69, ⟨by omega, by omega⟩, Or.inr ⟨by omega, by omega⟩, rfl, rfl⟩, by rw [ht]; exact hP.sub [0, 17, 1, 2, 19, 20, 3, 4, 5, 6, 7, 8, 9, 10, 11, 12, 13, 14, 18, 15, 16] rfl, hD.sub [0, 17, 1, 2, 19, 20, 3, 4, 5, 6, 7, 8, 9, 10, 11, 12, 13, 14, 18, 15, 16] (by decide +kernel) rfl⟩, hS.F ht⟩) hS.2.2 dX9_firstSight_173
        ·
          have i_71 : m_i.toInt < 64 := g5_geN (a := m_i.toInt) (b := 64) rfl (by decide +kernel) c_71
          refine lv_iload hx hb dX9_firstSight_65 (lv_at hl 0 rfl) ?_
          refine lv_if_eq (tgt := 99) hx hb dX9_firstSight_67 (by decide +kernel) (fun c_76 => ?_) (fun c_76 => ?_)
          ·
            have i_76 : m_t.toInt = 0 := g5_eq (a := m_t.toInt) (b := 0) rfl (by decide +kernel) c_76
            refine lv_iconst (v := 0) hx hb dX9_firstSight_99 (by decide +kernel) ?_
            refine lv_istore (lv' := [(12, .int 0), (7, .int m_t), (9, .long m_x), (11, .int m_i), (5, .long k_x), (8, .int k_h), (0, .ref a_wk), (1, .int p_b), (2, .int p_c), (3, .int p_f), (4, .int p_e)]) hx hb dX9_firstSight_100 hl (by decide +kernel) rfl ?_
            clear hl
            intro ls hl
            refine lv_lload hx hb dX9_firstSight_102 (lv_at hl 2 rfl) ?_
            refine lv_iload hx hb dX9_firstSight_104 (lv_at hl 0 rfl) ?_
            refine W.eq (g2 := F0 m 106 ls [.int 0, .long m_x]) rfl ?_
            refine lv_if_eq (tgt := 116) hx hb dX9_firstSight_106 (by decide +kernel) (fun c_77 => ?_) (fun c_77 => ?_)
            ·
              refine lv_lconst (v := 0) hx hb dX9_firstSight_116 (by decide +kernel) ?_
              refine lv_lor hx hb dX9_firstSight_117 ?_
              refine g5_tl (v := m_x) (by simp) ?_
              refine lv_lstore (lv' := [(9, .long m_x), (12, .int 0), (7, .int m_t), (11, .int m_i), (5, .long k_x), (8, .int k_h), (0, .ref a_wk), (1, .int p_b), (2, .int p_c), (3, .int p_f), (4, .int p_e)]) hx hb dX9_firstSight_118 hl (by decide +kernel) rfl ?_
              clear hl
              intro ls hl
              refine lv_aload_n hx hb dX9_firstSight_120 rfl (lv_at hl 6 rfl) ?_
              refine W.eq (g2 := F0 m 121 ls [.ref a_wk]) rfl ?_
              refine va_get (D := G.1) (ci := 9) (v := .ref a_mt) (C := RX9) (T := TX9) (N := 4) hx hb hts inG_X9 hown hK hP 18 rfl rfl 3 (by decide +kernel) (hts _ fl_X9_15) (fun _ h9 => h9) rfl dX9_firstSight_121 ?_
              refine lv_iload hx hb dX9_firstSight_124 (lv_at hl 5 rfl) ?_
              refine lv_bipush (v := 64) hx hb dX9_firstSight_126 (by decide +kernel) ?_
              refine lv_imul hx hb dX9_firstSight_128 ?_
              have t_78 : (k_h * 64).toInt = k_h.toInt * 64 := g5_imul (a := k_h.toInt) (b := 64) (by rfl) (by decide +kernel) (by omega) (by omega)
              refine lv_iload hx hb dX9_firstSight_129 (lv_at hl 3 rfl) ?_
              refine W.eq (g2 := F0 m 131 ls [.int m_i, .int (k_h * 64), .ref a_mt]) rfl ?_
              refine lv_iadd hx hb dX9_firstSight_131 ?_
              have t_79 : ((k_h * 64) + m_i).toInt = (k_h * 64).toInt + m_i.toInt := g5_iadd (a := (k_h * 64).toInt) (b := m_i.toInt) (by rfl) (by rfl) (by omega) (by omega)
              refine lv_iload hx hb dX9_firstSight_132 (lv_at hl 2 rfl) ?_
              refine lv_if_eq (tgt := 147) hx hb dX9_firstSight_134 (by decide +kernel) (fun c_80 => ?_) (fun c_80 => ?_)
              ·
                have i_80 : m_t.toInt = 0 := g5_eq (a := m_t.toInt) (b := 0) rfl (by decide +kernel) c_80
                refine lv_iconst (v := 0) hx hb dX9_firstSight_147 (by decide +kernel) ?_
                refine va_iast hx hb hK hP hD hS 16 0 rfl rfl (i := ((k_h * 64) + m_i)) (x := 0) (vp_in_iff.mpr ⟨by omega, by omega⟩) dX9_firstSight_148 ?_
                clear hP hD hS
                intro H locs hP hD hS
                refine g5_rs [(a_k, (oc5 a_h a_j a_pt m_ln m_se m_lh m_br m_we m_me m_ce m_wy m_ho m_ov)), (a_g, (oc6 6 5 a_gn e_g)), (a_gn, (arI G 30 f_g)), (a_p, (oc6 8 5 a_pn e_p)), (a_pn, (arI G 40 f_p)), (a_bb, (arJ G 24 f_bb)), (a_j, (oc2 a_as a_sk)), (a_as, (arI G 8 m_as)), (a_sk, (arJ G 50 m_sk)), (a_l, (arW G 6 f_l)), (a_lo, (oc3 e_cl a_hd a_sr a_cd)), (a_sr, (arI G n_sr f_sr)), (a_cd, (arI G n_cd f_cd)), (a_hd, (arI G n_hd f_hd)), (a_pt, (arI G 200 m_pt)), (a_go, (arJ G 24 k_go)), (a_mt, (arI G 1536 (upd m_mt ((k_h * 64) + m_i).toNatClampNeg 0))), (a_h, (oc1 e_wa e_le e_st e_fo e_lc a_l a_g a_b a_s a_p a_w e_gb a_bb)), (a_wk, (oc9 a_h a_k a_go a_mt)), (a_b, (oc6 5 24 a_bn e_b)), (a_bn, (arI G 120 f_b))] hP hD ?_
                clear hP hD
                intro hP hD
                refine lv_iinc (v := (m_i + 1)) (lv' := [(11, .int (m_i + 1)), (9, .long m_x), (12, .int 0), (7, .int m_t), (5, .long k_x), (8, .int k_h), (0, .ref a_wk), (1, .int p_b), (2, .int p_c), (3, .int p_f), (4, .int p_e)]) hx hb dX9_firstSight_149 hl (k := 3) rfl rfl (by decide +kernel) rfl ?_
                clear hl
                intro ls hl
                have t_81 : (m_i + 1).toInt = m_i.toInt + 1 := g5_iadd (a := m_i.toInt) (b := 1) rfl (by decide +kernel) (by omega) (by omega)
                refine lv_goto (tgt := 58) hx hb dX9_firstSight_152 (by decide +kernel) ?_
                exact ih_58_70 (m_x, m_t, (m_i + 1), m_se, m_lh, m_br, m_we, m_me, m_ce, m_wy, m_ho, m_ov, m_pt, m_as, m_sk, m_ln, (upd m_mt ((k_h * 64) + m_i).toNatClampNeg 0)) ls H locs (show Int.toNat (64 - (m_i + 1).toInt) < Int.toNat (64 - m_i.toInt) from g_up (show m_i.toInt < (m_i + 1).toInt by omega) (show m_i.toInt < 64 by omega)) ⟨lv_sub hl [3, 1, 0, 4, 5, 6, 7, 8, 9, 10] rfl, hP, hD, hS, i_67, ⟨by omega, by omega⟩, i_69⟩
              ·
                have i_80 : m_t.toInt ≠ 0 := g5_eqN (a := m_t.toInt) (b := 0) rfl (by decide +kernel) c_80
                omega
            ·
              exact absurd c_77 (by decide +kernel)
          ·
            have n_76 : gNe (m_t.toInt) (0) := g5_eqN (a := m_t.toInt) (b := 0) rfl (by decide +kernel) c_76
            have i_76 : m_t.toInt ≥ 1 := by have z := g5_eqN (a := m_t.toInt) (b := 0) (by rfl) (by decide +kernel) c_76; omega
            refine lv_lload hx hb dX9_firstSight_70 (lv_at hl 3 rfl) ?_
            refine lv_iload hx hb dX9_firstSight_72 (lv_at hl 2 rfl) ?_
            obtain ⟨hPc, hDc, hFc⟩ := g5_sub3 (wc := []) hP hD hS hA [] (by decide +kernel) rfl
            refine va_calli (va_runSN (As := [.long k_x, .int m_i]) (rest := []) ⟨hx, hb, hml, hown, hts⟩ (k_isOn l G H.size m_i k_x ⟨by omega, by omega⟩) ⟨va_cnB 2 hts gW_X11_isOn rfl rfl rfl (hN.1 _ g5_nw_X9_43) (hts _ ini_X11) hs_X11_isOn ⟨Nat.le_of_ble_eq_true rfl, Nat.le_of_ble_eq_true rfl⟩, hts _ st_X11_isOn, trivial⟩ (g5_preS hPc hK hDc hN hT hS hFc) rfl rfl hl.1 rfl (lv_room (Nat.le_of_ble_eq_true rfl)) dX9_firstSight_74 ⟨Nat.le_of_ble_eq_true rfl, Nat.le_of_ble_eq_true rfl⟩) hS (fun q _ h => hFc q h) hFc (fun r u t H locs ht hvm hw hB hz1 hk1 hS => ?_)
            obtain ⟨hP1, hD1⟩ := hB
            have hP1 := g5_ht ht hP1
            rcases hw with ⟨(i_82 : onB k_x m_i.toInt = false), rfl, rfl⟩ | ⟨(i_83 : onB k_x m_i.toInt = true), rfl, rfl⟩
            ·
              have hJ9 := g5_same hP hk1
              clear hP hPc hDc hFc ht hvm hz1 hk1 hP1 hD1
              have hP := hJ9
              clear hJ9
              refine lv_if_eq (tgt := 99) hx hb dX9_firstSight_77 (by decide +kernel) (fun c_84 => ?_) (fun c_84 => ?_)
              ·
                refine lv_iconst (v := 0) hx hb dX9_firstSight_99 (by decide +kernel) ?_
                refine lv_istore (lv' := [(12, .int 0), (7, .int m_t), (9, .long m_x), (11, .int m_i), (5, .long k_x), (8, .int k_h), (0, .ref a_wk), (1, .int p_b), (2, .int p_c), (3, .int p_f), (4, .int p_e)]) hx hb dX9_firstSight_100 hl (by decide +kernel) rfl ?_
                clear hl
                intro ls hl
                refine lv_lload hx hb dX9_firstSight_102 (lv_at hl 2 rfl) ?_
                refine lv_iload hx hb dX9_firstSight_104 (lv_at hl 0 rfl) ?_
                refine W.eq (g2 := F0 m 106 ls [.int 0, .long m_x]) rfl ?_
                refine lv_if_eq (tgt := 116) hx hb dX9_firstSight_106 (by decide +kernel) (fun c_85 => ?_) (fun c_85 => ?_)
                ·
                  refine lv_lconst (v := 0) hx hb dX9_firstSight_116 (by decide +kernel) ?_
                  refine lv_lor hx hb dX9_firstSight_117 ?_
                  refine g5_tl (v := m_x) (by simp) ?_
                  refine lv_lstore (lv' := [(9, .long m_x), (12, .int 0), (7, .int m_t), (11, .int m_i), (5, .long k_x), (8, .int k_h), (0, .ref a_wk), (1, .int p_b), (2, .int p_c), (3, .int p_f), (4, .int p_e)]) hx hb dX9_firstSight_118 hl (by decide +kernel) rfl ?_
                  clear hl
                  intro ls hl
                  refine lv_aload_n hx hb dX9_firstSight_120 rfl (lv_at hl 6 rfl) ?_
                  refine W.eq (g2 := F0 m 121 ls [.ref a_wk]) rfl ?_
                  refine va_get (D := G.1) (ci := 9) (v := .ref a_mt) (C := RX9) (T := TX9) (N := 4) hx hb hts inG_X9 hown hK hP 18 rfl rfl 3 (by decide +kernel) (hts _ fl_X9_15) (fun _ h9 => h9) rfl dX9_firstSight_121 ?_
                  refine lv_iload hx hb dX9_firstSight_124 (lv_at hl 5 rfl) ?_
                  refine lv_bipush (v := 64) hx hb dX9_firstSight_126 (by decide +kernel) ?_
                  refine lv_imul hx hb dX9_firstSight_128 ?_
                  have t_86 : (k_h * 64).toInt = k_h.toInt * 64 := g5_imul (a := k_h.toInt) (b := 64) (by rfl) (by decide +kernel) (by omega) (by omega)
                  refine lv_iload hx hb dX9_firstSight_129 (lv_at hl 3 rfl) ?_
                  refine W.eq (g2 := F0 m 131 ls [.int m_i, .int (k_h * 64), .ref a_mt]) rfl ?_
                  refine lv_iadd hx hb dX9_firstSight_131 ?_
                  have t_87 : ((k_h * 64) + m_i).toInt = (k_h * 64).toInt + m_i.toInt := g5_iadd (a := (k_h * 64).toInt) (b := m_i.toInt) (by rfl) (by rfl) (by omega) (by omega)
                  refine lv_iload hx hb dX9_firstSight_132 (lv_at hl 2 rfl) ?_
                  refine lv_if_eq (tgt := 147) hx hb dX9_firstSight_134 (by decide +kernel) (fun c_88 => ?_) (fun c_88 => ?_)
                  ·
                    have i_88 : m_t.toInt = 0 := g5_eq (a := m_t.toInt) (b := 0) rfl (by decide +kernel) c_88
                    omega
                  ·
                    have n_88 : gNe (m_t.toInt) (0) := g5_eqN (a := m_t.toInt) (b := 0) rfl (by decide +kernel) c_88
                    refine lv_aload_n hx hb dX9_firstSight_137 rfl (lv_at hl 6 rfl) ?_
                    refine va_get (D := G.1) (ci := 9) (v := .ref a_k) (C := RX9) (T := TX9) (N := 4) hx hb hts inG_X9 hown hK hP 18 rfl rfl 1 (by decide +kernel) (hts _ fl_X9_23) (fun _ h9 => h9) rfl dX9_firstSight_138 ?_
                    refine va_get (D := G.1) (ci := 5) (v := .int m_me) (C := RX5) (T := TX5) (N := 13) hx hb hts inG_X5 hown hK hP 0 rfl rfl 8 (by decide +kernel) (hts _ fl_X9_53) (fun _ h9 => h9) rfl dX9_firstSight_141 ?_
                    refine lv_goto (tgt := 148) hx hb dX9_firstSight_144 (by decide +kernel) ?_
                    refine W.eq (g2 := F0 m 148 ls [.int m_me, .int ((k_h * 64) + m_i), .ref a_mt]) rfl ?_
                    refine va_iast hx hb hK hP hD hS 16 0 rfl rfl (i := ((k_h * 64) + m_i)) (x := m_me) (vp_in_iff.mpr ⟨by omega, by omega⟩) dX9_firstSight_148 ?_
                    clear hP hD hS
                    intro H locs hP hD hS
                    refine g5_rs [(a_k, (oc5 a_h a_j a_pt m_ln m_se m_lh m_br m_we m_me m_ce m_wy m_ho m_ov)), (a_g, (oc6 6 5 a_gn e_g)), (a_gn, (arI G 30 f_g)), (a_p, (oc6 8 5 a_pn e_p)), (a_pn, (arI G 40 f_p)), (a_bb, (arJ G 24 f_bb)), (a_j, (oc2 a_as a_sk)), (a_as, (arI G 8 m_as)), (a_sk, (arJ G 50 m_sk)), (a_l, (arW G 6 f_l)), (a_lo, (oc3 e_cl a_hd a_sr a_cd)), (a_sr, (arI G n_sr f_sr)), (a_cd, (arI G n_cd f_cd)), (a_hd, (arI G n_hd f_hd)), (a_pt, (arI G 200 m_pt)), (a_go, (arJ G 24 k_go)), (a_mt, (arI G 1536 (upd m_mt ((k_h * 64) + m_i).toNatClampNeg m_me))), (a_h, (oc1 e_wa e_le e_st e_fo e_lc a_l a_g a_b a_s a_p a_w e_gb a_bb)), (a_wk, (oc9 a_h a_k a_go a_mt)), (a_b, (oc6 5 24 a_bn e_b)), (a_bn, (arI G 120 f_b))] hP hD ?_
                    clear hP hD
                    intro hP hD
                    refine lv_iinc (v := (m_i + 1)) (lv' := [(11, .int (m_i + 1)), (9, .long m_x), (12, .int 0), (7, .int m_t), (5, .long k_x), (8, .int k_h), (0, .ref a_wk), (1, .int p_b), (2, .int p_c), (3, .int p_f), (4, .int p_e)]) hx hb dX9_firstSight_149 hl (k := 3) rfl rfl (by decide +kernel) rfl ?_
                    clear hl
                    intro ls hl
                    have t_89 : (m_i + 1).toInt = m_i.toInt + 1 := g5_iadd (a := m_i.toInt) (b := 1) rfl (by decide +kernel) (by omega) (by omega)
                    refine lv_goto (tgt := 58) hx hb dX9_firstSight_152 (by decide +kernel) ?_
                    exact ih_58_70 (m_x, m_t, (m_i + 1), m_se, m_lh, m_br, m_we, m_me, m_ce, m_wy, m_ho, m_ov, m_pt, m_as, m_sk, m_ln, (upd m_mt ((k_h * 64) + m_i).toNatClampNeg m_me)) ls H locs (show Int.toNat (64 - (m_i + 1).toInt) < Int.toNat (64 - m_i.toInt) from g_up (show m_i.toInt < (m_i + 1).toInt by omega) (show m_i.toInt < 64 by omega)) ⟨lv_sub hl [3, 1, 0, 4, 5, 6, 7, 8, 9, 10] rfl, hP, hD, hS, i_67, ⟨by omega, by omega⟩, i_69⟩
                ·
                  exact absurd c_85 (by decide +kernel)
              ·
                exact absurd c_84 (by decide +kernel)
            ·
              have hJ9 := g5_same hP hk1
              clear hP hPc hDc hFc ht hvm hz1 hk1 hP1 hD1
              have hP := hJ9
              clear hJ9
              refine lv_if_eq (tgt := 99) hx hb dX9_firstSight_77 (by decide +kernel) (fun c_90 => ?_) (fun c_90 => ?_)
              ·
                exact absurd c_90 (by decide +kernel)
              ·
                refine lv_aload_n hx hb dX9_firstSight_80 rfl (lv_at hl 5 rfl) ?_
                refine va_get (D := G.1) (ci := 9) (v := .ref a_k) (C := RX9) (T := TX9) (N := 4) hx hb hts inG_X9 hown hK hP 18 rfl rfl 1 (by decide +kernel) (hts _ fl_X9_23) (fun _ h9 => h9) rfl dX9_firstSight_81 ?_
                refine lv_iload_n hx hb dX9_firstSight_84 rfl (lv_at hl 6 rfl) ?_
                refine lv_iload hx hb dX9_firstSight_85 (lv_at hl 2 rfl) ?_
                refine W.eq (g2 := F0 m 87 ls [.int m_i, .int p_b, .ref a_k]) rfl ?_
                refine lv_iload hx hb dX9_firstSight_87 (lv_at hl 4 rfl) ?_
                obtain ⟨hPc, hDc, hFc⟩ := g5_sub3 (wc := [(a_k, (oc5 a_h a_j a_pt m_ln m_se m_lh m_br m_we m_me m_ce m_wy m_ho m_ov)), (a_h, (oc1 e_wa e_le e_st e_fo e_lc a_l a_g a_b a_s a_p a_w e_gb a_bb)), (a_g, (oc6 6 5 a_gn e_g)), (a_gn, (arI G 30 f_g)), (a_b, (oc6 5 24 a_bn e_b)), (a_bn, (arI G 120 f_b)), (a_p, (oc6 8 5 a_pn e_p)), (a_pn, (arI G 40 f_p)), (a_bb, (arJ G 24 f_bb)), (a_j, (oc2 a_as a_sk)), (a_as, (arI G 8 m_as)), (a_sk, (arJ G 50 m_sk)), (a_l, (arW G 6 f_l)), (a_lo, (oc3 e_cl a_hd a_sr a_cd)), (a_sr, (arI G n_sr f_sr)), (a_cd, (arI G n_cd f_cd)), (a_hd, (arI G n_hd f_hd)), (a_pt, (arI G 200 m_pt))]) hP hD hS hA [0, 17, 1, 2, 19, 20, 3, 4, 5, 6, 7, 8, 9, 10, 11, 12, 13, 14] (by decide +kernel) rfl
                refine va_calli (va_runV (As := [.int p_b, .int m_i, .int k_h]) (rest := []) ⟨hx, hb, hml, hown, hts⟩ (s_findsBodyL l G a_k a_h a_g a_gn a_b a_bn a_p a_pn a_bb a_j a_as a_sk a_l a_lo a_sr a_cd a_hd a_pt a_s a_w H.size e_le e_st e_fo e_lc e_g e_b e_p e_cl m_ln m_se m_lh m_br m_we m_me m_ce m_wy m_ho m_ov m_i k_h p_b e_wa e_gb f_g f_b f_p f_bb m_as m_sk f_l f_sr f_cd f_hd m_pt n_sr n_cd n_hd h_e_g h_e_b h_e_p h_e_cl i_69 (e_gk) (e_pk) (e_gi) (e_f) (e_a) (e_hn) (e_hs) (e_hk) (e_c)) (cwV 3 hts gV_X9_47 rfl rfl rfl hv_X5_findsBody ⟨Nat.le_of_ble_eq_true rfl, Nat.le_of_ble_eq_true rfl⟩) (g5_preV hPc hK hDc hN hT hS hFc (ci := 5) (q0 := 0) rfl rfl) rfl rfl hl.1 rfl (lv_room (Nat.le_of_ble_eq_true rfl)) dX9_firstSight_89 ⟨Nat.le_of_ble_eq_true rfl, Nat.le_of_ble_eq_true rfl⟩) hS (fun q _ h => hFc q h) hFc (fun r u t H locs ht hvm hw hB hz1 hk1 hS => ?_)
                obtain ⟨hP1, hD1⟩ := hB
                have hP1 := g5_ht ht hP1
                obtain ⟨z93, z94, z95, z96, z97, z98, z99, z100, z101, z102, z103, z104, z105, z106, (i_91 : 0 ≤ z93.toInt ∧ z93.toInt ≤ 1), (i_92 : 0 ≤ z103.toInt ∧ z103.toInt ≤ 1), y107, rfl⟩ := hw
                have hJ9 := va_join (wr := [(a_go, (arJ G 24 k_go)), (a_mt, (arI G 1536 m_mt)), (a_wk, (oc9 a_h a_k a_go a_mt))]) hP hD [0, 17, 1, 2, 19, 20, 3, 4, 5, 6, 7, 8, 9, 10, 11, 12, 13, 14] [15, 16, 18] rfl rfl (by decide +kernel) (by decide +kernel) hk1 hFc hP1 hD1
                clear hP hD hPc hDc hFc ht hvm hz1 hk1 hP1 hD1
                obtain ⟨hP, hD⟩ := hJ9
                refine g5_rs [(a_go, (arJ G 24 k_go)), (a_mt, (arI G 1536 m_mt)), (a_wk, (oc9 a_h a_k a_go a_mt)), (a_k, (oc5 a_h a_j a_pt z94 z95 z96 z97 z98 z99 z100 z101 z102 z103)), (a_h, (oc1 e_wa e_le e_st e_fo e_lc a_l a_g a_b a_s a_p a_w e_gb a_bb)), (a_g, (oc6 6 5 a_gn e_g)), (a_gn, (arI G 30 f_g)), (a_b, (oc6 5 24 a_bn e_b)), (a_bn, (arI G 120 f_b)), (a_p, (oc6 8 5 a_pn e_p)), (a_pn, (arI G 40 f_p)), (a_bb, (arJ G 24 f_bb)), (a_j, (oc2 a_as a_sk)), (a_as, (arI G 8 z105)), (a_sk, (arJ G 50 z106)), (a_l, (arW G 6 f_l)), (a_lo, (oc3 e_cl a_hd a_sr a_cd)), (a_sr, (arI G n_sr f_sr)), (a_cd, (arI G n_cd f_cd)), (a_hd, (arI G n_hd f_hd)), (a_pt, (arI G 200 z104))] hP hD ?_
                clear hP hD
                intro hP hD
                refine g5_ti (v := z93) y107 ?_
                refine lv_if_eq (tgt := 99) hx hb dX9_firstSight_92 (by decide +kernel) (fun c_108 => ?_) (fun c_108 => ?_)
                ·
                  have i_108 : z93.toInt = 0 := g5_eq (a := z93.toInt) (b := 0) rfl (by decide +kernel) c_108
                  refine lv_iconst (v := 0) hx hb dX9_firstSight_99 (by decide +kernel) ?_
                  refine lv_istore (lv' := [(12, .int 0), (7, .int m_t), (9, .long m_x), (11, .int m_i), (5, .long k_x), (8, .int k_h), (0, .ref a_wk), (1, .int p_b), (2, .int p_c), (3, .int p_f), (4, .int p_e)]) hx hb dX9_firstSight_100 hl (by decide +kernel) rfl ?_
                  clear hl
                  intro ls hl
                  refine lv_lload hx hb dX9_firstSight_102 (lv_at hl 2 rfl) ?_
                  refine lv_iload hx hb dX9_firstSight_104 (lv_at hl 0 rfl) ?_
                  refine W.eq (g2 := F0 m 106 ls [.int 0, .long m_x]) rfl ?_
                  refine lv_if_eq (tgt := 116) hx hb dX9_firstSight_106 (by decide +kernel) (fun c_109 => ?_) (fun c_109 => ?_)
                  ·
                    refine lv_lconst (v := 0) hx hb dX9_firstSight_116 (by decide +kernel) ?_
                    refine lv_lor hx hb dX9_firstSight_117 ?_
                    refine g5_tl (v := m_x) (by simp) ?_
                    refine lv_lstore (lv' := [(9, .long m_x), (12, .int 0), (7, .int m_t), (11, .int m_i), (5, .long k_x), (8, .int k_h), (0, .ref a_wk), (1, .int p_b), (2, .int p_c), (3, .int p_f), (4, .int p_e)]) hx hb dX9_firstSight_118 hl (by decide +kernel) rfl ?_
                    clear hl
                    intro ls hl
                    refine lv_aload_n hx hb dX9_firstSight_120 rfl (lv_at hl 6 rfl) ?_
                    refine W.eq (g2 := F0 m 121 ls [.ref a_wk]) rfl ?_
                    refine va_get (D := G.1) (ci := 9) (v := .ref a_mt) (C := RX9) (T := TX9) (N := 4) hx hb hts inG_X9 hown hK hP 2 rfl rfl 3 (by decide +kernel) (hts _ fl_X9_15) (fun _ h9 => h9) rfl dX9_firstSight_121 ?_
                    refine lv_iload hx hb dX9_firstSight_124 (lv_at hl 5 rfl) ?_
                    refine lv_bipush (v := 64) hx hb dX9_firstSight_126 (by decide +kernel) ?_
                    refine lv_imul hx hb dX9_firstSight_128 ?_
                    have t_110 : (k_h * 64).toInt = k_h.toInt * 64 := g5_imul (a := k_h.toInt) (b := 64) (by rfl) (by decide +kernel) (by omega) (by omega)
                    refine lv_iload hx hb dX9_firstSight_129 (lv_at hl 3 rfl) ?_
                    refine W.eq (g2 := F0 m 131 ls [.int m_i, .int (k_h * 64), .ref a_mt]) rfl ?_
                    refine lv_iadd hx hb dX9_firstSight_131 ?_
                    have t_111 : ((k_h * 64) + m_i).toInt = (k_h * 64).toInt + m_i.toInt := g5_iadd (a := (k_h * 64).toInt) (b := m_i.toInt) (by rfl) (by rfl) (by omega) (by omega)
                    refine lv_iload hx hb dX9_firstSight_132 (lv_at hl 2 rfl) ?_
                    refine lv_if_eq (tgt := 147) hx hb dX9_firstSight_134 (by decide +kernel) (fun c_112 => ?_) (fun c_112 => ?_)
                    ·
                      have i_112 : m_t.toInt = 0 := g5_eq (a := m_t.toInt) (b := 0) rfl (by decide +kernel) c_112
                      omega
                    ·
                      have n_112 : gNe (m_t.toInt) (0) := g5_eqN (a := m_t.toInt) (b := 0) rfl (by decide +kernel) c_112
                      refine lv_aload_n hx hb dX9_firstSight_137 rfl (lv_at hl 6 rfl) ?_
                      refine va_get (D := G.1) (ci := 9) (v := .ref a_k) (C := RX9) (T := TX9) (N := 4) hx hb hts inG_X9 hown hK hP 2 rfl rfl 1 (by decide +kernel) (hts _ fl_X9_23) (fun _ h9 => h9) rfl dX9_firstSight_138 ?_
                      refine va_get (D := G.1) (ci := 5) (v := .int z99) (C := RX5) (T := TX5) (N := 13) hx hb hts inG_X5 hown hK hP 3 rfl rfl 8 (by decide +kernel) (hts _ fl_X9_53) (fun _ h9 => h9) rfl dX9_firstSight_141 ?_
                      refine lv_goto (tgt := 148) hx hb dX9_firstSight_144 (by decide +kernel) ?_
                      refine W.eq (g2 := F0 m 148 ls [.int z99, .int ((k_h * 64) + m_i), .ref a_mt]) rfl ?_
                      refine va_iast hx hb hK hP hD hS 1 0 rfl rfl (i := ((k_h * 64) + m_i)) (x := z99) (vp_in_iff.mpr ⟨by omega, by omega⟩) dX9_firstSight_148 ?_
                      clear hP hD hS
                      intro H locs hP hD hS
                      refine g5_rs [(a_go, (arJ G 24 k_go)), (a_mt, (arI G 1536 (upd m_mt ((k_h * 64) + m_i).toNatClampNeg z99))), (a_wk, (oc9 a_h a_k a_go a_mt)), (a_k, (oc5 a_h a_j a_pt z94 z95 z96 z97 z98 z99 z100 z101 z102 z103)), (a_h, (oc1 e_wa e_le e_st e_fo e_lc a_l a_g a_b a_s a_p a_w e_gb a_bb)), (a_g, (oc6 6 5 a_gn e_g)), (a_gn, (arI G 30 f_g)), (a_b, (oc6 5 24 a_bn e_b)), (a_bn, (arI G 120 f_b)), (a_p, (oc6 8 5 a_pn e_p)), (a_pn, (arI G 40 f_p)), (a_bb, (arJ G 24 f_bb)), (a_j, (oc2 a_as a_sk)), (a_as, (arI G 8 z105)), (a_sk, (arJ G 50 z106)), (a_l, (arW G 6 f_l)), (a_lo, (oc3 e_cl a_hd a_sr a_cd)), (a_sr, (arI G n_sr f_sr)), (a_cd, (arI G n_cd f_cd)), (a_hd, (arI G n_hd f_hd)), (a_pt, (arI G 200 z104))] hP hD ?_
                      clear hP hD
                      intro hP hD
                      refine lv_iinc (v := (m_i + 1)) (lv' := [(11, .int (m_i + 1)), (9, .long m_x), (12, .int 0), (7, .int m_t), (5, .long k_x), (8, .int k_h), (0, .ref a_wk), (1, .int p_b), (2, .int p_c), (3, .int p_f), (4, .int p_e)]) hx hb dX9_firstSight_149 hl (k := 3) rfl rfl (by decide +kernel) rfl ?_
                      clear hl
                      intro ls hl
                      have t_113 : (m_i + 1).toInt = m_i.toInt + 1 := g5_iadd (a := m_i.toInt) (b := 1) rfl (by decide +kernel) (by omega) (by omega)
                      refine lv_goto (tgt := 58) hx hb dX9_firstSight_152 (by decide +kernel) ?_
                      exact ih_58_70 (m_x, m_t, (m_i + 1), z95, z96, z97, z98, z99, z100, z101, z102, z103, z104, z105, z106, z94, (upd m_mt ((k_h * 64) + m_i).toNatClampNeg z99)) ls H locs (show Int.toNat (64 - (m_i + 1).toInt) < Int.toNat (64 - m_i.toInt) from g_up (show m_i.toInt < (m_i + 1).toInt by omega) (show m_i.toInt < 64 by omega)) ⟨lv_sub hl [3, 1, 0, 4, 5, 6, 7, 8, 9, 10] rfl, hP.sub [3, 5, 6, 9, 10, 11, 12, 13, 14, 15, 16, 17, 18, 19, 20, 0, 1, 4, 2, 7, 8] rfl, hD.sub [3, 5, 6, 9, 10, 11, 12, 13, 14, 15, 16, 17, 18, 19, 20, 0, 1, 4, 2, 7, 8] (by decide +kernel) rfl, hS, i_67, ⟨by omega, by omega⟩, i_92⟩
                  ·
                    exact absurd c_109 (by decide +kernel)
                ·
                  have n_108 : gNe (z93.toInt) (0) := g5_eqN (a := z93.toInt) (b := 0) rfl (by decide +kernel) c_108
                  have i_108 : z93.toInt ≥ 1 := by have z := g5_eqN (a := z93.toInt) (b := 0) (by rfl) (by decide +kernel) c_108; omega
                  refine lv_iconst (v := 1) hx hb dX9_firstSight_95 (by decide +kernel) ?_
                  refine lv_goto (tgt := 100) hx hb dX9_firstSight_96 (by decide +kernel) ?_
                  refine lv_istore (lv' := [(12, .int 1), (7, .int m_t), (9, .long m_x), (11, .int m_i), (5, .long k_x), (8, .int k_h), (0, .ref a_wk), (1, .int p_b), (2, .int p_c), (3, .int p_f), (4, .int p_e)]) hx hb dX9_firstSight_100 hl (by decide +kernel) rfl ?_
                  clear hl
                  intro ls hl
                  refine lv_lload hx hb dX9_firstSight_102 (lv_at hl 2 rfl) ?_
                  refine W.eq (g2 := F0 m 104 ls [.long m_x]) rfl ?_
                  refine lv_iload hx hb dX9_firstSight_104 (lv_at hl 0 rfl) ?_
                  refine lv_if_eq (tgt := 116) hx hb dX9_firstSight_106 (by decide +kernel) (fun c_114 => ?_) (fun c_114 => ?_)
                  ·
                    exact absurd c_114 (by decide +kernel)
                  ·
                    refine lv_lconst (v := 1) hx hb dX9_firstSight_109 (by decide +kernel) ?_
                    refine lv_iload hx hb dX9_firstSight_110 (lv_at hl 3 rfl) ?_
                    refine lv_lshl (v := ((1 : Int64) <<< (m_i.toInt64 &&& 63))) hx hb dX9_firstSight_112 rfl ?_
                    refine lv_goto (tgt := 117) hx hb dX9_firstSight_113 (by decide +kernel) ?_
                    refine W.eq (g2 := F0 m 117 ls [.long ((1 : Int64) <<< (m_i.toInt64 &&& 63)), .long m_x]) rfl ?_
                    refine lv_lor hx hb dX9_firstSight_117 ?_
                    refine lv_lstore (lv' := [(9, .long (m_x ||| ((1 : Int64) <<< (m_i.toInt64 &&& 63)))), (12, .int 1), (7, .int m_t), (11, .int m_i), (5, .long k_x), (8, .int k_h), (0, .ref a_wk), (1, .int p_b), (2, .int p_c), (3, .int p_f), (4, .int p_e)]) hx hb dX9_firstSight_118 hl (by decide +kernel) rfl ?_
                    clear hl
                    intro ls hl
                    refine lv_aload_n hx hb dX9_firstSight_120 rfl (lv_at hl 6 rfl) ?_
                    refine va_get (D := G.1) (ci := 9) (v := .ref a_mt) (C := RX9) (T := TX9) (N := 4) hx hb hts inG_X9 hown hK hP 2 rfl rfl 3 (by decide +kernel) (hts _ fl_X9_15) (fun _ h9 => h9) rfl dX9_firstSight_121 ?_
                    refine lv_iload hx hb dX9_firstSight_124 (lv_at hl 5 rfl) ?_
                    refine W.eq (g2 := F0 m 126 ls [.int k_h, .ref a_mt]) rfl ?_
                    refine lv_bipush (v := 64) hx hb dX9_firstSight_126 (by decide +kernel) ?_
                    refine lv_imul hx hb dX9_firstSight_128 ?_
                    have t_115 : (k_h * 64).toInt = k_h.toInt * 64 := g5_imul (a := k_h.toInt) (b := 64) (by rfl) (by decide +kernel) (by omega) (by omega)
                    refine lv_iload hx hb dX9_firstSight_129 (lv_at hl 3 rfl) ?_
                    refine lv_iadd hx hb dX9_firstSight_131 ?_
                    have t_116 : ((k_h * 64) + m_i).toInt = (k_h * 64).toInt + m_i.toInt := g5_iadd (a := (k_h * 64).toInt) (b := m_i.toInt) (by rfl) (by rfl) (by omega) (by omega)
                    refine lv_iload hx hb dX9_firstSight_132 (lv_at hl 2 rfl) ?_
                    refine W.eq (g2 := F0 m 134 ls [.int m_t, .int ((k_h * 64) + m_i), .ref a_mt]) rfl ?_
                    refine lv_if_eq (tgt := 147) hx hb dX9_firstSight_134 (by decide +kernel) (fun c_117 => ?_) (fun c_117 => ?_)
                    ·
                      have i_117 : m_t.toInt = 0 := g5_eq (a := m_t.toInt) (b := 0) rfl (by decide +kernel) c_117
                      omega
                    ·
                      have n_117 : gNe (m_t.toInt) (0) := g5_eqN (a := m_t.toInt) (b := 0) rfl (by decide +kernel) c_117
                      refine lv_aload_n hx hb dX9_firstSight_137 rfl (lv_at hl 6 rfl) ?_
                      refine va_get (D := G.1) (ci := 9) (v := .ref a_k) (C := RX9) (T := TX9) (N := 4) hx hb hts inG_X9 hown hK hP 2 rfl rfl 1 (by decide +kernel) (hts _ fl_X9_23) (fun _ h9 => h9) rfl dX9_firstSight_138 ?_
                      refine va_get (D := G.1) (ci := 5) (v := .int z99) (C := RX5) (T := TX5) (N := 13) hx hb hts inG_X5 hown hK hP 3 rfl rfl 8 (by decide +kernel) (hts _ fl_X9_53) (fun _ h9 => h9) rfl dX9_firstSight_141 ?_
                      refine lv_goto (tgt := 148) hx hb dX9_firstSight_144 (by decide +kernel) ?_
                      refine W.eq (g2 := F0 m 148 ls [.int z99, .int ((k_h * 64) + m_i), .ref a_mt]) rfl ?_
                      refine va_iast hx hb hK hP hD hS 1 0 rfl rfl (i := ((k_h * 64) + m_i)) (x := z99) (vp_in_iff.mpr ⟨by omega, by omega⟩) dX9_firstSight_148 ?_
                      clear hP hD hS
                      intro H locs hP hD hS
                      refine g5_rs [(a_go, (arJ G 24 k_go)), (a_mt, (arI G 1536 (upd m_mt ((k_h * 64) + m_i).toNatClampNeg z99))), (a_wk, (oc9 a_h a_k a_go a_mt)), (a_k, (oc5 a_h a_j a_pt z94 z95 z96 z97 z98 z99 z100 z101 z102 z103)), (a_h, (oc1 e_wa e_le e_st e_fo e_lc a_l a_g a_b a_s a_p a_w e_gb a_bb)), (a_g, (oc6 6 5 a_gn e_g)), (a_gn, (arI G 30 f_g)), (a_b, (oc6 5 24 a_bn e_b)), (a_bn, (arI G 120 f_b)), (a_p, (oc6 8 5 a_pn e_p)), (a_pn, (arI G 40 f_p)), (a_bb, (arJ G 24 f_bb)), (a_j, (oc2 a_as a_sk)), (a_as, (arI G 8 z105)), (a_sk, (arJ G 50 z106)), (a_l, (arW G 6 f_l)), (a_lo, (oc3 e_cl a_hd a_sr a_cd)), (a_sr, (arI G n_sr f_sr)), (a_cd, (arI G n_cd f_cd)), (a_hd, (arI G n_hd f_hd)), (a_pt, (arI G 200 z104))] hP hD ?_
                      clear hP hD
                      intro hP hD
                      refine lv_iinc (v := (m_i + 1)) (lv' := [(11, .int (m_i + 1)), (9, .long (m_x ||| ((1 : Int64) <<< (m_i.toInt64 &&& 63)))), (12, .int 1), (7, .int m_t), (5, .long k_x), (8, .int k_h), (0, .ref a_wk), (1, .int p_b), (2, .int p_c), (3, .int p_f), (4, .int p_e)]) hx hb dX9_firstSight_149 hl (k := 3) rfl rfl (by decide +kernel) rfl ?_
                      clear hl
                      intro ls hl
                      have t_118 : (m_i + 1).toInt = m_i.toInt + 1 := g5_iadd (a := m_i.toInt) (b := 1) rfl (by decide +kernel) (by omega) (by omega)
                      refine lv_goto (tgt := 58) hx hb dX9_firstSight_152 (by decide +kernel) ?_
                      exact ih_58_70 ((m_x ||| ((1 : Int64) <<< (m_i.toInt64 &&& 63))), m_t, (m_i + 1), z95, z96, z97, z98, z99, z100, z101, z102, z103, z104, z105, z106, z94, (upd m_mt ((k_h * 64) + m_i).toNatClampNeg z99)) ls H locs (show Int.toNat (64 - (m_i + 1).toInt) < Int.toNat (64 - m_i.toInt) from g_up (show m_i.toInt < (m_i + 1).toInt by omega) (show m_i.toInt < 64 by omega)) ⟨lv_sub hl [3, 1, 0, 4, 5, 6, 7, 8, 9, 10] rfl, hP.sub [3, 5, 6, 9, 10, 11, 12, 13, 14, 15, 16, 17, 18, 19, 20, 0, 1, 4, 2, 7, 8] rfl, hD.sub [3, 5, 6, 9, 10, 11, 12, 13, 14, 15, 16, 17, 18, 19, 20, 0, 1, 4, 2, 7, 8] (by decide +kernel) rfl, hS, i_67, ⟨by omega, by omega⟩, i_92⟩
      ·
        have n_66 : gNe (z64.toInt) ((-1)) := g5_eqN (a := z64.toInt) (b := (-1)) rfl (by decide +kernel) c_66
        refine lv_iconst (v := 1) hx hb dX9_firstSight_45 (by decide +kernel) ?_
        refine lv_goto (tgt := 50) hx hb dX9_firstSight_46 (by decide +kernel) ?_
        refine lv_istore (lv' := [(7, .int 1), (5, .long k_x), (8, .int k_h), (0, .ref a_wk), (1, .int p_b), (2, .int p_c), (3, .int p_f), (4, .int p_e)]) hx hb dX9_firstSight_50 hl (by decide +kernel) rfl ?_
        clear hl
        intro ls hl
        refine lv_lconst (v := 0) hx hb dX9_firstSight_52 (by decide +kernel) ?_
        refine W.eq (g2 := F0 m 53 ls [.long 0]) rfl ?_
        refine lv_lstore (lv' := [(9, .long 0), (7, .int 1), (5, .long k_x), (8, .int k_h), (0, .ref a_wk), (1, .int p_b), (2, .int p_c), (3, .int p_f), (4, .int p_e)]) hx hb dX9_firstSight_53 hl (by decide +kernel) rfl ?_
        clear hl
        intro ls hl
        refine lv_iconst (v := 0) hx hb dX9_firstSight_55 (by decide +kernel) ?_
        refine lv_istore (lv' := [(11, .int 0), (9, .long 0), (7, .int 1), (5, .long k_x), (8, .int k_h), (0, .ref a_wk), (1, .int p_b), (2, .int p_c), (3, .int p_f), (4, .int p_e)]) hx hb dX9_firstSight_56 hl (by decide +kernel) rfl ?_
        clear hl
        intro ls hl
        refine g5_loop (α := (Int64) × (Int32) × (Int32) × (Int32) × (Int32) × (Int32) × (Int32) × (Int32) × (Int32) × (Int32) × (Int32) × (Int32) × (Nat → Int32) × (Nat → Int32) × (Nat → Int64) × (Int32) × (Nat → Int32)) (fun (q : (Int64) × (Int32) × (Int32) × (Int32) × (Int32) × (Int32) × (Int32) × (Int32) × (Int32) × (Int32) × (Int32) × (Int32) × (Nat → Int32) × (Nat → Int32) × (Nat → Int64) × (Int32) × (Nat → Int32)) (ls : Array Slot) (H : Heap) (locs : List Loc) => match q with | (m_x, m_t, m_i, m_se, m_lh, m_br, m_we, m_me, m_ce, m_wy, m_ho, m_ov, m_pt, m_as, m_sk, m_ln, m_mt) => lv_has ls 13 [(7, .int m_t), (9, .long m_x), (11, .int m_i), (5, .long k_x), (8, .int k_h), (0, .ref a_wk), (1, .int p_b), (2, .int p_c), (3, .int p_f), (4, .int p_e)] ∧ va_P G.1 vwCl [(a_k, (oc5 a_h a_j a_pt m_ln m_se m_lh m_br m_we m_me m_ce m_wy m_ho m_ov)), (a_g, (oc6 6 5 a_gn e_g)), (a_gn, (arI G 30 f_g)), (a_p, (oc6 8 5 a_pn e_p)), (a_pn, (arI G 40 f_p)), (a_bb, (arJ G 24 f_bb)), (a_j, (oc2 a_as a_sk)), (a_as, (arI G 8 m_as)), (a_sk, (arJ G 50 m_sk)), (a_l, (arW G 6 f_l)), (a_lo, (oc3 e_cl a_hd a_sr a_cd)), (a_sr, (arI G n_sr f_sr)), (a_cd, (arI G n_cd f_cd)), (a_hd, (arI G n_hd f_hd)), (a_pt, (arI G 200 m_pt)), (a_go, (arJ G 24 k_go)), (a_mt, (arI G 1536 m_mt)), (a_h, (oc1 e_wa e_le e_st e_fo e_lc a_l a_g a_b a_s a_p a_w e_gb a_bb)), (a_wk, (oc9 a_h a_k a_go a_mt)), (a_b, (oc6 5 24 a_bn e_b)), (a_bn, (arI G 120 f_b))] H ∧ va_D A [(a_k, (oc5 a_h a_j a_pt m_ln m_se m_lh m_br m_we m_me m_ce m_wy m_ho m_ov)), (a_g, (oc6 6 5 a_gn e_g)), (a_gn, (arI G 30 f_g)), (a_p, (oc6 8 5 a_pn e_p)), (a_pn, (arI G 40 f_p)), (a_bb, (arJ G 24 f_bb)), (a_j, (oc2 a_as a_sk)), (a_as, (arI G 8 m_as)), (a_sk, (arJ G 50 m_sk)), (a_l, (arW G 6 f_l)), (a_lo, (oc3 e_cl a_hd a_sr a_cd)), (a_sr, (arI G n_sr f_sr)), (a_cd, (arI G n_cd f_cd)), (a_hd, (arI G n_hd f_hd)), (a_pt, (arI G 200 m_pt)), (a_go, (arJ G 24 k_go)), (a_mt, (arI G 1536 m_mt)), (a_h, (oc1 e_wa e_le e_st e_fo e_lc a_l a_g a_b a_s a_p a_w e_gb a_bb)), (a_wk, (oc9 a_h a_k a_go a_mt)), (a_b, (oc6 5 24 a_bn e_b)), (a_bn, (arI G 120 f_b))] ∧ va_S A s.heap H locs ∧ (0 ≤ m_t.toInt ∧ m_t.toInt ≤ 1) ∧ (0 ≤ m_i.toInt ∧ m_i.toInt ≤ 64) ∧ (0 ≤ m_ov.toInt ∧ m_ov.toInt ≤ 1)) (fun (q : (Int64) × (Int32) × (Int32) × (Int32) × (Int32) × (Int32) × (Int32) × (Int32) × (Int32) × (Int32) × (Int32) × (Int32) × (Nat → Int32) × (Nat → Int32) × (Nat → Int64) × (Int32) × (Nat → Int32)) => match q with | (m_x, m_t, m_i, m_se, m_lh, m_br, m_we, m_me, m_ce, m_wy, m_ho, m_ov, m_pt, m_as, m_sk, m_ln, m_mt) => Int.toNat (64 - m_i.toInt)) (0, 1, 0, k_se, k_lh, k_br, k_we, k_me, k_ce, k_wy, k_ho, k_ov, k_pt, k_as, k_sk, k_ln, k_mt) ⟨lv_sub hl [2, 1, 0, 3, 4, 5, 6, 7, 8, 9] rfl, hP, hD, hS, ⟨by decide, by decide⟩, ⟨by decide, by decide⟩, i_6⟩ ?_
        rintro ⟨m_x, m_t, m_i, m_se, m_lh, m_br, m_we, m_me, m_ce, m_wy, m_ho, m_ov, m_pt, m_as, m_sk, m_ln, m_mt⟩ ls H locs ⟨hl, hP, hD, hS, (i_119 : 0 ≤ m_t.toInt ∧ m_t.toInt ≤ 1), (i_120 : 0 ≤ m_i.toInt ∧ m_i.toInt ≤ 64), (i_121 : 0 ≤ m_ov.toInt ∧ m_ov.toInt ≤ 1)⟩ ih_58_122
        replace hl : lv_has ls 13 [(7, .int m_t), (9, .long m_x), (11, .int m_i), (5, .long k_x), (8, .int k_h), (0, .ref a_wk), (1, .int p_b), (2, .int p_c), (3, .int p_f), (4, .int p_e)] := hl
        refine g5_rs [(a_k, (oc5 a_h a_j a_pt m_ln m_se m_lh m_br m_we m_me m_ce m_wy m_ho m_ov)), (a_g, (oc6 6 5 a_gn e_g)), (a_gn, (arI G 30 f_g)), (a_p, (oc6 8 5 a_pn e_p)), (a_pn, (arI G 40 f_p)), (a_bb, (arJ G 24 f_bb)), (a_j, (oc2 a_as a_sk)), (a_as, (arI G 8 m_as)), (a_sk, (arJ G 50 m_sk)), (a_l, (arW G 6 f_l)), (a_lo, (oc3 e_cl a_hd a_sr a_cd)), (a_sr, (arI G n_sr f_sr)), (a_cd, (arI G n_cd f_cd)), (a_hd, (arI G n_hd f_hd)), (a_pt, (arI G 200 m_pt)), (a_go, (arJ G 24 k_go)), (a_mt, (arI G 1536 m_mt)), (a_h, (oc1 e_wa e_le e_st e_fo e_lc a_l a_g a_b a_s a_p a_w e_gb a_bb)), (a_wk, (oc9 a_h a_k a_go a_mt)), (a_b, (oc6 5 24 a_bn e_b)), (a_bn, (arI G 120 f_b))] hP hD ?_
        clear hP hD
        intro hP hD
        refine lv_iload hx hb dX9_firstSight_58 (lv_at hl 2 rfl) ?_
        refine lv_bipush (v := 64) hx hb dX9_firstSight_60 (by decide +kernel) ?_
        refine lv_icmp_ge (tgt := 155) hx hb dX9_firstSight_62 (by decide +kernel) (fun c_123 => ?_) (fun c_123 => ?_)
        ·
          have i_123 : m_i.toInt ≥ 64 := g5_ge (a := m_i.toInt) (b := 64) rfl (by decide +kernel) c_123
          refine lv_aload_n hx hb dX9_firstSight_155 rfl (lv_at hl 5 rfl) ?_
          refine va_get (D := G.1) (ci := 9) (v := .ref a_go) (C := RX9) (T := TX9) (N := 4) hx hb hts inG_X9 hown hK hP 18 rfl rfl 2 (by decide +kernel) (hts _ fl_X9_9) (fun _ h9 => h9) rfl dX9_firstSight_156 ?_
          refine lv_iload hx hb dX9_firstSight_159 (lv_at hl 4 rfl) ?_
          refine lv_lload hx hb dX9_firstSight_161 (lv_at hl 1 rfl) ?_
          refine W.eq (g2 := F0 m 163 ls [.long m_x, .int k_h, .ref a_go]) rfl ?_
          refine va_last hx hb hK hP hD hS 15 1 rfl rfl (i := k_h) (x := m_x) (vp_in_iff.mpr ⟨by omega, by omega⟩) dX9_firstSight_163 ?_
          clear hP hD hS
          intro H locs hP hD hS
          refine g5_rs [(a_k, (oc5 a_h a_j a_pt m_ln m_se m_lh m_br m_we m_me m_ce m_wy m_ho m_ov)), (a_g, (oc6 6 5 a_gn e_g)), (a_gn, (arI G 30 f_g)), (a_p, (oc6 8 5 a_pn e_p)), (a_pn, (arI G 40 f_p)), (a_bb, (arJ G 24 f_bb)), (a_j, (oc2 a_as a_sk)), (a_as, (arI G 8 m_as)), (a_sk, (arJ G 50 m_sk)), (a_l, (arW G 6 f_l)), (a_lo, (oc3 e_cl a_hd a_sr a_cd)), (a_sr, (arI G n_sr f_sr)), (a_cd, (arI G n_cd f_cd)), (a_hd, (arI G n_hd f_hd)), (a_pt, (arI G 200 m_pt)), (a_go, (arJ G 24 (vp_updL k_go k_h.toNatClampNeg m_x))), (a_mt, (arI G 1536 m_mt)), (a_h, (oc1 e_wa e_le e_st e_fo e_lc a_l a_g a_b a_s a_p a_w e_gb a_bb)), (a_wk, (oc9 a_h a_k a_go a_mt)), (a_b, (oc6 5 24 a_bn e_b)), (a_bn, (arI G 120 f_b))] hP hD ?_
          clear hP hD
          intro hP hD
          refine lv_lload hx hb dX9_firstSight_164 (lv_at hl 1 rfl) ?_
          refine lv_lconst (v := 0) hx hb dX9_firstSight_166 (by decide +kernel) ?_
          refine W.lcmp hx hb dX9_firstSight_167 ?_
          refine lv_if_eq (tgt := 174) hx hb dX9_firstSight_168 (by decide +kernel) (fun c_124 => ?_) (fun c_124 => ?_)
          ·
            have i_124 : (lg_cmp m_x 0).toInt = 0 := g5_eq (a := (lg_cmp m_x 0).toInt) (b := 0) rfl (by decide +kernel) c_124
            refine lv_aload_n hx hb dX9_firstSight_174 rfl (lv_at hl 5 rfl) ?_
            refine lv_lload hx hb dX9_firstSight_175 (lv_at hl 3 rfl) ?_
            obtain ⟨hPc, hDc, hFc⟩ := g5_sub3 (wc := [(a_h, (oc1 e_wa e_le e_st e_fo e_lc a_l a_g a_b a_s a_p a_w e_gb a_bb)), (a_wk, (oc9 a_h a_k a_go a_mt))]) hP hD hS hA [17, 18] (by decide +kernel) rfl
            refine va_calll (va_runV (As := [.long k_x]) (rest := []) ⟨hx, hb, hml, hown, hts⟩ (a_spread l G a_h a_wk a_l a_g a_b a_s a_p a_w a_bb a_k a_go a_mt H.size e_le e_st e_fo e_lc e_wa e_gb k_x) (cwV 1 hts gV_X9_56 rfl rfl rfl hv_X9_spread ⟨Nat.le_of_ble_eq_true rfl, Nat.le_of_ble_eq_true rfl⟩) (g5_preV hPc hK hDc hN hT hS hFc (ci := 9) (q0 := 1) rfl rfl) rfl rfl hl.1 rfl (lv_room (Nat.le_of_ble_eq_true rfl)) dX9_firstSight_177 ⟨Nat.le_of_ble_eq_true rfl, Nat.le_of_ble_eq_true rfl⟩) hS (fun q _ h => hFc q h) hFc (fun r u t H locs ht hvm hw hB hz1 hk1 hS => ?_)
            obtain ⟨hP1, hD1⟩ := hB
            have hP1 := g5_ht ht hP1
            obtain ⟨z125, y126, rfl⟩ := hw
            have hJ9 := va_join (wr := [(a_k, (oc5 a_h a_j a_pt m_ln m_se m_lh m_br m_we m_me m_ce m_wy m_ho m_ov)), (a_g, (oc6 6 5 a_gn e_g)), (a_gn, (arI G 30 f_g)), (a_p, (oc6 8 5 a_pn e_p)), (a_pn, (arI G 40 f_p)), (a_bb, (arJ G 24 f_bb)), (a_j, (oc2 a_as a_sk)), (a_as, (arI G 8 m_as)), (a_sk, (arJ G 50 m_sk)), (a_l, (arW G 6 f_l)), (a_lo, (oc3 e_cl a_hd a_sr a_cd)), (a_sr, (arI G n_sr f_sr)), (a_cd, (arI G n_cd f_cd)), (a_hd, (arI G n_hd f_hd)), (a_pt, (arI G 200 m_pt)), (a_go, (arJ G 24 (vp_updL k_go k_h.toNatClampNeg m_x))), (a_mt, (arI G 1536 m_mt)), (a_b, (oc6 5 24 a_bn e_b)), (a_bn, (arI G 120 f_b))]) hP hD [17, 18] [0, 1, 2, 3, 4, 5, 6, 7, 8, 9, 10, 11, 12, 13, 14, 15, 16, 19, 20] rfl rfl (by decide +kernel) (by decide +kernel) hk1 hFc hP1 hD1
            clear hP hD hPc hDc hFc ht hvm hz1 hk1 hP1 hD1
            obtain ⟨hP, hD⟩ := hJ9
            refine g5_rs [(a_k, (oc5 a_h a_j a_pt m_ln m_se m_lh m_br m_we m_me m_ce m_wy m_ho m_ov)), (a_g, (oc6 6 5 a_gn e_g)), (a_gn, (arI G 30 f_g)), (a_p, (oc6 8 5 a_pn e_p)), (a_pn, (arI G 40 f_p)), (a_bb, (arJ G 24 f_bb)), (a_j, (oc2 a_as a_sk)), (a_as, (arI G 8 m_as)), (a_sk, (arJ G 50 m_sk)), (a_l, (arW G 6 f_l)), (a_lo, (oc3 e_cl a_hd a_sr a_cd)), (a_sr, (arI G n_sr f_sr)), (a_cd, (arI G n_cd f_cd)), (a_hd, (arI G n_hd f_hd)), (a_pt, (arI G 200 m_pt)), (a_go, (arJ G 24 (vp_updL k_go k_h.toNatClampNeg m_x))), (a_mt, (arI G 1536 m_mt)), (a_b, (oc6 5 24 a_bn e_b)), (a_bn, (arI G 120 f_b)), (a_h, (oc1 e_wa e_le e_st e_fo e_lc a_l a_g a_b a_s a_p a_w e_gb a_bb)), (a_wk, (oc9 a_h a_k a_go a_mt))] hP hD ?_
            clear hP hD
            intro hP hD
            refine g5_tl (v := z125) y126 ?_
            refine lv_lstore (lv' := [(5, .long z125), (7, .int m_t), (9, .long m_x), (11, .int m_i), (8, .int k_h), (0, .ref a_wk), (1, .int p_b), (2, .int p_c), (3, .int p_f), (4, .int p_e)]) hx hb dX9_firstSight_180 hl (by decide +kernel) rfl ?_
            clear hl
            intro ls hl
            refine W.eq (g2 := F0 m 182 ls []) rfl ?_
            refine lv_iinc (v := (k_h + 1)) (lv' := [(8, .int (k_h + 1)), (5, .long z125), (7, .int m_t), (9, .long m_x), (11, .int m_i), (0, .ref a_wk), (1, .int p_b), (2, .int p_c), (3, .int p_f), (4, .int p_e)]) hx hb dX9_firstSight_182 hl (k := 4) rfl rfl (by decide +kernel) rfl ?_
            clear hl
            intro ls hl
            have t_127 : (k_h + 1).toInt = k_h.toInt + 1 := g5_iadd (a := k_h.toInt) (b := 1) rfl (by decide +kernel) (by omega) (by omega)
            refine lv_goto (tgt := 16) hx hb dX9_firstSight_185 (by decide +kernel) ?_
            exact ih_16_8 (z125, m_t, (k_h + 1), m_se, m_lh, m_br, m_we, m_me, m_ce, m_wy, m_ho, m_ov, m_pt, m_as, m_sk, m_ln, (vp_updL k_go k_h.toNatClampNeg m_x), m_mt) ls H locs (show Int.toNat (24 - (k_h + 1).toInt) < Int.toNat (24 - k_h.toInt) from g_up (show k_h.toInt < (k_h + 1).toInt by omega) (show k_h.toInt < 24 by omega)) ⟨lv_sub hl [1, 2, 0, 5, 6, 7, 8, 9] rfl, hP.sub [0, 1, 2, 3, 4, 5, 6, 7, 8, 9, 10, 11, 12, 13, 14, 15, 16, 19, 17, 18, 20] rfl, hD.sub [0, 1, 2, 3, 4, 5, 6, 7, 8, 9, 10, 11, 12, 13, 14, 15, 16, 19, 17, 18, 20] (by decide +kernel) rfl, hS, i_119, ⟨by omega, by omega⟩, i_121, by omega⟩
          ·
            have n_124 : gNe ((lg_cmp m_x 0).toInt) (0) := g5_eqN (a := (lg_cmp m_x 0).toInt) (b := 0) rfl (by decide +kernel) c_124
            refine lv_iload hx hb dX9_firstSight_171 (lv_at hl 4 rfl) ?_
            exact W.iret (v := k_h) hx hb hr (fun t ht hW => ⟨⟨k_h, [(a_k, (oc5 a_h a_j a_pt m_ln m_se m_lh m_br m_we m_me m_ce m_wy m_ho m_ov)), (a_h, (oc1 e_wa e_le e_st e_fo e_lc a_l a_g a_b a_s a_p a_w e_gb a_bb)), (a_g, (oc6 6 5 a_gn e_g)), (a_gn, (arI G 30 f_g)), (a_b, (oc6 5 24 a_bn e_b)), (a_bn, (arI G 120 f_b)), (a_p, (oc6 8 5 a_pn e_p)), (a_pn, (arI G 40 f_p)), (a_bb, (arJ G 24 f_bb)), (a_j, (oc2 a_as a_sk)), (a_as, (arI G 8 m_as)), (a_sk, (arJ G 50 m_sk)), (a_l, (arW G 6 f_l)), (a_lo, (oc3 e_cl a_hd a_sr a_cd)), (a_sr, (arI G n_sr f_sr)), (a_cd, (arI G n_cd f_cd)), (a_hd, (arI G n_hd f_hd)), (a_pt, (arI G 200 m_pt)), (a_wk, (oc9 a_h a_k a_go a_mt)), (a_go, (arJ G 24 (vp_updL k_go k_h.toNatClampNeg m_x))), (a_mt, (arI G 1536 m_mt))], rfl, ⟨k_h, m_ln, m_se, m_lh, m_br, m_we, m_me, m_ce, m_wy, m_ho, m_ov, m_pt, m_as, m_sk, (vp_updL k_go k_h.toNatClampNeg m_x), m_mt, i_121, ⟨by omega, by omega⟩, Or.inr ⟨by omega, by omega⟩, rfl, rfl⟩, by rw [ht]; exact hP.sub [0, 17, 1, 2, 19, 20, 3, 4, 5, 6, 7, 8, 9, 10, 11, 12, 13, 14, 18, 15, 16] rfl, hD.sub [0, 17, 1, 2, 19, 20, 3, 4, 5, 6, 7, 8, 9, 10, 11, 12, 13, 14, 18, 15, 16] (by decide +kernel) rfl⟩, hS.F ht⟩) hS.2.2 dX9_firstSight_173
        ·
          have i_123 : m_i.toInt < 64 := g5_geN (a := m_i.toInt) (b := 64) rfl (by decide +kernel) c_123
          refine lv_iload hx hb dX9_firstSight_65 (lv_at hl 0 rfl) ?_
          refine lv_if_eq (tgt := 99) hx hb dX9_firstSight_67 (by decide +kernel) (fun c_128 => ?_) (fun c_128 => ?_)
          ·
            have i_128 : m_t.toInt = 0 := g5_eq (a := m_t.toInt) (b := 0) rfl (by decide +kernel) c_128
            refine lv_iconst (v := 0) hx hb dX9_firstSight_99 (by decide +kernel) ?_
            refine lv_istore (lv' := [(12, .int 0), (7, .int m_t), (9, .long m_x), (11, .int m_i), (5, .long k_x), (8, .int k_h), (0, .ref a_wk), (1, .int p_b), (2, .int p_c), (3, .int p_f), (4, .int p_e)]) hx hb dX9_firstSight_100 hl (by decide +kernel) rfl ?_
            clear hl
            intro ls hl
            refine lv_lload hx hb dX9_firstSight_102 (lv_at hl 2 rfl) ?_
            refine lv_iload hx hb dX9_firstSight_104 (lv_at hl 0 rfl) ?_
            refine W.eq (g2 := F0 m 106 ls [.int 0, .long m_x]) rfl ?_
            refine lv_if_eq (tgt := 116) hx hb dX9_firstSight_106 (by decide +kernel) (fun c_129 => ?_) (fun c_129 => ?_)
            ·
              refine lv_lconst (v := 0) hx hb dX9_firstSight_116 (by decide +kernel) ?_
              refine lv_lor hx hb dX9_firstSight_117 ?_
              refine g5_tl (v := m_x) (by simp) ?_
              refine lv_lstore (lv' := [(9, .long m_x), (12, .int 0), (7, .int m_t), (11, .int m_i), (5, .long k_x), (8, .int k_h), (0, .ref a_wk), (1, .int p_b), (2, .int p_c), (3, .int p_f), (4, .int p_e)]) hx hb dX9_firstSight_118 hl (by decide +kernel) rfl ?_
              clear hl
              intro ls hl
              refine lv_aload_n hx hb dX9_firstSight_120 rfl (lv_at hl 6 rfl) ?_
              refine W.eq (g2 := F0 m 121 ls [.ref a_wk]) rfl ?_
              refine va_get (D := G.1) (ci := 9) (v := .ref a_mt) (C := RX9) (T := TX9) (N := 4) hx hb hts inG_X9 hown hK hP 18 rfl rfl 3 (by decide +kernel) (hts _ fl_X9_15) (fun _ h9 => h9) rfl dX9_firstSight_121 ?_
              refine lv_iload hx hb dX9_firstSight_124 (lv_at hl 5 rfl) ?_
              refine lv_bipush (v := 64) hx hb dX9_firstSight_126 (by decide +kernel) ?_
              refine lv_imul hx hb dX9_firstSight_128 ?_
              have t_130 : (k_h * 64).toInt = k_h.toInt * 64 := g5_imul (a := k_h.toInt) (b := 64) (by rfl) (by decide +kernel) (by omega) (by omega)
              refine lv_iload hx hb dX9_firstSight_129 (lv_at hl 3 rfl) ?_
              refine W.eq (g2 := F0 m 131 ls [.int m_i, .int (k_h * 64), .ref a_mt]) rfl ?_
              refine lv_iadd hx hb dX9_firstSight_131 ?_
              have t_131 : ((k_h * 64) + m_i).toInt = (k_h * 64).toInt + m_i.toInt := g5_iadd (a := (k_h * 64).toInt) (b := m_i.toInt) (by rfl) (by rfl) (by omega) (by omega)
              refine lv_iload hx hb dX9_firstSight_132 (lv_at hl 2 rfl) ?_
              refine lv_if_eq (tgt := 147) hx hb dX9_firstSight_134 (by decide +kernel) (fun c_132 => ?_) (fun c_132 => ?_)
              ·
                have i_132 : m_t.toInt = 0 := g5_eq (a := m_t.toInt) (b := 0) rfl (by decide +kernel) c_132
                refine lv_iconst (v := 0) hx hb dX9_firstSight_147 (by decide +kernel) ?_
                refine va_iast hx hb hK hP hD hS 16 0 rfl rfl (i := ((k_h * 64) + m_i)) (x := 0) (vp_in_iff.mpr ⟨by omega, by omega⟩) dX9_firstSight_148 ?_
                clear hP hD hS
                intro H locs hP hD hS
                refine g5_rs [(a_k, (oc5 a_h a_j a_pt m_ln m_se m_lh m_br m_we m_me m_ce m_wy m_ho m_ov)), (a_g, (oc6 6 5 a_gn e_g)), (a_gn, (arI G 30 f_g)), (a_p, (oc6 8 5 a_pn e_p)), (a_pn, (arI G 40 f_p)), (a_bb, (arJ G 24 f_bb)), (a_j, (oc2 a_as a_sk)), (a_as, (arI G 8 m_as)), (a_sk, (arJ G 50 m_sk)), (a_l, (arW G 6 f_l)), (a_lo, (oc3 e_cl a_hd a_sr a_cd)), (a_sr, (arI G n_sr f_sr)), (a_cd, (arI G n_cd f_cd)), (a_hd, (arI G n_hd f_hd)), (a_pt, (arI G 200 m_pt)), (a_go, (arJ G 24 k_go)), (a_mt, (arI G 1536 (upd m_mt ((k_h * 64) + m_i).toNatClampNeg 0))), (a_h, (oc1 e_wa e_le e_st e_fo e_lc a_l a_g a_b a_s a_p a_w e_gb a_bb)), (a_wk, (oc9 a_h a_k a_go a_mt)), (a_b, (oc6 5 24 a_bn e_b)), (a_bn, (arI G 120 f_b))] hP hD ?_
                clear hP hD
                intro hP hD
                refine lv_iinc (v := (m_i + 1)) (lv' := [(11, .int (m_i + 1)), (9, .long m_x), (12, .int 0), (7, .int m_t), (5, .long k_x), (8, .int k_h), (0, .ref a_wk), (1, .int p_b), (2, .int p_c), (3, .int p_f), (4, .int p_e)]) hx hb dX9_firstSight_149 hl (k := 3) rfl rfl (by decide +kernel) rfl ?_
                clear hl
                intro ls hl
                have t_133 : (m_i + 1).toInt = m_i.toInt + 1 := g5_iadd (a := m_i.toInt) (b := 1) rfl (by decide +kernel) (by omega) (by omega)
                refine lv_goto (tgt := 58) hx hb dX9_firstSight_152 (by decide +kernel) ?_
                exact ih_58_122 (m_x, m_t, (m_i + 1), m_se, m_lh, m_br, m_we, m_me, m_ce, m_wy, m_ho, m_ov, m_pt, m_as, m_sk, m_ln, (upd m_mt ((k_h * 64) + m_i).toNatClampNeg 0)) ls H locs (show Int.toNat (64 - (m_i + 1).toInt) < Int.toNat (64 - m_i.toInt) from g_up (show m_i.toInt < (m_i + 1).toInt by omega) (show m_i.toInt < 64 by omega)) ⟨lv_sub hl [3, 1, 0, 4, 5, 6, 7, 8, 9, 10] rfl, hP, hD, hS, i_119, ⟨by omega, by omega⟩, i_121⟩
              ·
                have i_132 : m_t.toInt ≠ 0 := g5_eqN (a := m_t.toInt) (b := 0) rfl (by decide +kernel) c_132
                omega
            ·
              exact absurd c_129 (by decide +kernel)
          ·
            have n_128 : gNe (m_t.toInt) (0) := g5_eqN (a := m_t.toInt) (b := 0) rfl (by decide +kernel) c_128
            have i_128 : m_t.toInt ≥ 1 := by have z := g5_eqN (a := m_t.toInt) (b := 0) (by rfl) (by decide +kernel) c_128; omega
            refine lv_lload hx hb dX9_firstSight_70 (lv_at hl 3 rfl) ?_
            refine lv_iload hx hb dX9_firstSight_72 (lv_at hl 2 rfl) ?_
            obtain ⟨hPc, hDc, hFc⟩ := g5_sub3 (wc := []) hP hD hS hA [] (by decide +kernel) rfl
            refine va_calli (va_runSN (As := [.long k_x, .int m_i]) (rest := []) ⟨hx, hb, hml, hown, hts⟩ (k_isOn l G H.size m_i k_x ⟨by omega, by omega⟩) ⟨va_cnB 2 hts gW_X11_isOn rfl rfl rfl (hN.1 _ g5_nw_X9_43) (hts _ ini_X11) hs_X11_isOn ⟨Nat.le_of_ble_eq_true rfl, Nat.le_of_ble_eq_true rfl⟩, hts _ st_X11_isOn, trivial⟩ (g5_preS hPc hK hDc hN hT hS hFc) rfl rfl hl.1 rfl (lv_room (Nat.le_of_ble_eq_true rfl)) dX9_firstSight_74 ⟨Nat.le_of_ble_eq_true rfl, Nat.le_of_ble_eq_true rfl⟩) hS (fun q _ h => hFc q h) hFc (fun r u t H locs ht hvm hw hB hz1 hk1 hS => ?_)
            obtain ⟨hP1, hD1⟩ := hB
            have hP1 := g5_ht ht hP1
            rcases hw with ⟨(i_134 : onB k_x m_i.toInt = false), rfl, rfl⟩ | ⟨(i_135 : onB k_x m_i.toInt = true), rfl, rfl⟩
            ·
              have hJ9 := g5_same hP hk1
              clear hP hPc hDc hFc ht hvm hz1 hk1 hP1 hD1
              have hP := hJ9
              clear hJ9
              refine lv_if_eq (tgt := 99) hx hb dX9_firstSight_77 (by decide +kernel) (fun c_136 => ?_) (fun c_136 => ?_)
              ·
                refine lv_iconst (v := 0) hx hb dX9_firstSight_99 (by decide +kernel) ?_
                refine lv_istore (lv' := [(12, .int 0), (7, .int m_t), (9, .long m_x), (11, .int m_i), (5, .long k_x), (8, .int k_h), (0, .ref a_wk), (1, .int p_b), (2, .int p_c), (3, .int p_f), (4, .int p_e)]) hx hb dX9_firstSight_100 hl (by decide +kernel) rfl ?_
                clear hl
                intro ls hl
                refine lv_lload hx hb dX9_firstSight_102 (lv_at hl 2 rfl) ?_
                refine lv_iload hx hb dX9_firstSight_104 (lv_at hl 0 rfl) ?_
                refine W.eq (g2 := F0 m 106 ls [.int 0, .long m_x]) rfl ?_
                refine lv_if_eq (tgt := 116) hx hb dX9_firstSight_106 (by decide +kernel) (fun c_137 => ?_) (fun c_137 => ?_)
                ·
                  refine lv_lconst (v := 0) hx hb dX9_firstSight_116 (by decide +kernel) ?_
                  refine lv_lor hx hb dX9_firstSight_117 ?_
                  refine g5_tl (v := m_x) (by simp) ?_
                  refine lv_lstore (lv' := [(9, .long m_x), (12, .int 0), (7, .int m_t), (11, .int m_i), (5, .long k_x), (8, .int k_h), (0, .ref a_wk), (1, .int p_b), (2, .int p_c), (3, .int p_f), (4, .int p_e)]) hx hb dX9_firstSight_118 hl (by decide +kernel) rfl ?_
                  clear hl
                  intro ls hl
                  refine lv_aload_n hx hb dX9_firstSight_120 rfl (lv_at hl 6 rfl) ?_
                  refine W.eq (g2 := F0 m 121 ls [.ref a_wk]) rfl ?_
                  refine va_get (D := G.1) (ci := 9) (v := .ref a_mt) (C := RX9) (T := TX9) (N := 4) hx hb hts inG_X9 hown hK hP 18 rfl rfl 3 (by decide +kernel) (hts _ fl_X9_15) (fun _ h9 => h9) rfl dX9_firstSight_121 ?_
                  refine lv_iload hx hb dX9_firstSight_124 (lv_at hl 5 rfl) ?_
                  refine lv_bipush (v := 64) hx hb dX9_firstSight_126 (by decide +kernel) ?_
                  refine lv_imul hx hb dX9_firstSight_128 ?_
                  have t_138 : (k_h * 64).toInt = k_h.toInt * 64 := g5_imul (a := k_h.toInt) (b := 64) (by rfl) (by decide +kernel) (by omega) (by omega)
                  refine lv_iload hx hb dX9_firstSight_129 (lv_at hl 3 rfl) ?_
                  refine W.eq (g2 := F0 m 131 ls [.int m_i, .int (k_h * 64), .ref a_mt]) rfl ?_
                  refine lv_iadd hx hb dX9_firstSight_131 ?_
                  have t_139 : ((k_h * 64) + m_i).toInt = (k_h * 64).toInt + m_i.toInt := g5_iadd (a := (k_h * 64).toInt) (b := m_i.toInt) (by rfl) (by rfl) (by omega) (by omega)
                  refine lv_iload hx hb dX9_firstSight_132 (lv_at hl 2 rfl) ?_
                  refine lv_if_eq (tgt := 147) hx hb dX9_firstSight_134 (by decide +kernel) (fun c_140 => ?_) (fun c_140 => ?_)
                  ·
                    have i_140 : m_t.toInt = 0 := g5_eq (a := m_t.toInt) (b := 0) rfl (by decide +kernel) c_140
                    omega
                  ·
                    have n_140 : gNe (m_t.toInt) (0) := g5_eqN (a := m_t.toInt) (b := 0) rfl (by decide +kernel) c_140
                    refine lv_aload_n hx hb dX9_firstSight_137 rfl (lv_at hl 6 rfl) ?_
                    refine va_get (D := G.1) (ci := 9) (v := .ref a_k) (C := RX9) (T := TX9) (N := 4) hx hb hts inG_X9 hown hK hP 18 rfl rfl 1 (by decide +kernel) (hts _ fl_X9_23) (fun _ h9 => h9) rfl dX9_firstSight_138 ?_
                    refine va_get (D := G.1) (ci := 5) (v := .int m_me) (C := RX5) (T := TX5) (N := 13) hx hb hts inG_X5 hown hK hP 0 rfl rfl 8 (by decide +kernel) (hts _ fl_X9_53) (fun _ h9 => h9) rfl dX9_firstSight_141 ?_
                    refine lv_goto (tgt := 148) hx hb dX9_firstSight_144 (by decide +kernel) ?_
                    refine W.eq (g2 := F0 m 148 ls [.int m_me, .int ((k_h * 64) + m_i), .ref a_mt]) rfl ?_
                    refine va_iast hx hb hK hP hD hS 16 0 rfl rfl (i := ((k_h * 64) + m_i)) (x := m_me) (vp_in_iff.mpr ⟨by omega, by omega⟩) dX9_firstSight_148 ?_
                    clear hP hD hS
                    intro H locs hP hD hS
                    refine g5_rs [(a_k, (oc5 a_h a_j a_pt m_ln m_se m_lh m_br m_we m_me m_ce m_wy m_ho m_ov)), (a_g, (oc6 6 5 a_gn e_g)), (a_gn, (arI G 30 f_g)), (a_p, (oc6 8 5 a_pn e_p)), (a_pn, (arI G 40 f_p)), (a_bb, (arJ G 24 f_bb)), (a_j, (oc2 a_as a_sk)), (a_as, (arI G 8 m_as)), (a_sk, (arJ G 50 m_sk)), (a_l, (arW G 6 f_l)), (a_lo, (oc3 e_cl a_hd a_sr a_cd)), (a_sr, (arI G n_sr f_sr)), (a_cd, (arI G n_cd f_cd)), (a_hd, (arI G n_hd f_hd)), (a_pt, (arI G 200 m_pt)), (a_go, (arJ G 24 k_go)), (a_mt, (arI G 1536 (upd m_mt ((k_h * 64) + m_i).toNatClampNeg m_me))), (a_h, (oc1 e_wa e_le e_st e_fo e_lc a_l a_g a_b a_s a_p a_w e_gb a_bb)), (a_wk, (oc9 a_h a_k a_go a_mt)), (a_b, (oc6 5 24 a_bn e_b)), (a_bn, (arI G 120 f_b))] hP hD ?_
                    clear hP hD
                    intro hP hD
                    refine lv_iinc (v := (m_i + 1)) (lv' := [(11, .int (m_i + 1)), (9, .long m_x), (12, .int 0), (7, .int m_t), (5, .long k_x), (8, .int k_h), (0, .ref a_wk), (1, .int p_b), (2, .int p_c), (3, .int p_f), (4, .int p_e)]) hx hb dX9_firstSight_149 hl (k := 3) rfl rfl (by decide +kernel) rfl ?_
                    clear hl
                    intro ls hl
                    have t_141 : (m_i + 1).toInt = m_i.toInt + 1 := g5_iadd (a := m_i.toInt) (b := 1) rfl (by decide +kernel) (by omega) (by omega)
                    refine lv_goto (tgt := 58) hx hb dX9_firstSight_152 (by decide +kernel) ?_
                    exact ih_58_122 (m_x, m_t, (m_i + 1), m_se, m_lh, m_br, m_we, m_me, m_ce, m_wy, m_ho, m_ov, m_pt, m_as, m_sk, m_ln, (upd m_mt ((k_h * 64) + m_i).toNatClampNeg m_me)) ls H locs (show Int.toNat (64 - (m_i + 1).toInt) < Int.toNat (64 - m_i.toInt) from g_up (show m_i.toInt < (m_i + 1).toInt by omega) (show m_i.toInt < 64 by omega)) ⟨lv_sub hl [3, 1, 0, 4, 5, 6, 7, 8, 9, 10] rfl, hP, hD, hS, i_119, ⟨by omega, by omega⟩, i_121⟩
                ·
                  exact absurd c_137 (by decide +kernel)
              ·
                exact absurd c_136 (by decide +kernel)
            ·
              have hJ9 := g5_same hP hk1
              clear hP hPc hDc hFc ht hvm hz1 hk1 hP1 hD1
              have hP := hJ9
              clear hJ9
              refine lv_if_eq (tgt := 99) hx hb dX9_firstSight_77 (by decide +kernel) (fun c_142 => ?_) (fun c_142 => ?_)
              ·
                exact absurd c_142 (by decide +kernel)
              ·
                refine lv_aload_n hx hb dX9_firstSight_80 rfl (lv_at hl 5 rfl) ?_
                refine va_get (D := G.1) (ci := 9) (v := .ref a_k) (C := RX9) (T := TX9) (N := 4) hx hb hts inG_X9 hown hK hP 18 rfl rfl 1 (by decide +kernel) (hts _ fl_X9_23) (fun _ h9 => h9) rfl dX9_firstSight_81 ?_
                refine lv_iload_n hx hb dX9_firstSight_84 rfl (lv_at hl 6 rfl) ?_
                refine lv_iload hx hb dX9_firstSight_85 (lv_at hl 2 rfl) ?_
                refine W.eq (g2 := F0 m 87 ls [.int m_i, .int p_b, .ref a_k]) rfl ?_
                refine lv_iload hx hb dX9_firstSight_87 (lv_at hl 4 rfl) ?_
                obtain ⟨hPc, hDc, hFc⟩ := g5_sub3 (wc := [(a_k, (oc5 a_h a_j a_pt m_ln m_se m_lh m_br m_we m_me m_ce m_wy m_ho m_ov)), (a_h, (oc1 e_wa e_le e_st e_fo e_lc a_l a_g a_b a_s a_p a_w e_gb a_bb)), (a_g, (oc6 6 5 a_gn e_g)), (a_gn, (arI G 30 f_g)), (a_b, (oc6 5 24 a_bn e_b)), (a_bn, (arI G 120 f_b)), (a_p, (oc6 8 5 a_pn e_p)), (a_pn, (arI G 40 f_p)), (a_bb, (arJ G 24 f_bb)), (a_j, (oc2 a_as a_sk)), (a_as, (arI G 8 m_as)), (a_sk, (arJ G 50 m_sk)), (a_l, (arW G 6 f_l)), (a_lo, (oc3 e_cl a_hd a_sr a_cd)), (a_sr, (arI G n_sr f_sr)), (a_cd, (arI G n_cd f_cd)), (a_hd, (arI G n_hd f_hd)), (a_pt, (arI G 200 m_pt))]) hP hD hS hA [0, 17, 1, 2, 19, 20, 3, 4, 5, 6, 7, 8, 9, 10, 11, 12, 13, 14] (by decide +kernel) rfl
                refine va_calli (va_runV (As := [.int p_b, .int m_i, .int k_h]) (rest := []) ⟨hx, hb, hml, hown, hts⟩ (s_findsBodyL l G a_k a_h a_g a_gn a_b a_bn a_p a_pn a_bb a_j a_as a_sk a_l a_lo a_sr a_cd a_hd a_pt a_s a_w H.size e_le e_st e_fo e_lc e_g e_b e_p e_cl m_ln m_se m_lh m_br m_we m_me m_ce m_wy m_ho m_ov m_i k_h p_b e_wa e_gb f_g f_b f_p f_bb m_as m_sk f_l f_sr f_cd f_hd m_pt n_sr n_cd n_hd h_e_g h_e_b h_e_p h_e_cl i_121 (e_gk) (e_pk) (e_gi) (e_f) (e_a) (e_hn) (e_hs) (e_hk) (e_c)) (cwV 3 hts gV_X9_47 rfl rfl rfl hv_X5_findsBody ⟨Nat.le_of_ble_eq_true rfl, Nat.le_of_ble_eq_true rfl⟩) (g5_preV hPc hK hDc hN hT hS hFc (ci := 5) (q0 := 0) rfl rfl) rfl rfl hl.1 rfl (lv_room (Nat.le_of_ble_eq_true rfl)) dX9_firstSight_89 ⟨Nat.le_of_ble_eq_true rfl, Nat.le_of_ble_eq_true rfl⟩) hS (fun q _ h => hFc q h) hFc (fun r u t H locs ht hvm hw hB hz1 hk1 hS => ?_)
                obtain ⟨hP1, hD1⟩ := hB
                have hP1 := g5_ht ht hP1
                obtain ⟨z145, z146, z147, z148, z149, z150, z151, z152, z153, z154, z155, z156, z157, z158, (i_143 : 0 ≤ z145.toInt ∧ z145.toInt ≤ 1), (i_144 : 0 ≤ z155.toInt ∧ z155.toInt ≤ 1), y159, rfl⟩ := hw
                have hJ9 := va_join (wr := [(a_go, (arJ G 24 k_go)), (a_mt, (arI G 1536 m_mt)), (a_wk, (oc9 a_h a_k a_go a_mt))]) hP hD [0, 17, 1, 2, 19, 20, 3, 4, 5, 6, 7, 8, 9, 10, 11, 12, 13, 14] [15, 16, 18] rfl rfl (by decide +kernel) (by decide +kernel) hk1 hFc hP1 hD1
                clear hP hD hPc hDc hFc ht hvm hz1 hk1 hP1 hD1
                obtain ⟨hP, hD⟩ := hJ9
                refine g5_rs [(a_go, (arJ G 24 k_go)), (a_mt, (arI G 1536 m_mt)), (a_wk, (oc9 a_h a_k a_go a_mt)), (a_k, (oc5 a_h a_j a_pt z146 z147 z148 z149 z150 z151 z152 z153 z154 z155)), (a_h, (oc1 e_wa e_le e_st e_fo e_lc a_l a_g a_b a_s a_p a_w e_gb a_bb)), (a_g, (oc6 6 5 a_gn e_g)), (a_gn, (arI G 30 f_g)), (a_b, (oc6 5 24 a_bn e_b)), (a_bn, (arI G 120 f_b)), (a_p, (oc6 8 5 a_pn e_p)), (a_pn, (arI G 40 f_p)), (a_bb, (arJ G 24 f_bb)), (a_j, (oc2 a_as a_sk)), (a_as, (arI G 8 z157)), (a_sk, (arJ G 50 z158)), (a_l, (arW G 6 f_l)), (a_lo, (oc3 e_cl a_hd a_sr a_cd)), (a_sr, (arI G n_sr f_sr)), (a_cd, (arI G n_cd f_cd)), (a_hd, (arI G n_hd f_hd)), (a_pt, (arI G 200 z156))] hP hD ?_
                clear hP hD
                intro hP hD
                refine g5_ti (v := z145) y159 ?_
                refine lv_if_eq (tgt := 99) hx hb dX9_firstSight_92 (by decide +kernel) (fun c_160 => ?_) (fun c_160 => ?_)
                ·
                  have i_160 : z145.toInt = 0 := g5_eq (a := z145.toInt) (b := 0) rfl (by decide +kernel) c_160
                  refine lv_iconst (v := 0) hx hb dX9_firstSight_99 (by decide +kernel) ?_
                  refine lv_istore (lv' := [(12, .int 0), (7, .int m_t), (9, .long m_x), (11, .int m_i), (5, .long k_x), (8, .int k_h), (0, .ref a_wk), (1, .int p_b), (2, .int p_c), (3, .int p_f), (4, .int p_e)]) hx hb dX9_firstSight_100 hl (by decide +kernel) rfl ?_
                  clear hl
                  intro ls hl
                  refine lv_lload hx hb dX9_firstSight_102 (lv_at hl 2 rfl) ?_
                  refine lv_iload hx hb dX9_firstSight_104 (lv_at hl 0 rfl) ?_
                  refine W.eq (g2 := F0 m 106 ls [.int 0, .long m_x]) rfl ?_
                  refine lv_if_eq (tgt := 116) hx hb dX9_firstSight_106 (by decide +kernel) (fun c_161 => ?_) (fun c_161 => ?_)
                  ·
                    refine lv_lconst (v := 0) hx hb dX9_firstSight_116 (by decide +kernel) ?_
                    refine lv_lor hx hb dX9_firstSight_117 ?_
                    refine g5_tl (v := m_x) (by simp) ?_
                    refine lv_lstore (lv' := [(9, .long m_x), (12, .int 0), (7, .int m_t), (11, .int m_i), (5, .long k_x), (8, .int k_h), (0, .ref a_wk), (1, .int p_b), (2, .int p_c), (3, .int p_f), (4, .int p_e)]) hx hb dX9_firstSight_118 hl (by decide +kernel) rfl ?_
                    clear hl
                    intro ls hl
                    refine lv_aload_n hx hb dX9_firstSight_120 rfl (lv_at hl 6 rfl) ?_
                    refine W.eq (g2 := F0 m 121 ls [.ref a_wk]) rfl ?_
                    refine va_get (D := G.1) (ci := 9) (v := .ref a_mt) (C := RX9) (T := TX9) (N := 4) hx hb hts inG_X9 hown hK hP 2 rfl rfl 3 (by decide +kernel) (hts _ fl_X9_15) (fun _ h9 => h9) rfl dX9_firstSight_121 ?_
                    refine lv_iload hx hb dX9_firstSight_124 (lv_at hl 5 rfl) ?_
                    refine lv_bipush (v := 64) hx hb dX9_firstSight_126 (by decide +kernel) ?_
                    refine lv_imul hx hb dX9_firstSight_128 ?_
                    have t_162 : (k_h * 64).toInt = k_h.toInt * 64 := g5_imul (a := k_h.toInt) (b := 64) (by rfl) (by decide +kernel) (by omega) (by omega)
                    refine lv_iload hx hb dX9_firstSight_129 (lv_at hl 3 rfl) ?_
                    refine W.eq (g2 := F0 m 131 ls [.int m_i, .int (k_h * 64), .ref a_mt]) rfl ?_
                    refine lv_iadd hx hb dX9_firstSight_131 ?_
                    have t_163 : ((k_h * 64) + m_i).toInt = (k_h * 64).toInt + m_i.toInt := g5_iadd (a := (k_h * 64).toInt) (b := m_i.toInt) (by rfl) (by rfl) (by omega) (by omega)
                    refine lv_iload hx hb dX9_firstSight_132 (lv_at hl 2 rfl) ?_
                    refine lv_if_eq (tgt := 147) hx hb dX9_firstSight_134 (by decide +kernel) (fun c_164 => ?_) (fun c_164 => ?_)
                    ·
                      have i_164 : m_t.toInt = 0 := g5_eq (a := m_t.toInt) (b := 0) rfl (by decide +kernel) c_164
                      omega
                    ·
                      have n_164 : gNe (m_t.toInt) (0) := g5_eqN (a := m_t.toInt) (b := 0) rfl (by decide +kernel) c_164
                      refine lv_aload_n hx hb dX9_firstSight_137 rfl (lv_at hl 6 rfl) ?_
                      refine va_get (D := G.1) (ci := 9) (v := .ref a_k) (C := RX9) (T := TX9) (N := 4) hx hb hts inG_X9 hown hK hP 2 rfl rfl 1 (by decide +kernel) (hts _ fl_X9_23) (fun _ h9 => h9) rfl dX9_firstSight_138 ?_
                      refine va_get (D := G.1) (ci := 5) (v := .int z151) (C := RX5) (T := TX5) (N := 13) hx hb hts inG_X5 hown hK hP 3 rfl rfl 8 (by decide +kernel) (hts _ fl_X9_53) (fun _ h9 => h9) rfl dX9_firstSight_141 ?_
                      refine lv_goto (tgt := 148) hx hb dX9_firstSight_144 (by decide +kernel) ?_
                      refine W.eq (g2 := F0 m 148 ls [.int z151, .int ((k_h * 64) + m_i), .ref a_mt]) rfl ?_
                      refine va_iast hx hb hK hP hD hS 1 0 rfl rfl (i := ((k_h * 64) + m_i)) (x := z151) (vp_in_iff.mpr ⟨by omega, by omega⟩) dX9_firstSight_148 ?_
                      clear hP hD hS
                      intro H locs hP hD hS
                      refine g5_rs [(a_go, (arJ G 24 k_go)), (a_mt, (arI G 1536 (upd m_mt ((k_h * 64) + m_i).toNatClampNeg z151))), (a_wk, (oc9 a_h a_k a_go a_mt)), (a_k, (oc5 a_h a_j a_pt z146 z147 z148 z149 z150 z151 z152 z153 z154 z155)), (a_h, (oc1 e_wa e_le e_st e_fo e_lc a_l a_g a_b a_s a_p a_w e_gb a_bb)), (a_g, (oc6 6 5 a_gn e_g)), (a_gn, (arI G 30 f_g)), (a_b, (oc6 5 24 a_bn e_b)), (a_bn, (arI G 120 f_b)), (a_p, (oc6 8 5 a_pn e_p)), (a_pn, (arI G 40 f_p)), (a_bb, (arJ G 24 f_bb)), (a_j, (oc2 a_as a_sk)), (a_as, (arI G 8 z157)), (a_sk, (arJ G 50 z158)), (a_l, (arW G 6 f_l)), (a_lo, (oc3 e_cl a_hd a_sr a_cd)), (a_sr, (arI G n_sr f_sr)), (a_cd, (arI G n_cd f_cd)), (a_hd, (arI G n_hd f_hd)), (a_pt, (arI G 200 z156))] hP hD ?_
                      clear hP hD
                      intro hP hD
                      refine lv_iinc (v := (m_i + 1)) (lv' := [(11, .int (m_i + 1)), (9, .long m_x), (12, .int 0), (7, .int m_t), (5, .long k_x), (8, .int k_h), (0, .ref a_wk), (1, .int p_b), (2, .int p_c), (3, .int p_f), (4, .int p_e)]) hx hb dX9_firstSight_149 hl (k := 3) rfl rfl (by decide +kernel) rfl ?_
                      clear hl
                      intro ls hl
                      have t_165 : (m_i + 1).toInt = m_i.toInt + 1 := g5_iadd (a := m_i.toInt) (b := 1) rfl (by decide +kernel) (by omega) (by omega)
                      refine lv_goto (tgt := 58) hx hb dX9_firstSight_152 (by decide +kernel) ?_
                      exact ih_58_122 (m_x, m_t, (m_i + 1), z147, z148, z149, z150, z151, z152, z153, z154, z155, z156, z157, z158, z146, (upd m_mt ((k_h * 64) + m_i).toNatClampNeg z151)) ls H locs (show Int.toNat (64 - (m_i + 1).toInt) < Int.toNat (64 - m_i.toInt) from g_up (show m_i.toInt < (m_i + 1).toInt by omega) (show m_i.toInt < 64 by omega)) ⟨lv_sub hl [3, 1, 0, 4, 5, 6, 7, 8, 9, 10] rfl, hP.sub [3, 5, 6, 9, 10, 11, 12, 13, 14, 15, 16, 17, 18, 19, 20, 0, 1, 4, 2, 7, 8] rfl, hD.sub [3, 5, 6, 9, 10, 11, 12, 13, 14, 15, 16, 17, 18, 19, 20, 0, 1, 4, 2, 7, 8] (by decide +kernel) rfl, hS, i_119, ⟨by omega, by omega⟩, i_144⟩
                  ·
                    exact absurd c_161 (by decide +kernel)
                ·
                  have n_160 : gNe (z145.toInt) (0) := g5_eqN (a := z145.toInt) (b := 0) rfl (by decide +kernel) c_160
                  have i_160 : z145.toInt ≥ 1 := by have z := g5_eqN (a := z145.toInt) (b := 0) (by rfl) (by decide +kernel) c_160; omega
                  refine lv_iconst (v := 1) hx hb dX9_firstSight_95 (by decide +kernel) ?_
                  refine lv_goto (tgt := 100) hx hb dX9_firstSight_96 (by decide +kernel) ?_
                  refine lv_istore (lv' := [(12, .int 1), (7, .int m_t), (9, .long m_x), (11, .int m_i), (5, .long k_x), (8, .int k_h), (0, .ref a_wk), (1, .int p_b), (2, .int p_c), (3, .int p_f), (4, .int p_e)]) hx hb dX9_firstSight_100 hl (by decide +kernel) rfl ?_
                  clear hl
                  intro ls hl
                  refine lv_lload hx hb dX9_firstSight_102 (lv_at hl 2 rfl) ?_
                  refine W.eq (g2 := F0 m 104 ls [.long m_x]) rfl ?_
                  refine lv_iload hx hb dX9_firstSight_104 (lv_at hl 0 rfl) ?_
                  refine lv_if_eq (tgt := 116) hx hb dX9_firstSight_106 (by decide +kernel) (fun c_166 => ?_) (fun c_166 => ?_)
                  ·
                    exact absurd c_166 (by decide +kernel)
                  ·
                    refine lv_lconst (v := 1) hx hb dX9_firstSight_109 (by decide +kernel) ?_
                    refine lv_iload hx hb dX9_firstSight_110 (lv_at hl 3 rfl) ?_
                    refine lv_lshl (v := ((1 : Int64) <<< (m_i.toInt64 &&& 63))) hx hb dX9_firstSight_112 rfl ?_
                    refine lv_goto (tgt := 117) hx hb dX9_firstSight_113 (by decide +kernel) ?_
                    refine W.eq (g2 := F0 m 117 ls [.long ((1 : Int64) <<< (m_i.toInt64 &&& 63)), .long m_x]) rfl ?_
                    refine lv_lor hx hb dX9_firstSight_117 ?_
                    refine lv_lstore (lv' := [(9, .long (m_x ||| ((1 : Int64) <<< (m_i.toInt64 &&& 63)))), (12, .int 1), (7, .int m_t), (11, .int m_i), (5, .long k_x), (8, .int k_h), (0, .ref a_wk), (1, .int p_b), (2, .int p_c), (3, .int p_f), (4, .int p_e)]) hx hb dX9_firstSight_118 hl (by decide +kernel) rfl ?_
                    clear hl
                    intro ls hl
                    refine lv_aload_n hx hb dX9_firstSight_120 rfl (lv_at hl 6 rfl) ?_
                    refine va_get (D := G.1) (ci := 9) (v := .ref a_mt) (C := RX9) (T := TX9) (N := 4) hx hb hts inG_X9 hown hK hP 2 rfl rfl 3 (by decide +kernel) (hts _ fl_X9_15) (fun _ h9 => h9) rfl dX9_firstSight_121 ?_
                    refine lv_iload hx hb dX9_firstSight_124 (lv_at hl 5 rfl) ?_
                    refine W.eq (g2 := F0 m 126 ls [.int k_h, .ref a_mt]) rfl ?_
                    refine lv_bipush (v := 64) hx hb dX9_firstSight_126 (by decide +kernel) ?_
                    refine lv_imul hx hb dX9_firstSight_128 ?_
                    have t_167 : (k_h * 64).toInt = k_h.toInt * 64 := g5_imul (a := k_h.toInt) (b := 64) (by rfl) (by decide +kernel) (by omega) (by omega)
                    refine lv_iload hx hb dX9_firstSight_129 (lv_at hl 3 rfl) ?_
                    refine lv_iadd hx hb dX9_firstSight_131 ?_
                    have t_168 : ((k_h * 64) + m_i).toInt = (k_h * 64).toInt + m_i.toInt := g5_iadd (a := (k_h * 64).toInt) (b := m_i.toInt) (by rfl) (by rfl) (by omega) (by omega)
                    refine lv_iload hx hb dX9_firstSight_132 (lv_at hl 2 rfl) ?_
                    refine W.eq (g2 := F0 m 134 ls [.int m_t, .int ((k_h * 64) + m_i), .ref a_mt]) rfl ?_
                    refine lv_if_eq (tgt := 147) hx hb dX9_firstSight_134 (by decide +kernel) (fun c_169 => ?_) (fun c_169 => ?_)
                    ·
                      have i_169 : m_t.toInt = 0 := g5_eq (a := m_t.toInt) (b := 0) rfl (by decide +kernel) c_169
                      omega
                    ·
                      have n_169 : gNe (m_t.toInt) (0) := g5_eqN (a := m_t.toInt) (b := 0) rfl (by decide +kernel) c_169
                      refine lv_aload_n hx hb dX9_firstSight_137 rfl (lv_at hl 6 rfl) ?_
                      refine va_get (D := G.1) (ci := 9) (v := .ref a_k) (C := RX9) (T := TX9) (N := 4) hx hb hts inG_X9 hown hK hP 2 rfl rfl 1 (by decide +kernel) (hts _ fl_X9_23) (fun _ h9 => h9) rfl dX9_firstSight_138 ?_
                      refine va_get (D := G.1) (ci := 5) (v := .int z151) (C := RX5) (T := TX5) (N := 13) hx hb hts inG_X5 hown hK hP 3 rfl rfl 8 (by decide +kernel) (hts _ fl_X9_53) (fun _ h9 => h9) rfl dX9_firstSight_141 ?_
                      refine lv_goto (tgt := 148) hx hb dX9_firstSight_144 (by decide +kernel) ?_
                      refine W.eq (g2 := F0 m 148 ls [.int z151, .int ((k_h * 64) + m_i), .ref a_mt]) rfl ?_
                      refine va_iast hx hb hK hP hD hS 1 0 rfl rfl (i := ((k_h * 64) + m_i)) (x := z151) (vp_in_iff.mpr ⟨by omega, by omega⟩) dX9_firstSight_148 ?_
                      clear hP hD hS
                      intro H locs hP hD hS
                      refine g5_rs [(a_go, (arJ G 24 k_go)), (a_mt, (arI G 1536 (upd m_mt ((k_h * 64) + m_i).toNatClampNeg z151))), (a_wk, (oc9 a_h a_k a_go a_mt)), (a_k, (oc5 a_h a_j a_pt z146 z147 z148 z149 z150 z151 z152 z153 z154 z155)), (a_h, (oc1 e_wa e_le e_st e_fo e_lc a_l a_g a_b a_s a_p a_w e_gb a_bb)), (a_g, (oc6 6 5 a_gn e_g)), (a_gn, (arI G 30 f_g)), (a_b, (oc6 5 24 a_bn e_b)), (a_bn, (arI G 120 f_b)), (a_p, (oc6 8 5 a_pn e_p)), (a_pn, (arI G 40 f_p)), (a_bb, (arJ G 24 f_bb)), (a_j, (oc2 a_as a_sk)), (a_as, (arI G 8 z157)), (a_sk, (arJ G 50 z158)), (a_l, (arW G 6 f_l)), (a_lo, (oc3 e_cl a_hd a_sr a_cd)), (a_sr, (arI G n_sr f_sr)), (a_cd, (arI G n_cd f_cd)), (a_hd, (arI G n_hd f_hd)), (a_pt, (arI G 200 z156))] hP hD ?_
                      clear hP hD
                      intro hP hD
                      refine lv_iinc (v := (m_i + 1)) (lv' := [(11, .int (m_i + 1)), (9, .long (m_x ||| ((1 : Int64) <<< (m_i.toInt64 &&& 63)))), (12, .int 1), (7, .int m_t), (5, .long k_x), (8, .int k_h), (0, .ref a_wk), (1, .int p_b), (2, .int p_c), (3, .int p_f), (4, .int p_e)]) hx hb dX9_firstSight_149 hl (k := 3) rfl rfl (by decide +kernel) rfl ?_
                      clear hl
                      intro ls hl
                      have t_170 : (m_i + 1).toInt = m_i.toInt + 1 := g5_iadd (a := m_i.toInt) (b := 1) rfl (by decide +kernel) (by omega) (by omega)
                      refine lv_goto (tgt := 58) hx hb dX9_firstSight_152 (by decide +kernel) ?_
                      exact ih_58_122 ((m_x ||| ((1 : Int64) <<< (m_i.toInt64 &&& 63))), m_t, (m_i + 1), z147, z148, z149, z150, z151, z152, z153, z154, z155, z156, z157, z158, z146, (upd m_mt ((k_h * 64) + m_i).toNatClampNeg z151)) ls H locs (show Int.toNat (64 - (m_i + 1).toInt) < Int.toNat (64 - m_i.toInt) from g_up (show m_i.toInt < (m_i + 1).toInt by omega) (show m_i.toInt < 64 by omega)) ⟨lv_sub hl [3, 1, 0, 4, 5, 6, 7, 8, 9, 10] rfl, hP.sub [3, 5, 6, 9, 10, 11, 12, 13, 14, 15, 16, 17, 18, 19, 20, 0, 1, 4, 2, 7, 8] rfl, hD.sub [3, 5, 6, 9, 10, 11, 12, 13, 14, 15, 16, 17, 18, 19, 20, 0, 1, 4, 2, 7, 8] (by decide +kernel) rfl, hS, i_119, ⟨by omega, by omega⟩, i_144⟩
theorem dgX9_sightBy_0 : ∀ r ∈ ([(0, (.lconst 1, 1)), (1, (.iload_n 3, 1)), (2, (.lshl, 1)), (3, (.lstore 6, 2)), (5, (.iload 4, 2)), (7, (.istore 8, 2)), (9, (.iload 8, 2)), (11, (.iload 5, 2)), (13, (.if_icmp .ge 93, 3)), (16, (.iconst 0, 1)), (17, (.istore 9, 2)), (19, (.iload 9, 2)), (21, (.bipush 64, 2)), (23, (.if_icmp .ge 69, 3)), (26, (.lload 6, 2)), (28, (.iload 9, 2)), (30, (.invokestatic 43, 3)), (33, (.ifCond .eq 27, 3)), (36, (.aload_n 0, 1)), (37, (.getfield 15, 3)), (40, (.iload 8, 2)), (42, (.bipush 64, 2)), (44, (.imul, 1)), (45, (.iload 9, 2)), (47, (.iadd, 1)), (48, (.iaload, 1)), (49, (.iload_n 1, 1)), (50, (.ishr, 1)), (51, (.iconst 1, 1)), (52, (.iand, 1)), (53, (.ifCond .eq 7, 3)), (56, (.iconst 1, 1)), (57, (.goto 4, 3)), (60, (.iconst 0, 1)), (61, (.istore 10, 2)), (63, (.iload 10, 2)), (65, (.ifCond .eq 21, 3)), (68, (.aload_n 0, 1)), (69, (.getfield 23, 3)), (72, (.iload_n 2, 1))] : List (Nat × (Instr × Nat))), decode cX9_sightBy r.1 = .ok r.2 := by decide +kernel
theorem dX9_sightBy_0 : decode cX9_sightBy 0 = .ok (.lconst 1, 1) := dgX9_sightBy_0 (0, (.lconst 1, 1)) (List.mem_of_getElem? (i := 0) rfl)
theorem dX9_sightBy_1 : decode cX9_sightBy 1 = .ok (.iload_n 3, 1) := dgX9_sightBy_0 (1, (.iload_n 3, 1)) (List.mem_of_getElem? (i := 1) rfl)
theorem dX9_sightBy_2 : decode cX9_sightBy 2 = .ok (.lshl, 1) := dgX9_sightBy_0 (2, (.lshl, 1)) (List.mem_of_getElem? (i := 2) rfl)
theorem dX9_sightBy_3 : decode cX9_sightBy 3 = .ok (.lstore 6, 2) := dgX9_sightBy_0 (3, (.lstore 6, 2)) (List.mem_of_getElem? (i := 3) rfl)
theorem dX9_sightBy_5 : decode cX9_sightBy 5 = .ok (.iload 4, 2) := dgX9_sightBy_0 (5, (.iload 4, 2)) (List.mem_of_getElem? (i := 4) rfl)
theorem dX9_sightBy_7 : decode cX9_sightBy 7 = .ok (.istore 8, 2) := dgX9_sightBy_0 (7, (.istore 8, 2)) (List.mem_of_getElem? (i := 5) rfl)
theorem dX9_sightBy_9 : decode cX9_sightBy 9 = .ok (.iload 8, 2) := dgX9_sightBy_0 (9, (.iload 8, 2)) (List.mem_of_getElem? (i := 6) rfl)
theorem dX9_sightBy_11 : decode cX9_sightBy 11 = .ok (.iload 5, 2) := dgX9_sightBy_0 (11, (.iload 5, 2)) (List.mem_of_getElem? (i := 7) rfl)
theorem dX9_sightBy_13 : decode cX9_sightBy 13 = .ok (.if_icmp .ge 93, 3) := dgX9_sightBy_0 (13, (.if_icmp .ge 93, 3)) (List.mem_of_getElem? (i := 8) rfl)
theorem dX9_sightBy_16 : decode cX9_sightBy 16 = .ok (.iconst 0, 1) := dgX9_sightBy_0 (16, (.iconst 0, 1)) (List.mem_of_getElem? (i := 9) rfl)
theorem dX9_sightBy_17 : decode cX9_sightBy 17 = .ok (.istore 9, 2) := dgX9_sightBy_0 (17, (.istore 9, 2)) (List.mem_of_getElem? (i := 10) rfl)
theorem dX9_sightBy_19 : decode cX9_sightBy 19 = .ok (.iload 9, 2) := dgX9_sightBy_0 (19, (.iload 9, 2)) (List.mem_of_getElem? (i := 11) rfl)
theorem dX9_sightBy_21 : decode cX9_sightBy 21 = .ok (.bipush 64, 2) := dgX9_sightBy_0 (21, (.bipush 64, 2)) (List.mem_of_getElem? (i := 12) rfl)
theorem dX9_sightBy_23 : decode cX9_sightBy 23 = .ok (.if_icmp .ge 69, 3) := dgX9_sightBy_0 (23, (.if_icmp .ge 69, 3)) (List.mem_of_getElem? (i := 13) rfl)
theorem dX9_sightBy_26 : decode cX9_sightBy 26 = .ok (.lload 6, 2) := dgX9_sightBy_0 (26, (.lload 6, 2)) (List.mem_of_getElem? (i := 14) rfl)
theorem dX9_sightBy_28 : decode cX9_sightBy 28 = .ok (.iload 9, 2) := dgX9_sightBy_0 (28, (.iload 9, 2)) (List.mem_of_getElem? (i := 15) rfl)
theorem dX9_sightBy_30 : decode cX9_sightBy 30 = .ok (.invokestatic 43, 3) := dgX9_sightBy_0 (30, (.invokestatic 43, 3)) (List.mem_of_getElem? (i := 16) rfl)
theorem dX9_sightBy_33 : decode cX9_sightBy 33 = .ok (.ifCond .eq 27, 3) := dgX9_sightBy_0 (33, (.ifCond .eq 27, 3)) (List.mem_of_getElem? (i := 17) rfl)
theorem dX9_sightBy_36 : decode cX9_sightBy 36 = .ok (.aload_n 0, 1) := dgX9_sightBy_0 (36, (.aload_n 0, 1)) (List.mem_of_getElem? (i := 18) rfl)
theorem dX9_sightBy_37 : decode cX9_sightBy 37 = .ok (.getfield 15, 3) := dgX9_sightBy_0 (37, (.getfield 15, 3)) (List.mem_of_getElem? (i := 19) rfl)
theorem dX9_sightBy_40 : decode cX9_sightBy 40 = .ok (.iload 8, 2) := dgX9_sightBy_0 (40, (.iload 8, 2)) (List.mem_of_getElem? (i := 20) rfl)
theorem dX9_sightBy_42 : decode cX9_sightBy 42 = .ok (.bipush 64, 2) := dgX9_sightBy_0 (42, (.bipush 64, 2)) (List.mem_of_getElem? (i := 21) rfl)
theorem dX9_sightBy_44 : decode cX9_sightBy 44 = .ok (.imul, 1) := dgX9_sightBy_0 (44, (.imul, 1)) (List.mem_of_getElem? (i := 22) rfl)
theorem dX9_sightBy_45 : decode cX9_sightBy 45 = .ok (.iload 9, 2) := dgX9_sightBy_0 (45, (.iload 9, 2)) (List.mem_of_getElem? (i := 23) rfl)
theorem dX9_sightBy_47 : decode cX9_sightBy 47 = .ok (.iadd, 1) := dgX9_sightBy_0 (47, (.iadd, 1)) (List.mem_of_getElem? (i := 24) rfl)
theorem dX9_sightBy_48 : decode cX9_sightBy 48 = .ok (.iaload, 1) := dgX9_sightBy_0 (48, (.iaload, 1)) (List.mem_of_getElem? (i := 25) rfl)
theorem dX9_sightBy_49 : decode cX9_sightBy 49 = .ok (.iload_n 1, 1) := dgX9_sightBy_0 (49, (.iload_n 1, 1)) (List.mem_of_getElem? (i := 26) rfl)
theorem dX9_sightBy_50 : decode cX9_sightBy 50 = .ok (.ishr, 1) := dgX9_sightBy_0 (50, (.ishr, 1)) (List.mem_of_getElem? (i := 27) rfl)
theorem dX9_sightBy_51 : decode cX9_sightBy 51 = .ok (.iconst 1, 1) := dgX9_sightBy_0 (51, (.iconst 1, 1)) (List.mem_of_getElem? (i := 28) rfl)
theorem dX9_sightBy_52 : decode cX9_sightBy 52 = .ok (.iand, 1) := dgX9_sightBy_0 (52, (.iand, 1)) (List.mem_of_getElem? (i := 29) rfl)
theorem dX9_sightBy_53 : decode cX9_sightBy 53 = .ok (.ifCond .eq 7, 3) := dgX9_sightBy_0 (53, (.ifCond .eq 7, 3)) (List.mem_of_getElem? (i := 30) rfl)
theorem dX9_sightBy_56 : decode cX9_sightBy 56 = .ok (.iconst 1, 1) := dgX9_sightBy_0 (56, (.iconst 1, 1)) (List.mem_of_getElem? (i := 31) rfl)
theorem dX9_sightBy_57 : decode cX9_sightBy 57 = .ok (.goto 4, 3) := dgX9_sightBy_0 (57, (.goto 4, 3)) (List.mem_of_getElem? (i := 32) rfl)
theorem dX9_sightBy_60 : decode cX9_sightBy 60 = .ok (.iconst 0, 1) := dgX9_sightBy_0 (60, (.iconst 0, 1)) (List.mem_of_getElem? (i := 33) rfl)
theorem dX9_sightBy_61 : decode cX9_sightBy 61 = .ok (.istore 10, 2) := dgX9_sightBy_0 (61, (.istore 10, 2)) (List.mem_of_getElem? (i := 34) rfl)
theorem dX9_sightBy_63 : decode cX9_sightBy 63 = .ok (.iload 10, 2) := dgX9_sightBy_0 (63, (.iload 10, 2)) (List.mem_of_getElem? (i := 35) rfl)
theorem dX9_sightBy_65 : decode cX9_sightBy 65 = .ok (.ifCond .eq 21, 3) := dgX9_sightBy_0 (65, (.ifCond .eq 21, 3)) (List.mem_of_getElem? (i := 36) rfl)
theorem dX9_sightBy_68 : decode cX9_sightBy 68 = .ok (.aload_n 0, 1) := dgX9_sightBy_0 (68, (.aload_n 0, 1)) (List.mem_of_getElem? (i := 37) rfl)
theorem dX9_sightBy_69 : decode cX9_sightBy 69 = .ok (.getfield 23, 3) := dgX9_sightBy_0 (69, (.getfield 23, 3)) (List.mem_of_getElem? (i := 38) rfl)
theorem dX9_sightBy_72 : decode cX9_sightBy 72 = .ok (.iload_n 2, 1) := dgX9_sightBy_0 (72, (.iload_n 2, 1)) (List.mem_of_getElem? (i := 39) rfl)
theorem dgX9_sightBy_1 : ∀ r ∈ ([(73, (.iload 9, 2)), (75, (.iload 8, 2)), (77, (.invokevirtual 47, 3)), (80, (.ifCond .eq 6, 3)), (83, (.iload 8, 2)), (85, (.ireturn, 1)), (86, (.iinc 9 1, 3)), (89, (.goto (-70), 3)), (92, (.aload_n 0, 1)), (93, (.lload 6, 2)), (95, (.invokevirtual 56, 3)), (98, (.lstore 6, 2)), (100, (.iinc 8 1, 3)), (103, (.goto (-94), 3)), (106, (.iconst (-1), 1)), (107, (.ireturn, 1))] : List (Nat × (Instr × Nat))), decode cX9_sightBy r.1 = .ok r.2 := by decide +kernel
theorem dX9_sightBy_73 : decode cX9_sightBy 73 = .ok (.iload 9, 2) := dgX9_sightBy_1 (73, (.iload 9, 2)) (List.mem_of_getElem? (i := 0) rfl)
theorem dX9_sightBy_75 : decode cX9_sightBy 75 = .ok (.iload 8, 2) := dgX9_sightBy_1 (75, (.iload 8, 2)) (List.mem_of_getElem? (i := 1) rfl)
theorem dX9_sightBy_77 : decode cX9_sightBy 77 = .ok (.invokevirtual 47, 3) := dgX9_sightBy_1 (77, (.invokevirtual 47, 3)) (List.mem_of_getElem? (i := 2) rfl)
theorem dX9_sightBy_80 : decode cX9_sightBy 80 = .ok (.ifCond .eq 6, 3) := dgX9_sightBy_1 (80, (.ifCond .eq 6, 3)) (List.mem_of_getElem? (i := 3) rfl)
theorem dX9_sightBy_83 : decode cX9_sightBy 83 = .ok (.iload 8, 2) := dgX9_sightBy_1 (83, (.iload 8, 2)) (List.mem_of_getElem? (i := 4) rfl)
theorem dX9_sightBy_85 : decode cX9_sightBy 85 = .ok (.ireturn, 1) := dgX9_sightBy_1 (85, (.ireturn, 1)) (List.mem_of_getElem? (i := 5) rfl)
theorem dX9_sightBy_86 : decode cX9_sightBy 86 = .ok (.iinc 9 1, 3) := dgX9_sightBy_1 (86, (.iinc 9 1, 3)) (List.mem_of_getElem? (i := 6) rfl)
theorem dX9_sightBy_89 : decode cX9_sightBy 89 = .ok (.goto (-70), 3) := dgX9_sightBy_1 (89, (.goto (-70), 3)) (List.mem_of_getElem? (i := 7) rfl)
theorem dX9_sightBy_92 : decode cX9_sightBy 92 = .ok (.aload_n 0, 1) := dgX9_sightBy_1 (92, (.aload_n 0, 1)) (List.mem_of_getElem? (i := 8) rfl)
theorem dX9_sightBy_93 : decode cX9_sightBy 93 = .ok (.lload 6, 2) := dgX9_sightBy_1 (93, (.lload 6, 2)) (List.mem_of_getElem? (i := 9) rfl)
theorem dX9_sightBy_95 : decode cX9_sightBy 95 = .ok (.invokevirtual 56, 3) := dgX9_sightBy_1 (95, (.invokevirtual 56, 3)) (List.mem_of_getElem? (i := 10) rfl)
theorem dX9_sightBy_98 : decode cX9_sightBy 98 = .ok (.lstore 6, 2) := dgX9_sightBy_1 (98, (.lstore 6, 2)) (List.mem_of_getElem? (i := 11) rfl)
theorem dX9_sightBy_100 : decode cX9_sightBy 100 = .ok (.iinc 8 1, 3) := dgX9_sightBy_1 (100, (.iinc 8 1, 3)) (List.mem_of_getElem? (i := 12) rfl)
theorem dX9_sightBy_103 : decode cX9_sightBy 103 = .ok (.goto (-94), 3) := dgX9_sightBy_1 (103, (.goto (-94), 3)) (List.mem_of_getElem? (i := 13) rfl)
theorem dX9_sightBy_106 : decode cX9_sightBy 106 = .ok (.iconst (-1), 1) := dgX9_sightBy_1 (106, (.iconst (-1), 1)) (List.mem_of_getElem? (i := 14) rfl)
theorem dX9_sightBy_107 : decode cX9_sightBy 107 = .ok (.ireturn, 1) := dgX9_sightBy_1 (107, (.ireturn, 1)) (List.mem_of_getElem? (i := 15) rfl)
set_option maxHeartbeats 4000000 in
set_option maxRecDepth 100000 in
theorem a_byN (l : Launch) (G : g5_G) (a_k a_h a_g a_gn a_b a_bn a_p a_pn a_bb a_j a_as a_sk a_l a_pt a_wk a_go a_mt a_s a_w : Nat) (sz : Nat) (e_le : Int32) (e_st : Int32) (e_fo : Int32) (e_lc : Int32) (e_g : Int32) (e_b : Int32) (e_p : Int32) (e_ln : Int32) (e_se : Int32) (e_lh : Int32) (e_br : Int32) (e_we : Int32) (e_me : Int32) (e_ce : Int32) (e_wy : Int32) (e_ho : Int32) (e_ov : Int32) (p_g : Int32) (p_b : Int32) (p_c : Int32) (p_f : Int32) (p_e : Int32) (e_wa : Int64) (e_gb : Int64) (f_g : Nat → Int32) (f_b : Nat → Int32) (f_p : Nat → Int32) (f_bb : Nat → Int64) (f_as : Nat → Int32) (f_sk : Nat → Int64) (f_l : Nat → Option Nat) (f_pt : Nat → Int32) (f_go : Nat → Int64) (f_mt : Nat → Int32) (h_e_g : 0 ≤ e_g.toInt ∧ e_g.toInt ≤ 6) (h_e_b : 0 ≤ e_b.toInt ∧ e_b.toInt ≤ 5) (h_e_p : 0 ≤ e_p.toInt ∧ e_p.toInt ≤ 8) (h_e_ov : 0 ≤ e_ov.toInt ∧ e_ov.toInt ≤ 1) (h_p_c : 0 ≤ p_c.toInt ∧ p_c.toInt ≤ 63) (h_p_f : 0 ≤ p_f.toInt ∧ p_f.toInt ≤ 23) (h_p_e : 0 ≤ p_e.toInt ∧ p_e.toInt ≤ 24) (e_gk : gOK f_g e_g.toInt) (e_pk : gOK f_p e_p.toInt) (e_gi : inT e_gb f_g e_g.toInt) (e_f : e_fo.toInt < 0 ∨ e_lc.toInt ≤ e_fo.toInt) : Met l yX9_sightBy (wsG yX9_sightBy cX9_sightBy 11 (some .int)) ({ frames := 15, cells := 0, slots := 0, locals := 580 }) (va_Pc [.ref a_wk, .int p_g, .int p_b, .int p_c, .int p_f, .int p_e] (g5_P G [(a_k, (oc5 a_h a_j a_pt e_ln e_se e_lh e_br e_we e_me e_ce e_wy e_ho e_ov)), (a_h, (oc1 e_wa e_le e_st e_fo e_lc a_l a_g a_b a_s a_p a_w e_gb a_bb)), (a_g, (oc6 6 5 a_gn e_g)), (a_gn, (arI G 30 f_g)), (a_b, (oc6 5 24 a_bn e_b)), (a_bn, (arI G 120 f_b)), (a_p, (oc6 8 5 a_pn e_p)), (a_pn, (arI G 40 f_p)), (a_bb, (arJ G 24 f_bb)), (a_j, (oc2 a_as a_sk)), (a_as, (arI G 8 f_as)), (a_sk, (arJ G 50 f_sk)), (a_l, (arW G 6 f_l)), (a_pt, (arI G 200 f_pt)), (a_wk, (oc9 a_h a_k a_go a_mt)), (a_go, (arJ G 24 f_go)), (a_mt, (arI G 1536 f_mt))] sz)) (va_Qi (fun (r : Int32) (u : va_W) => (∃ (o_r : Int32) (o_ln : Int32) (o_se : Int32) (o_lh : Int32) (o_br : Int32) (o_we : Int32) (o_me : Int32) (o_ce : Int32) (o_wy : Int32) (o_ho : Int32) (o_ov : Int32) (o_pt : Nat → Int32) (o_as : Nat → Int32) (o_sk : Nat → Int64), (0 ≤ o_ov.toInt ∧ o_ov.toInt ≤ 1) ∧ (-1 ≤ o_r.toInt ∧ o_r.toInt ≤ 23) ∧ (o_r.toInt = -1 ∨ (p_f.toInt ≤ o_r.toInt ∧ o_r.toInt < p_e.toInt)) ∧ (r = o_r) ∧ (u = [(a_k, (oc5 a_h a_j a_pt o_ln o_se o_lh o_br o_we o_me o_ce o_wy o_ho o_ov)), (a_h, (oc1 e_wa e_le e_st e_fo e_lc a_l a_g a_b a_s a_p a_w e_gb a_bb)), (a_g, (oc6 6 5 a_gn e_g)), (a_gn, (arI G 30 f_g)), (a_b, (oc6 5 24 a_bn e_b)), (a_bn, (arI G 120 f_b)), (a_p, (oc6 8 5 a_pn e_p)), (a_pn, (arI G 40 f_p)), (a_bb, (arJ G 24 f_bb)), (a_j, (oc2 a_as a_sk)), (a_as, (arI G 8 o_as)), (a_sk, (arJ G 50 o_sk)), (a_l, (arW G 6 f_l)), (a_pt, (arI G 200 o_pt)), (a_wk, (oc9 a_h a_k a_go a_mt)), (a_go, (arJ G 24 f_go)), (a_mt, (arI G 1536 f_mt))]))) (g5_B G (va_A [(a_k, (oc5 a_h a_j a_pt e_ln e_se e_lh e_br e_we e_me e_ce e_wy e_ho e_ov)), (a_h, (oc1 e_wa e_le e_st e_fo e_lc a_l a_g a_b a_s a_p a_w e_gb a_bb)), (a_g, (oc6 6 5 a_gn e_g)), (a_gn, (arI G 30 f_g)), (a_b, (oc6 5 24 a_bn e_b)), (a_bn, (arI G 120 f_b)), (a_p, (oc6 8 5 a_pn e_p)), (a_pn, (arI G 40 f_p)), (a_bb, (arJ G 24 f_bb)), (a_j, (oc2 a_as a_sk)), (a_as, (arI G 8 f_as)), (a_sk, (arJ G 50 f_sk)), (a_l, (arW G 6 f_l)), (a_pt, (arI G 200 f_pt)), (a_wk, (oc9 a_h a_k a_go a_mt)), (a_go, (arJ G 24 f_go)), (a_mt, (arI G 1536 f_mt))] sz)) (va_A [(a_k, (oc5 a_h a_j a_pt e_ln e_se e_lh e_br e_we e_me e_ce e_wy e_ho e_ov)), (a_h, (oc1 e_wa e_le e_st e_fo e_lc a_l a_g a_b a_s a_p a_w e_gb a_bb)), (a_g, (oc6 6 5 a_gn e_g)), (a_gn, (arI G 30 f_g)), (a_b, (oc6 5 24 a_bn e_b)), (a_bn, (arI G 120 f_b)), (a_p, (oc6 8 5 a_pn e_p)), (a_pn, (arI G 40 f_p)), (a_bb, (arJ G 24 f_bb)), (a_j, (oc2 a_as a_sk)), (a_as, (arI G 8 f_as)), (a_sk, (arJ G 50 f_sk)), (a_l, (arW G 6 f_l)), (a_pt, (arI G 200 f_pt)), (a_wk, (oc9 a_h a_k a_go a_mt)), (a_go, (arJ G 24 f_go)), (a_mt, (arI G 1536 f_mt))] sz)) 0 0 (va_A [(a_k, (oc5 a_h a_j a_pt e_ln e_se e_lh e_br e_we e_me e_ce e_wy e_ho e_ov)), (a_h, (oc1 e_wa e_le e_st e_fo e_lc a_l a_g a_b a_s a_p a_w e_gb a_bb)), (a_g, (oc6 6 5 a_gn e_g)), (a_gn, (arI G 30 f_g)), (a_b, (oc6 5 24 a_bn e_b)), (a_bn, (arI G 120 f_b)), (a_p, (oc6 8 5 a_pn e_p)), (a_pn, (arI G 40 f_p)), (a_bb, (arJ G 24 f_bb)), (a_j, (oc2 a_as a_sk)), (a_as, (arI G 8 f_as)), (a_sk, (arJ G 50 f_sk)), (a_l, (arW G 6 f_l)), (a_pt, (arI G 200 f_pt)), (a_wk, (oc9 a_h a_k a_go a_mt)), (a_go, (arJ G 24 f_go)), (a_mt, (arI G 1536 f_mt))] sz) := by
  refine Met.ofW (cc := cX9_sightBy) (maxL := 11) (ret := (some .int)) (by decide +kernel) rfl ?_
  intro p e s m args below meth c s₁ B hml hv
  obtain ⟨rfl, hsz, hP, hK, hD0, hN, hT⟩ := hv
  have hx := B.exec
  have hb := B.bytes
  have hr := B.returns
  have hts : ∀ w ∈ tblG, w.before _ s = true := fun w h => atoms_spec (ws := (wsG yX9_sightBy cX9_sightBy 11 (some .int))) B.pre w (List.mem_cons_of_mem _ h)
  have hown : s.vm.findClass RX9 = some m.cls := findClass_of_methodNamed B.named
  have hlocks := B.notSynchronized
  subst hsz
  have hD := hD0.self (sz := s.heap.size)
  generalize hAe : va_A [(a_k, (oc5 a_h a_j a_pt e_ln e_se e_lh e_br e_we e_me e_ce e_wy e_ho e_ov)), (a_h, (oc1 e_wa e_le e_st e_fo e_lc a_l a_g a_b a_s a_p a_w e_gb a_bb)), (a_g, (oc6 6 5 a_gn e_g)), (a_gn, (arI G 30 f_g)), (a_b, (oc6 5 24 a_bn e_b)), (a_bn, (arI G 120 f_b)), (a_p, (oc6 8 5 a_pn e_p)), (a_pn, (arI G 40 f_p)), (a_bb, (arJ G 24 f_bb)), (a_j, (oc2 a_as a_sk)), (a_as, (arI G 8 f_as)), (a_sk, (arJ G 50 f_sk)), (a_l, (arW G 6 f_l)), (a_pt, (arI G 200 f_pt)), (a_wk, (oc9 a_h a_k a_go a_mt)), (a_go, (arJ G 24 f_go)), (a_mt, (arI G 1536 f_mt))] s.heap.size = A at hD hT ⊢
  have hA : ∀ q : Nat, s.heap.size ≤ q → A q := fun q h => by rw [← hAe]; exact Or.inr h
  have hS : va_S A s.heap s.heap [] := va_S.rf
  replace hP : va_P G.1 vwCl [(a_k, (oc5 a_h a_j a_pt e_ln e_se e_lh e_br e_we e_me e_ce e_wy e_ho e_ov)), (a_h, (oc1 e_wa e_le e_st e_fo e_lc a_l a_g a_b a_s a_p a_w e_gb a_bb)), (a_g, (oc6 6 5 a_gn e_g)), (a_gn, (arI G 30 f_g)), (a_b, (oc6 5 24 a_bn e_b)), (a_bn, (arI G 120 f_b)), (a_p, (oc6 8 5 a_pn e_p)), (a_pn, (arI G 40 f_p)), (a_bb, (arJ G 24 f_bb)), (a_j, (oc2 a_as a_sk)), (a_as, (arI G 8 f_as)), (a_sk, (arJ G 50 f_sk)), (a_l, (arW G 6 f_l)), (a_pt, (arI G 200 f_pt)), (a_wk, (oc9 a_h a_k a_go a_mt)), (a_go, (arJ G 24 f_go)), (a_mt, (arI G 1536 f_mt))] s.heap := hP
  have hl := lv_entry ([.ref a_wk, .int p_g, .int p_b, .int p_c, .int p_f, .int p_e]) (n := 11) (Nat.le_of_ble_eq_true rfl)
  rw [lg_entry_eq]
  generalize (lg_sl ([.ref a_wk, .int p_g, .int p_b, .int p_c, .int p_f, .int p_e]) ++ List.replicate (11 - (lg_sl ([.ref a_wk, .int p_g, .int p_b, .int p_c, .int p_f, .int p_e])).length) Slot.unset).toArray = ls at hl ⊢
  replace hl : lv_has ls 11 [(0, .ref a_wk), (1, .int p_g), (2, .int p_b), (3, .int p_c), (4, .int p_f), (5, .int p_e)] := hl
  refine lv_lconst (v := 1) hx hb dX9_sightBy_0 (by decide +kernel) ?_
  refine lv_iload_n hx hb dX9_sightBy_1 rfl (lv_at hl 3 rfl) ?_
  refine lv_lshl (v := ((1 : Int64) <<< (p_c.toInt64 &&& 63))) hx hb dX9_sightBy_2 rfl ?_
  refine lv_lstore (lv' := [(6, .long ((1 : Int64) <<< (p_c.toInt64 &&& 63))), (0, .ref a_wk), (1, .int p_g), (2, .int p_b), (3, .int p_c), (4, .int p_f), (5, .int p_e)]) hx hb dX9_sightBy_3 hl (by decide +kernel) rfl ?_
  clear hl
  intro ls hl
  refine W.eq (g2 := F0 m 5 ls []) rfl ?_
  refine lv_iload hx hb dX9_sightBy_5 (lv_at hl 5 rfl) ?_
  refine lv_istore (lv' := [(8, .int p_f), (6, .long ((1 : Int64) <<< (p_c.toInt64 &&& 63))), (0, .ref a_wk), (1, .int p_g), (2, .int p_b), (3, .int p_c), (4, .int p_f), (5, .int p_e)]) hx hb dX9_sightBy_7 hl (by decide +kernel) rfl ?_
  clear hl
  intro ls hl
  refine g5_loop (α := (Int64) × (Int32) × (Int32) × (Int32) × (Int32) × (Int32) × (Int32) × (Int32) × (Int32) × (Int32) × (Int32) × (Nat → Int32) × (Nat → Int32) × (Nat → Int64) × (Int32)) (fun (q : (Int64) × (Int32) × (Int32) × (Int32) × (Int32) × (Int32) × (Int32) × (Int32) × (Int32) × (Int32) × (Int32) × (Nat → Int32) × (Nat → Int32) × (Nat → Int64) × (Int32)) (ls : Array Slot) (H : Heap) (locs : List Loc) => match q with | (k_x, k_h, k_se, k_lh, k_br, k_we, k_me, k_ce, k_wy, k_ho, k_ov, k_pt, k_as, k_sk, k_ln) => lv_has ls 11 [(6, .long k_x), (8, .int k_h), (0, .ref a_wk), (1, .int p_g), (2, .int p_b), (3, .int p_c), (4, .int p_f), (5, .int p_e)] ∧ va_P G.1 vwCl [(a_k, (oc5 a_h a_j a_pt k_ln k_se k_lh k_br k_we k_me k_ce k_wy k_ho k_ov)), (a_h, (oc1 e_wa e_le e_st e_fo e_lc a_l a_g a_b a_s a_p a_w e_gb a_bb)), (a_g, (oc6 6 5 a_gn e_g)), (a_gn, (arI G 30 f_g)), (a_b, (oc6 5 24 a_bn e_b)), (a_bn, (arI G 120 f_b)), (a_p, (oc6 8 5 a_pn e_p)), (a_pn, (arI G 40 f_p)), (a_bb, (arJ G 24 f_bb)), (a_j, (oc2 a_as a_sk)), (a_as, (arI G 8 k_as)), (a_sk, (arJ G 50 k_sk)), (a_l, (arW G 6 f_l)), (a_pt, (arI G 200 k_pt)), (a_wk, (oc9 a_h a_k a_go a_mt)), (a_go, (arJ G 24 f_go)), (a_mt, (arI G 1536 f_mt))] H ∧ va_D A [(a_k, (oc5 a_h a_j a_pt k_ln k_se k_lh k_br k_we k_me k_ce k_wy k_ho k_ov)), (a_h, (oc1 e_wa e_le e_st e_fo e_lc a_l a_g a_b a_s a_p a_w e_gb a_bb)), (a_g, (oc6 6 5 a_gn e_g)), (a_gn, (arI G 30 f_g)), (a_b, (oc6 5 24 a_bn e_b)), (a_bn, (arI G 120 f_b)), (a_p, (oc6 8 5 a_pn e_p)), (a_pn, (arI G 40 f_p)), (a_bb, (arJ G 24 f_bb)), (a_j, (oc2 a_as a_sk)), (a_as, (arI G 8 k_as)), (a_sk, (arJ G 50 k_sk)), (a_l, (arW G 6 f_l)), (a_pt, (arI G 200 k_pt)), (a_wk, (oc9 a_h a_k a_go a_mt)), (a_go, (arJ G 24 f_go)), (a_mt, (arI G 1536 f_mt))] ∧ va_S A s.heap H locs ∧ (0 ≤ k_h.toInt ∧ k_h.toInt ≤ 24) ∧ (0 ≤ k_ov.toInt ∧ k_ov.toInt ≤ 1) ∧ (p_f.toInt ≤ k_h.toInt)) (fun (q : (Int64) × (Int32) × (Int32) × (Int32) × (Int32) × (Int32) × (Int32) × (Int32) × (Int32) × (Int32) × (Int32) × (Nat → Int32) × (Nat → Int32) × (Nat → Int64) × (Int32)) => match q with | (k_x, k_h, k_se, k_lh, k_br, k_we, k_me, k_ce, k_wy, k_ho, k_ov, k_pt, k_as, k_sk, k_ln) => Int.toNat (24 - k_h.toInt)) (((1 : Int64) <<< (p_c.toInt64 &&& 63)), p_f, e_se, e_lh, e_br, e_we, e_me, e_ce, e_wy, e_ho, e_ov, f_pt, f_as, f_sk, e_ln) ⟨lv_sub hl [1, 0, 2, 3, 4, 5, 6, 7] rfl, hP, hD, hS, ⟨by omega, by omega⟩, h_e_ov, by omega⟩ ?_
  rintro ⟨k_x, k_h, k_se, k_lh, k_br, k_we, k_me, k_ce, k_wy, k_ho, k_ov, k_pt, k_as, k_sk, k_ln⟩ ls H locs ⟨hl, hP, hD, hS, (i_1 : 0 ≤ k_h.toInt ∧ k_h.toInt ≤ 24), (i_2 : 0 ≤ k_ov.toInt ∧ k_ov.toInt ≤ 1), (i_3 : p_f.toInt ≤ k_h.toInt)⟩ ih_9_4
  replace hl : lv_has ls 11 [(6, .long k_x), (8, .int k_h), (0, .ref a_wk), (1, .int p_g), (2, .int p_b), (3, .int p_c), (4, .int p_f), (5, .int p_e)] := hl
  refine g5_rs [(a_k, (oc5 a_h a_j a_pt k_ln k_se k_lh k_br k_we k_me k_ce k_wy k_ho k_ov)), (a_h, (oc1 e_wa e_le e_st e_fo e_lc a_l a_g a_b a_s a_p a_w e_gb a_bb)), (a_g, (oc6 6 5 a_gn e_g)), (a_gn, (arI G 30 f_g)), (a_b, (oc6 5 24 a_bn e_b)), (a_bn, (arI G 120 f_b)), (a_p, (oc6 8 5 a_pn e_p)), (a_pn, (arI G 40 f_p)), (a_bb, (arJ G 24 f_bb)), (a_j, (oc2 a_as a_sk)), (a_as, (arI G 8 k_as)), (a_sk, (arJ G 50 k_sk)), (a_l, (arW G 6 f_l)), (a_pt, (arI G 200 k_pt)), (a_wk, (oc9 a_h a_k a_go a_mt)), (a_go, (arJ G 24 f_go)), (a_mt, (arI G 1536 f_mt))] hP hD ?_
  clear hP hD
  intro hP hD
  refine lv_iload hx hb dX9_sightBy_9 (lv_at hl 1 rfl) ?_
  refine lv_iload hx hb dX9_sightBy_11 (lv_at hl 7 rfl) ?_
  refine lv_icmp_ge (tgt := 106) hx hb dX9_sightBy_13 (by decide +kernel) (fun c_5 => ?_) (fun c_5 => ?_)
  ·
    have i_5 : k_h.toInt ≥ p_e.toInt := g5_ge (a := k_h.toInt) (b := p_e.toInt) rfl rfl c_5
    refine lv_iconst (v := (-1)) hx hb dX9_sightBy_106 (by decide +kernel) ?_
    exact W.iret (v := (-1)) hx hb hr (fun t ht hW => ⟨⟨(-1), [(a_k, (oc5 a_h a_j a_pt k_ln k_se k_lh k_br k_we k_me k_ce k_wy k_ho k_ov)), (a_h, (oc1 e_wa e_le e_st e_fo e_lc a_l a_g a_b a_s a_p a_w e_gb a_bb)), (a_g, (oc6 6 5 a_gn e_g)), (a_gn, (arI G 30 f_g)), (a_b, (oc6 5 24 a_bn e_b)), (a_bn, (arI G 120 f_b)), (a_p, (oc6 8 5 a_pn e_p)), (a_pn, (arI G 40 f_p)), (a_bb, (arJ G 24 f_bb)), (a_j, (oc2 a_as a_sk)), (a_as, (arI G 8 k_as)), (a_sk, (arJ G 50 k_sk)), (a_l, (arW G 6 f_l)), (a_pt, (arI G 200 k_pt)), (a_wk, (oc9 a_h a_k a_go a_mt)), (a_go, (arJ G 24 f_go)), (a_mt, (arI G 1536 f_mt))], rfl, ⟨(-1), k_ln, k_se, k_lh, k_br, k_we, k_me, k_ce, k_wy, k_ho, k_ov, k_pt, k_as, k_sk, i_2, ⟨by have zc_o_r : ((-1) : Int32).toInt = (-1) := (by decide +kernel); omega, by have zc_o_r : ((-1) : Int32).toInt = (-1) := (by decide +kernel); omega⟩, Or.inl (by decide +kernel), rfl, rfl⟩, by rw [ht]; exact hP.sub [0, 1, 2, 3, 4, 5, 6, 7, 8, 9, 10, 11, 12, 13, 14, 15, 16] rfl, hD.sub [0, 1, 2, 3, 4, 5, 6, 7, 8, 9, 10, 11, 12, 13, 14, 15, 16] (by decide +kernel) rfl⟩, hS.F ht⟩) hS.2.2 dX9_sightBy_107
  ·
    have i_5 : k_h.toInt < p_e.toInt := g5_geN (a := k_h.toInt) (b := p_e.toInt) rfl rfl c_5
    refine lv_iconst (v := 0) hx hb dX9_sightBy_16 (by decide +kernel) ?_
    refine lv_istore (lv' := [(9, .int 0), (6, .long k_x), (8, .int k_h), (0, .ref a_wk), (1, .int p_g), (2, .int p_b), (3, .int p_c), (4, .int p_f), (5, .int p_e)]) hx hb dX9_sightBy_17 hl (by decide +kernel) rfl ?_
    clear hl
    intro ls hl
    refine g5_loop (α := (Int32) × (Int32) × (Int32) × (Int32) × (Int32) × (Int32) × (Int32) × (Int32) × (Int32) × (Int32) × (Nat → Int32) × (Nat → Int32) × (Nat → Int64) × (Int32)) (fun (q : (Int32) × (Int32) × (Int32) × (Int32) × (Int32) × (Int32) × (Int32) × (Int32) × (Int32) × (Int32) × (Nat → Int32) × (Nat → Int32) × (Nat → Int64) × (Int32)) (ls : Array Slot) (H : Heap) (locs : List Loc) => match q with | (m_i, m_se, m_lh, m_br, m_we, m_me, m_ce, m_wy, m_ho, m_ov, m_pt, m_as, m_sk, m_ln) => lv_has ls 11 [(9, .int m_i), (6, .long k_x), (8, .int k_h), (0, .ref a_wk), (1, .int p_g), (2, .int p_b), (3, .int p_c), (4, .int p_f), (5, .int p_e)] ∧ va_P G.1 vwCl [(a_k, (oc5 a_h a_j a_pt m_ln m_se m_lh m_br m_we m_me m_ce m_wy m_ho m_ov)), (a_h, (oc1 e_wa e_le e_st e_fo e_lc a_l a_g a_b a_s a_p a_w e_gb a_bb)), (a_g, (oc6 6 5 a_gn e_g)), (a_gn, (arI G 30 f_g)), (a_b, (oc6 5 24 a_bn e_b)), (a_bn, (arI G 120 f_b)), (a_p, (oc6 8 5 a_pn e_p)), (a_pn, (arI G 40 f_p)), (a_bb, (arJ G 24 f_bb)), (a_j, (oc2 a_as a_sk)), (a_as, (arI G 8 m_as)), (a_sk, (arJ G 50 m_sk)), (a_l, (arW G 6 f_l)), (a_pt, (arI G 200 m_pt)), (a_wk, (oc9 a_h a_k a_go a_mt)), (a_go, (arJ G 24 f_go)), (a_mt, (arI G 1536 f_mt))] H ∧ va_D A [(a_k, (oc5 a_h a_j a_pt m_ln m_se m_lh m_br m_we m_me m_ce m_wy m_ho m_ov)), (a_h, (oc1 e_wa e_le e_st e_fo e_lc a_l a_g a_b a_s a_p a_w e_gb a_bb)), (a_g, (oc6 6 5 a_gn e_g)), (a_gn, (arI G 30 f_g)), (a_b, (oc6 5 24 a_bn e_b)), (a_bn, (arI G 120 f_b)), (a_p, (oc6 8 5 a_pn e_p)), (a_pn, (arI G 40 f_p)), (a_bb, (arJ G 24 f_bb)), (a_j, (oc2 a_as a_sk)), (a_as, (arI G 8 m_as)), (a_sk, (arJ G 50 m_sk)), (a_l, (arW G 6 f_l)), (a_pt, (arI G 200 m_pt)), (a_wk, (oc9 a_h a_k a_go a_mt)), (a_go, (arJ G 24 f_go)), (a_mt, (arI G 1536 f_mt))] ∧ va_S A s.heap H locs ∧ (0 ≤ m_i.toInt ∧ m_i.toInt ≤ 64) ∧ (0 ≤ m_ov.toInt ∧ m_ov.toInt ≤ 1)) (fun (q : (Int32) × (Int32) × (Int32) × (Int32) × (Int32) × (Int32) × (Int32) × (Int32) × (Int32) × (Int32) × (Nat → Int32) × (Nat → Int32) × (Nat → Int64) × (Int32)) => match q with | (m_i, m_se, m_lh, m_br, m_we, m_me, m_ce, m_wy, m_ho, m_ov, m_pt, m_as, m_sk, m_ln) => Int.toNat (64 - m_i.toInt)) (0, k_se, k_lh, k_br, k_we, k_me, k_ce, k_wy, k_ho, k_ov, k_pt, k_as, k_sk, k_ln) ⟨lv_sub hl [0, 1, 2, 3, 4, 5, 6, 7, 8] rfl, hP, hD, hS, ⟨by decide, by decide⟩, i_2⟩ ?_
    rintro ⟨m_i, m_se, m_lh, m_br, m_we, m_me, m_ce, m_wy, m_ho, m_ov, m_pt, m_as, m_sk, m_ln⟩ ls H locs ⟨hl, hP, hD, hS, (i_6 : 0 ≤ m_i.toInt ∧ m_i.toInt ≤ 64), (i_7 : 0 ≤ m_ov.toInt ∧ m_ov.toInt ≤ 1)⟩ ih_19_8
    replace hl : lv_has ls 11 [(9, .int m_i), (6, .long k_x), (8, .int k_h), (0, .ref a_wk), (1, .int p_g), (2, .int p_b), (3, .int p_c), (4, .int p_f), (5, .int p_e)] := hl
    refine g5_rs [(a_k, (oc5 a_h a_j a_pt m_ln m_se m_lh m_br m_we m_me m_ce m_wy m_ho m_ov)), (a_h, (oc1 e_wa e_le e_st e_fo e_lc a_l a_g a_b a_s a_p a_w e_gb a_bb)), (a_g, (oc6 6 5 a_gn e_g)), (a_gn, (arI G 30 f_g)), (a_b, (oc6 5 24 a_bn e_b)), (a_bn, (arI G 120 f_b)), (a_p, (oc6 8 5 a_pn e_p)), (a_pn, (arI G 40 f_p)), (a_bb, (arJ G 24 f_bb)), (a_j, (oc2 a_as a_sk)), (a_as, (arI G 8 m_as)), (a_sk, (arJ G 50 m_sk)), (a_l, (arW G 6 f_l)), (a_pt, (arI G 200 m_pt)), (a_wk, (oc9 a_h a_k a_go a_mt)), (a_go, (arJ G 24 f_go)), (a_mt, (arI G 1536 f_mt))] hP hD ?_
    clear hP hD
    intro hP hD
    refine lv_iload hx hb dX9_sightBy_19 (lv_at hl 0 rfl) ?_
    refine lv_bipush (v := 64) hx hb dX9_sightBy_21 (by decide +kernel) ?_
    refine lv_icmp_ge (tgt := 92) hx hb dX9_sightBy_23 (by decide +kernel) (fun c_9 => ?_) (fun c_9 => ?_)
    ·
      have i_9 : m_i.toInt ≥ 64 := g5_ge (a := m_i.toInt) (b := 64) rfl (by decide +kernel) c_9
      refine lv_aload_n hx hb dX9_sightBy_92 rfl (lv_at hl 3 rfl) ?_
      refine lv_lload hx hb dX9_sightBy_93 (lv_at hl 1 rfl) ?_
      obtain ⟨hPc, hDc, hFc⟩ := g5_sub3 (wc := [(a_h, (oc1 e_wa e_le e_st e_fo e_lc a_l a_g a_b a_s a_p a_w e_gb a_bb)), (a_wk, (oc9 a_h a_k a_go a_mt))]) hP hD hS hA [1, 14] (by decide +kernel) rfl
      refine va_calll (va_runV (As := [.long k_x]) (rest := []) ⟨hx, hb, hml, hown, hts⟩ (a_spread l G a_h a_wk a_l a_g a_b a_s a_p a_w a_bb a_k a_go a_mt H.size e_le e_st e_fo e_lc e_wa e_gb k_x) (cwV 1 hts gV_X9_56 rfl rfl rfl hv_X9_spread ⟨Nat.le_of_ble_eq_true rfl, Nat.le_of_ble_eq_true rfl⟩) (g5_preV hPc hK hDc hN hT hS hFc (ci := 9) (q0 := 1) rfl rfl) rfl rfl hl.1 rfl (lv_room (Nat.le_of_ble_eq_true rfl)) dX9_sightBy_95 ⟨Nat.le_of_ble_eq_true rfl, Nat.le_of_ble_eq_true rfl⟩) hS (fun q _ h => hFc q h) hFc (fun r u t H locs ht hvm hw hB hz1 hk1 hS => ?_)
      obtain ⟨hP1, hD1⟩ := hB
      have hP1 := g5_ht ht hP1
      obtain ⟨z10, y11, rfl⟩ := hw
      have hJ9 := va_join (wr := [(a_k, (oc5 a_h a_j a_pt m_ln m_se m_lh m_br m_we m_me m_ce m_wy m_ho m_ov)), (a_g, (oc6 6 5 a_gn e_g)), (a_gn, (arI G 30 f_g)), (a_b, (oc6 5 24 a_bn e_b)), (a_bn, (arI G 120 f_b)), (a_p, (oc6 8 5 a_pn e_p)), (a_pn, (arI G 40 f_p)), (a_bb, (arJ G 24 f_bb)), (a_j, (oc2 a_as a_sk)), (a_as, (arI G 8 m_as)), (a_sk, (arJ G 50 m_sk)), (a_l, (arW G 6 f_l)), (a_pt, (arI G 200 m_pt)), (a_go, (arJ G 24 f_go)), (a_mt, (arI G 1536 f_mt))]) hP hD [1, 14] [0, 2, 3, 4, 5, 6, 7, 8, 9, 10, 11, 12, 13, 15, 16] rfl rfl (by decide +kernel) (by decide +kernel) hk1 hFc hP1 hD1
      clear hP hD hPc hDc hFc ht hvm hz1 hk1 hP1 hD1
      obtain ⟨hP, hD⟩ := hJ9
      refine g5_rs [(a_k, (oc5 a_h a_j a_pt m_ln m_se m_lh m_br m_we m_me m_ce m_wy m_ho m_ov)), (a_g, (oc6 6 5 a_gn e_g)), (a_gn, (arI G 30 f_g)), (a_b, (oc6 5 24 a_bn e_b)), (a_bn, (arI G 120 f_b)), (a_p, (oc6 8 5 a_pn e_p)), (a_pn, (arI G 40 f_p)), (a_bb, (arJ G 24 f_bb)), (a_j, (oc2 a_as a_sk)), (a_as, (arI G 8 m_as)), (a_sk, (arJ G 50 m_sk)), (a_l, (arW G 6 f_l)), (a_pt, (arI G 200 m_pt)), (a_go, (arJ G 24 f_go)), (a_mt, (arI G 1536 f_mt)), (a_h, (oc1 e_wa e_le e_st e_fo e_lc a_l a_g a_b a_s a_p a_w e_gb a_bb)), (a_wk, (oc9 a_h a_k a_go a_mt))] hP hD ?_
      clear hP hD
      intro hP hD
      refine g5_tl (v := z10) y11 ?_
      refine lv_lstore (lv' := [(6, .long z10), (9, .int m_i), (8, .int k_h), (0, .ref a_wk), (1, .int p_g), (2, .int p_b), (3, .int p_c), (4, .int p_f), (5, .int p_e)]) hx hb dX9_sightBy_98 hl (by decide +kernel) rfl ?_
      clear hl
      intro ls hl
      refine W.eq (g2 := F0 m 100 ls []) rfl ?_
      refine lv_iinc (v := (k_h + 1)) (lv' := [(8, .int (k_h + 1)), (6, .long z10), (9, .int m_i), (0, .ref a_wk), (1, .int p_g), (2, .int p_b), (3, .int p_c), (4, .int p_f), (5, .int p_e)]) hx hb dX9_sightBy_100 hl (k := 2) rfl rfl (by decide +kernel) rfl ?_
      clear hl
      intro ls hl
      have t_12 : (k_h + 1).toInt = k_h.toInt + 1 := g5_iadd (a := k_h.toInt) (b := 1) rfl (by decide +kernel) (by omega) (by omega)
      refine lv_goto (tgt := 9) hx hb dX9_sightBy_103 (by decide +kernel) ?_
      exact ih_9_4 (z10, (k_h + 1), m_se, m_lh, m_br, m_we, m_me, m_ce, m_wy, m_ho, m_ov, m_pt, m_as, m_sk, m_ln) ls H locs (show Int.toNat (24 - (k_h + 1).toInt) < Int.toNat (24 - k_h.toInt) from g_up (show k_h.toInt < (k_h + 1).toInt by omega) (show k_h.toInt < 24 by omega)) ⟨lv_sub hl [1, 0, 3, 4, 5, 6, 7, 8] rfl, hP.sub [0, 15, 1, 2, 3, 4, 5, 6, 7, 8, 9, 10, 11, 12, 16, 13, 14] rfl, hD.sub [0, 15, 1, 2, 3, 4, 5, 6, 7, 8, 9, 10, 11, 12, 16, 13, 14] (by decide +kernel) rfl, hS, ⟨by omega, by omega⟩, i_7, by omega⟩
    ·
      have i_9 : m_i.toInt < 64 := g5_geN (a := m_i.toInt) (b := 64) rfl (by decide +kernel) c_9
      refine lv_lload hx hb dX9_sightBy_26 (lv_at hl 1 rfl) ?_
      refine lv_iload hx hb dX9_sightBy_28 (lv_at hl 0 rfl) ?_
      obtain ⟨hPc, hDc, hFc⟩ := g5_sub3 (wc := []) hP hD hS hA [] (by decide +kernel) rfl
      refine va_calli (va_runSN (As := [.long k_x, .int m_i]) (rest := []) ⟨hx, hb, hml, hown, hts⟩ (k_isOn l G H.size m_i k_x ⟨by omega, by omega⟩) ⟨va_cnB 2 hts gW_X11_isOn rfl rfl rfl (hN.1 _ g5_nw_X9_43) (hts _ ini_X11) hs_X11_isOn ⟨Nat.le_of_ble_eq_true rfl, Nat.le_of_ble_eq_true rfl⟩, hts _ st_X11_isOn, trivial⟩ (g5_preS hPc hK hDc hN hT hS hFc) rfl rfl hl.1 rfl (lv_room (Nat.le_of_ble_eq_true rfl)) dX9_sightBy_30 ⟨Nat.le_of_ble_eq_true rfl, Nat.le_of_ble_eq_true rfl⟩) hS (fun q _ h => hFc q h) hFc (fun r u t H locs ht hvm hw hB hz1 hk1 hS => ?_)
      obtain ⟨hP1, hD1⟩ := hB
      have hP1 := g5_ht ht hP1
      rcases hw with ⟨(i_13 : onB k_x m_i.toInt = false), rfl, rfl⟩ | ⟨(i_14 : onB k_x m_i.toInt = true), rfl, rfl⟩
      ·
        have hJ9 := g5_same hP hk1
        clear hP hPc hDc hFc ht hvm hz1 hk1 hP1 hD1
        have hP := hJ9
        clear hJ9
        refine lv_if_eq (tgt := 60) hx hb dX9_sightBy_33 (by decide +kernel) (fun c_15 => ?_) (fun c_15 => ?_)
        ·
          refine lv_iconst (v := 0) hx hb dX9_sightBy_60 (by decide +kernel) ?_
          refine lv_istore (lv' := [(10, .int 0), (9, .int m_i), (6, .long k_x), (8, .int k_h), (0, .ref a_wk), (1, .int p_g), (2, .int p_b), (3, .int p_c), (4, .int p_f), (5, .int p_e)]) hx hb dX9_sightBy_61 hl (by decide +kernel) rfl ?_
          clear hl
          intro ls hl
          refine lv_iload hx hb dX9_sightBy_63 (lv_at hl 0 rfl) ?_
          refine lv_if_eq (tgt := 86) hx hb dX9_sightBy_65 (by decide +kernel) (fun c_16 => ?_) (fun c_16 => ?_)
          ·
            refine lv_iinc (v := (m_i + 1)) (lv' := [(9, .int (m_i + 1)), (10, .int 0), (6, .long k_x), (8, .int k_h), (0, .ref a_wk), (1, .int p_g), (2, .int p_b), (3, .int p_c), (4, .int p_f), (5, .int p_e)]) hx hb dX9_sightBy_86 hl (k := 1) rfl rfl (by decide +kernel) rfl ?_
            clear hl
            intro ls hl
            have t_17 : (m_i + 1).toInt = m_i.toInt + 1 := g5_iadd (a := m_i.toInt) (b := 1) rfl (by decide +kernel) (by omega) (by omega)
            refine lv_goto (tgt := 19) hx hb dX9_sightBy_89 (by decide +kernel) ?_
            exact ih_19_8 ((m_i + 1), m_se, m_lh, m_br, m_we, m_me, m_ce, m_wy, m_ho, m_ov, m_pt, m_as, m_sk, m_ln) ls H locs (show Int.toNat (64 - (m_i + 1).toInt) < Int.toNat (64 - m_i.toInt) from g_up (show m_i.toInt < (m_i + 1).toInt by omega) (show m_i.toInt < 64 by omega)) ⟨lv_sub hl [0, 2, 3, 4, 5, 6, 7, 8, 9] rfl, hP, hD, hS, ⟨by omega, by omega⟩, i_7⟩
          ·
            exact absurd c_16 (by decide +kernel)
        ·
          exact absurd c_15 (by decide +kernel)
      ·
        have hJ9 := g5_same hP hk1
        clear hP hPc hDc hFc ht hvm hz1 hk1 hP1 hD1
        have hP := hJ9
        clear hJ9
        refine lv_if_eq (tgt := 60) hx hb dX9_sightBy_33 (by decide +kernel) (fun c_18 => ?_) (fun c_18 => ?_)
        ·
          exact absurd c_18 (by decide +kernel)
        ·
          refine lv_aload_n hx hb dX9_sightBy_36 rfl (lv_at hl 3 rfl) ?_
          refine va_get (D := G.1) (ci := 9) (v := .ref a_mt) (C := RX9) (T := TX9) (N := 4) hx hb hts inG_X9 hown hK hP 14 rfl rfl 3 (by decide +kernel) (hts _ fl_X9_15) (fun _ h9 => h9) rfl dX9_sightBy_37 ?_
          refine lv_iload hx hb dX9_sightBy_40 (lv_at hl 2 rfl) ?_
          refine lv_bipush (v := 64) hx hb dX9_sightBy_42 (by decide +kernel) ?_
          refine W.eq (g2 := F0 m 44 ls [.int 64, .int k_h, .ref a_mt]) rfl ?_
          refine lv_imul hx hb dX9_sightBy_44 ?_
          have t_19 : (k_h * 64).toInt = k_h.toInt * 64 := g5_imul (a := k_h.toInt) (b := 64) (by rfl) (by decide +kernel) (by omega) (by omega)
          refine lv_iload hx hb dX9_sightBy_45 (lv_at hl 0 rfl) ?_
          refine lv_iadd hx hb dX9_sightBy_47 ?_
          have t_20 : ((k_h * 64) + m_i).toInt = (k_h * 64).toInt + m_i.toInt := g5_iadd (a := (k_h * 64).toInt) (b := m_i.toInt) (by rfl) (by rfl) (by omega) (by omega)
          refine va_iald hx hb hK hP 16 0 rfl rfl (i := ((k_h * 64) + m_i)) (vp_in_iff.mpr ⟨by omega, by omega⟩) dX9_sightBy_48 ?_
          refine lv_iload_n hx hb dX9_sightBy_49 rfl (lv_at hl 4 rfl) ?_
          refine W.eq (g2 := F0 m 50 ls [.int p_g, .int (f_mt ((k_h * 64) + m_i).toNatClampNeg)]) rfl ?_
          refine lv_ishr hx hb dX9_sightBy_50 ?_
          refine lv_iconst (v := 1) hx hb dX9_sightBy_51 (by decide +kernel) ?_
          refine lv_iand hx hb dX9_sightBy_52 ?_
          refine lv_if_eq (tgt := 60) hx hb dX9_sightBy_53 (by decide +kernel) (fun c_21 => ?_) (fun c_21 => ?_)
          ·
            have i_21 : (((f_mt ((k_h * 64) + m_i).toNatClampNeg) >>> (p_g &&& 31)) &&& 1).toInt = 0 := g5_eq (a := (((f_mt ((k_h * 64) + m_i).toNatClampNeg) >>> (p_g &&& 31)) &&& 1).toInt) (b := 0) rfl (by decide +kernel) c_21
            refine lv_iconst (v := 0) hx hb dX9_sightBy_60 (by decide +kernel) ?_
            refine lv_istore (lv' := [(10, .int 0), (9, .int m_i), (6, .long k_x), (8, .int k_h), (0, .ref a_wk), (1, .int p_g), (2, .int p_b), (3, .int p_c), (4, .int p_f), (5, .int p_e)]) hx hb dX9_sightBy_61 hl (by decide +kernel) rfl ?_
            clear hl
            intro ls hl
            refine lv_iload hx hb dX9_sightBy_63 (lv_at hl 0 rfl) ?_
            refine lv_if_eq (tgt := 86) hx hb dX9_sightBy_65 (by decide +kernel) (fun c_22 => ?_) (fun c_22 => ?_)
            ·
              refine lv_iinc (v := (m_i + 1)) (lv' := [(9, .int (m_i + 1)), (10, .int 0), (6, .long k_x), (8, .int k_h), (0, .ref a_wk), (1, .int p_g), (2, .int p_b), (3, .int p_c), (4, .int p_f), (5, .int p_e)]) hx hb dX9_sightBy_86 hl (k := 1) rfl rfl (by decide +kernel) rfl ?_
              clear hl
              intro ls hl
              have t_23 : (m_i + 1).toInt = m_i.toInt + 1 := g5_iadd (a := m_i.toInt) (b := 1) rfl (by decide +kernel) (by omega) (by omega)
              refine lv_goto (tgt := 19) hx hb dX9_sightBy_89 (by decide +kernel) ?_
              exact ih_19_8 ((m_i + 1), m_se, m_lh, m_br, m_we, m_me, m_ce, m_wy, m_ho, m_ov, m_pt, m_as, m_sk, m_ln) ls H locs (show Int.toNat (64 - (m_i + 1).toInt) < Int.toNat (64 - m_i.toInt) from g_up (show m_i.toInt < (m_i + 1).toInt by omega) (show m_i.toInt < 64 by omega)) ⟨lv_sub hl [0, 2, 3, 4, 5, 6, 7, 8, 9] rfl, hP, hD, hS, ⟨by omega, by omega⟩, i_7⟩
            ·
              exact absurd c_22 (by decide +kernel)
          ·
            have n_21 : gNe ((((f_mt ((k_h * 64) + m_i).toNatClampNeg) >>> (p_g &&& 31)) &&& 1).toInt) (0) := g5_eqN (a := (((f_mt ((k_h * 64) + m_i).toNatClampNeg) >>> (p_g &&& 31)) &&& 1).toInt) (b := 0) rfl (by decide +kernel) c_21
            refine lv_iconst (v := 1) hx hb dX9_sightBy_56 (by decide +kernel) ?_
            refine lv_goto (tgt := 61) hx hb dX9_sightBy_57 (by decide +kernel) ?_
            refine lv_istore (lv' := [(10, .int 1), (9, .int m_i), (6, .long k_x), (8, .int k_h), (0, .ref a_wk), (1, .int p_g), (2, .int p_b), (3, .int p_c), (4, .int p_f), (5, .int p_e)]) hx hb dX9_sightBy_61 hl (by decide +kernel) rfl ?_
            clear hl
            intro ls hl
            refine lv_iload hx hb dX9_sightBy_63 (lv_at hl 0 rfl) ?_
            refine W.eq (g2 := F0 m 65 ls [.int 1]) rfl ?_
            refine lv_if_eq (tgt := 86) hx hb dX9_sightBy_65 (by decide +kernel) (fun c_24 => ?_) (fun c_24 => ?_)
            ·
              exact absurd c_24 (by decide +kernel)
            ·
              refine lv_aload_n hx hb dX9_sightBy_68 rfl (lv_at hl 4 rfl) ?_
              refine va_get (D := G.1) (ci := 9) (v := .ref a_k) (C := RX9) (T := TX9) (N := 4) hx hb hts inG_X9 hown hK hP 14 rfl rfl 1 (by decide +kernel) (hts _ fl_X9_23) (fun _ h9 => h9) rfl dX9_sightBy_69 ?_
              refine lv_iload_n hx hb dX9_sightBy_72 rfl (lv_at hl 6 rfl) ?_
              refine lv_iload hx hb dX9_sightBy_73 (lv_at hl 1 rfl) ?_
              refine W.eq (g2 := F0 m 75 ls [.int m_i, .int p_b, .ref a_k]) rfl ?_
              refine lv_iload hx hb dX9_sightBy_75 (lv_at hl 3 rfl) ?_
              obtain ⟨hPc, hDc, hFc⟩ := g5_sub3 (wc := [(a_k, (oc5 a_h a_j a_pt m_ln m_se m_lh m_br m_we m_me m_ce m_wy m_ho m_ov)), (a_h, (oc1 e_wa e_le e_st e_fo e_lc a_l a_g a_b a_s a_p a_w e_gb a_bb)), (a_g, (oc6 6 5 a_gn e_g)), (a_gn, (arI G 30 f_g)), (a_b, (oc6 5 24 a_bn e_b)), (a_bn, (arI G 120 f_b)), (a_p, (oc6 8 5 a_pn e_p)), (a_pn, (arI G 40 f_p)), (a_bb, (arJ G 24 f_bb)), (a_j, (oc2 a_as a_sk)), (a_as, (arI G 8 m_as)), (a_sk, (arJ G 50 m_sk)), (a_l, (arW G 6 f_l)), (a_pt, (arI G 200 m_pt))]) hP hD hS hA [0, 1, 2, 3, 4, 5, 6, 7, 8, 9, 10, 11, 12, 13] (by decide +kernel) rfl
              refine va_calli (va_runV (As := [.int p_b, .int m_i, .int k_h]) (rest := []) ⟨hx, hb, hml, hown, hts⟩ (s_findsBodyN l G a_k a_h a_g a_gn a_b a_bn a_p a_pn a_bb a_j a_as a_sk a_l a_pt a_s a_w H.size e_le e_st e_fo e_lc e_g e_b e_p m_ln m_se m_lh m_br m_we m_me m_ce m_wy m_ho m_ov m_i k_h p_b e_wa e_gb f_g f_b f_p f_bb m_as m_sk f_l m_pt h_e_g h_e_b h_e_p i_7 (e_gk) (e_pk) (e_gi) (e_f)) (cwV 3 hts gV_X9_47 rfl rfl rfl hv_X5_findsBody ⟨Nat.le_of_ble_eq_true rfl, Nat.le_of_ble_eq_true rfl⟩) (g5_preV hPc hK hDc hN hT hS hFc (ci := 5) (q0 := 0) rfl rfl) rfl rfl hl.1 rfl (lv_room (Nat.le_of_ble_eq_true rfl)) dX9_sightBy_77 ⟨Nat.le_of_ble_eq_true rfl, Nat.le_of_ble_eq_true rfl⟩) hS (fun q _ h => hFc q h) hFc (fun r u t H locs ht hvm hw hB hz1 hk1 hS => ?_)
              obtain ⟨hP1, hD1⟩ := hB
              have hP1 := g5_ht ht hP1
              obtain ⟨z27, z28, z29, z30, z31, z32, z33, z34, z35, z36, z37, z38, z39, z40, (i_25 : 0 ≤ z27.toInt ∧ z27.toInt ≤ 1), (i_26 : 0 ≤ z37.toInt ∧ z37.toInt ≤ 1), y41, rfl⟩ := hw
              have hJ9 := va_join (wr := [(a_wk, (oc9 a_h a_k a_go a_mt)), (a_go, (arJ G 24 f_go)), (a_mt, (arI G 1536 f_mt))]) hP hD [0, 1, 2, 3, 4, 5, 6, 7, 8, 9, 10, 11, 12, 13] [14, 15, 16] rfl rfl (by decide +kernel) (by decide +kernel) hk1 hFc hP1 hD1
              clear hP hD hPc hDc hFc ht hvm hz1 hk1 hP1 hD1
              obtain ⟨hP, hD⟩ := hJ9
              refine g5_rs [(a_wk, (oc9 a_h a_k a_go a_mt)), (a_go, (arJ G 24 f_go)), (a_mt, (arI G 1536 f_mt)), (a_k, (oc5 a_h a_j a_pt z28 z29 z30 z31 z32 z33 z34 z35 z36 z37)), (a_h, (oc1 e_wa e_le e_st e_fo e_lc a_l a_g a_b a_s a_p a_w e_gb a_bb)), (a_g, (oc6 6 5 a_gn e_g)), (a_gn, (arI G 30 f_g)), (a_b, (oc6 5 24 a_bn e_b)), (a_bn, (arI G 120 f_b)), (a_p, (oc6 8 5 a_pn e_p)), (a_pn, (arI G 40 f_p)), (a_bb, (arJ G 24 f_bb)), (a_j, (oc2 a_as a_sk)), (a_as, (arI G 8 z39)), (a_sk, (arJ G 50 z40)), (a_l, (arW G 6 f_l)), (a_pt, (arI G 200 z38))] hP hD ?_
              clear hP hD
              intro hP hD
              refine g5_ti (v := z27) y41 ?_
              refine lv_if_eq (tgt := 86) hx hb dX9_sightBy_80 (by decide +kernel) (fun c_42 => ?_) (fun c_42 => ?_)
              ·
                have i_42 : z27.toInt = 0 := g5_eq (a := z27.toInt) (b := 0) rfl (by decide +kernel) c_42
                refine lv_iinc (v := (m_i + 1)) (lv' := [(9, .int (m_i + 1)), (10, .int 1), (6, .long k_x), (8, .int k_h), (0, .ref a_wk), (1, .int p_g), (2, .int p_b), (3, .int p_c), (4, .int p_f), (5, .int p_e)]) hx hb dX9_sightBy_86 hl (k := 1) rfl rfl (by decide +kernel) rfl ?_
                clear hl
                intro ls hl
                have t_43 : (m_i + 1).toInt = m_i.toInt + 1 := g5_iadd (a := m_i.toInt) (b := 1) rfl (by decide +kernel) (by omega) (by omega)
                refine lv_goto (tgt := 19) hx hb dX9_sightBy_89 (by decide +kernel) ?_
                exact ih_19_8 ((m_i + 1), z29, z30, z31, z32, z33, z34, z35, z36, z37, z38, z39, z40, z28) ls H locs (show Int.toNat (64 - (m_i + 1).toInt) < Int.toNat (64 - m_i.toInt) from g_up (show m_i.toInt < (m_i + 1).toInt by omega) (show m_i.toInt < 64 by omega)) ⟨lv_sub hl [0, 2, 3, 4, 5, 6, 7, 8, 9] rfl, hP.sub [3, 4, 5, 6, 7, 8, 9, 10, 11, 12, 13, 14, 15, 16, 0, 1, 2] rfl, hD.sub [3, 4, 5, 6, 7, 8, 9, 10, 11, 12, 13, 14, 15, 16, 0, 1, 2] (by decide +kernel) rfl, hS, ⟨by omega, by omega⟩, i_26⟩
              ·
                have n_42 : gNe (z27.toInt) (0) := g5_eqN (a := z27.toInt) (b := 0) rfl (by decide +kernel) c_42
                have i_42 : z27.toInt ≥ 1 := by have z := g5_eqN (a := z27.toInt) (b := 0) (by rfl) (by decide +kernel) c_42; omega
                refine lv_iload hx hb dX9_sightBy_83 (lv_at hl 3 rfl) ?_
                exact W.iret (v := k_h) hx hb hr (fun t ht hW => ⟨⟨k_h, [(a_k, (oc5 a_h a_j a_pt z28 z29 z30 z31 z32 z33 z34 z35 z36 z37)), (a_h, (oc1 e_wa e_le e_st e_fo e_lc a_l a_g a_b a_s a_p a_w e_gb a_bb)), (a_g, (oc6 6 5 a_gn e_g)), (a_gn, (arI G 30 f_g)), (a_b, (oc6 5 24 a_bn e_b)), (a_bn, (arI G 120 f_b)), (a_p, (oc6 8 5 a_pn e_p)), (a_pn, (arI G 40 f_p)), (a_bb, (arJ G 24 f_bb)), (a_j, (oc2 a_as a_sk)), (a_as, (arI G 8 z39)), (a_sk, (arJ G 50 z40)), (a_l, (arW G 6 f_l)), (a_pt, (arI G 200 z38)), (a_wk, (oc9 a_h a_k a_go a_mt)), (a_go, (arJ G 24 f_go)), (a_mt, (arI G 1536 f_mt))], rfl, ⟨k_h, z28, z29, z30, z31, z32, z33, z34, z35, z36, z37, z38, z39, z40, i_26, ⟨by omega, by omega⟩, Or.inr ⟨by omega, by omega⟩, rfl, rfl⟩, by rw [ht]; exact hP.sub [3, 4, 5, 6, 7, 8, 9, 10, 11, 12, 13, 14, 15, 16, 0, 1, 2] rfl, hD.sub [3, 4, 5, 6, 7, 8, 9, 10, 11, 12, 13, 14, 15, 16, 0, 1, 2] (by decide +kernel) rfl⟩, hS.F ht⟩) hS.2.2 dX9_sightBy_85
set_option maxHeartbeats 4000000 in
set_option maxRecDepth 100000 in
theorem a_byL (l : Launch) (G : g5_G) (a_k a_h a_g a_gn a_b a_bn a_p a_pn a_bb a_j a_as a_sk a_l a_lo a_sr a_cd a_hd a_pt a_wk a_go a_mt a_s a_w : Nat) (sz : Nat) (e_le : Int32) (e_st : Int32) (e_fo : Int32) (e_lc : Int32) (e_g : Int32) (e_b : Int32) (e_p : Int32) (e_cl : Int32) (e_ln : Int32) (e_se : Int32) (e_lh : Int32) (e_br : Int32) (e_we : Int32) (e_me : Int32) (e_ce : Int32) (e_wy : Int32) (e_ho : Int32) (e_ov : Int32) (p_g : Int32) (p_b : Int32) (p_c : Int32) (p_f : Int32) (p_e : Int32) (e_wa : Int64) (e_gb : Int64) (f_g : Nat → Int32) (f_b : Nat → Int32) (f_p : Nat → Int32) (f_bb : Nat → Int64) (f_as : Nat → Int32) (f_sk : Nat → Int64) (f_l : Nat → Option Nat) (f_sr : Nat → Int32) (f_cd : Nat → Int32) (f_hd : Nat → Int32) (f_pt : Nat → Int32) (f_go : Nat → Int64) (f_mt : Nat → Int32) (n_sr : Nat) (n_cd : Nat) (n_hd : Nat) (h_e_g : 0 ≤ e_g.toInt ∧ e_g.toInt ≤ 6) (h_e_b : 0 ≤ e_b.toInt ∧ e_b.toInt ≤ 5) (h_e_p : 0 ≤ e_p.toInt ∧ e_p.toInt ≤ 8) (h_e_cl : 0 ≤ e_cl.toInt ∧ e_cl.toInt ≤ 12) (h_e_ov : 0 ≤ e_ov.toInt ∧ e_ov.toInt ≤ 1) (h_p_c : 0 ≤ p_c.toInt ∧ p_c.toInt ≤ 63) (h_p_f : 0 ≤ p_f.toInt ∧ p_f.toInt ≤ 23) (h_p_e : 0 ≤ p_e.toInt ∧ p_e.toInt ≤ 24) (e_gk : gOK f_g e_g.toInt) (e_pk : gOK f_p e_p.toInt) (e_gi : inT e_gb f_g e_g.toInt) (e_f : 0 ≤ e_fo.toInt ∧ e_fo.toInt < e_lc.toInt ∧ e_lc.toInt ≤ 6) (e_a : f_l e_fo.toNatClampNeg = some a_lo) (e_hn : n_cd ≤ 400) (e_hs : ∀ j : Nat, j < n_sr → 0 ≤ (f_sr j).toInt ∧ (f_sr j).toInt ≤ (n_cd : Int)) (e_hk : ∀ j : Nat, j < n_cd → (f_cd j >>> (12 &&& 31)).toInt = 1 → (f_cd j &&& 4095).toInt < 8) (e_c : (e_cl.toInt : Int) ≤ (n_hd : Int) ∧ (e_cl.toInt + 1 : Int) ≤ (n_sr : Int)) : Met l yX9_sightBy (wsG yX9_sightBy cX9_sightBy 11 (some .int)) ({ frames := 15, cells := 0, slots := 0, locals := 580 }) (va_Pc [.ref a_wk, .int p_g, .int p_b, .int p_c, .int p_f, .int p_e] (g5_P G [(a_k, (oc5 a_h a_j a_pt e_ln e_se e_lh e_br e_we e_me e_ce e_wy e_ho e_ov)), (a_h, (oc1 e_wa e_le e_st e_fo e_lc a_l a_g a_b a_s a_p a_w e_gb a_bb)), (a_g, (oc6 6 5 a_gn e_g)), (a_gn, (arI G 30 f_g)), (a_b, (oc6 5 24 a_bn e_b)), (a_bn, (arI G 120 f_b)), (a_p, (oc6 8 5 a_pn e_p)), (a_pn, (arI G 40 f_p)), (a_bb, (arJ G 24 f_bb)), (a_j, (oc2 a_as a_sk)), (a_as, (arI G 8 f_as)), (a_sk, (arJ G 50 f_sk)), (a_l, (arW G 6 f_l)), (a_lo, (oc3 e_cl a_hd a_sr a_cd)), (a_sr, (arI G n_sr f_sr)), (a_cd, (arI G n_cd f_cd)), (a_hd, (arI G n_hd f_hd)), (a_pt, (arI G 200 f_pt)), (a_wk, (oc9 a_h a_k a_go a_mt)), (a_go, (arJ G 24 f_go)), (a_mt, (arI G 1536 f_mt))] sz)) (va_Qi (fun (r : Int32) (u : va_W) => (∃ (o_r : Int32) (o_ln : Int32) (o_se : Int32) (o_lh : Int32) (o_br : Int32) (o_we : Int32) (o_me : Int32) (o_ce : Int32) (o_wy : Int32) (o_ho : Int32) (o_ov : Int32) (o_pt : Nat → Int32) (o_as : Nat → Int32) (o_sk : Nat → Int64), (0 ≤ o_ov.toInt ∧ o_ov.toInt ≤ 1) ∧ (-1 ≤ o_r.toInt ∧ o_r.toInt ≤ 23) ∧ (o_r.toInt = -1 ∨ (p_f.toInt ≤ o_r.toInt ∧ o_r.toInt < p_e.toInt)) ∧ (r = o_r) ∧ (u = [(a_k, (oc5 a_h a_j a_pt o_ln o_se o_lh o_br o_we o_me o_ce o_wy o_ho o_ov)), (a_h, (oc1 e_wa e_le e_st e_fo e_lc a_l a_g a_b a_s a_p a_w e_gb a_bb)), (a_g, (oc6 6 5 a_gn e_g)), (a_gn, (arI G 30 f_g)), (a_b, (oc6 5 24 a_bn e_b)), (a_bn, (arI G 120 f_b)), (a_p, (oc6 8 5 a_pn e_p)), (a_pn, (arI G 40 f_p)), (a_bb, (arJ G 24 f_bb)), (a_j, (oc2 a_as a_sk)), (a_as, (arI G 8 o_as)), (a_sk, (arJ G 50 o_sk)), (a_l, (arW G 6 f_l)), (a_lo, (oc3 e_cl a_hd a_sr a_cd)), (a_sr, (arI G n_sr f_sr)), (a_cd, (arI G n_cd f_cd)), (a_hd, (arI G n_hd f_hd)), (a_pt, (arI G 200 o_pt)), (a_wk, (oc9 a_h a_k a_go a_mt)), (a_go, (arJ G 24 f_go)), (a_mt, (arI G 1536 f_mt))]))) (g5_B G (va_A [(a_k, (oc5 a_h a_j a_pt e_ln e_se e_lh e_br e_we e_me e_ce e_wy e_ho e_ov)), (a_h, (oc1 e_wa e_le e_st e_fo e_lc a_l a_g a_b a_s a_p a_w e_gb a_bb)), (a_g, (oc6 6 5 a_gn e_g)), (a_gn, (arI G 30 f_g)), (a_b, (oc6 5 24 a_bn e_b)), (a_bn, (arI G 120 f_b)), (a_p, (oc6 8 5 a_pn e_p)), (a_pn, (arI G 40 f_p)), (a_bb, (arJ G 24 f_bb)), (a_j, (oc2 a_as a_sk)), (a_as, (arI G 8 f_as)), (a_sk, (arJ G 50 f_sk)), (a_l, (arW G 6 f_l)), (a_lo, (oc3 e_cl a_hd a_sr a_cd)), (a_sr, (arI G n_sr f_sr)), (a_cd, (arI G n_cd f_cd)), (a_hd, (arI G n_hd f_hd)), (a_pt, (arI G 200 f_pt)), (a_wk, (oc9 a_h a_k a_go a_mt)), (a_go, (arJ G 24 f_go)), (a_mt, (arI G 1536 f_mt))] sz)) (va_A [(a_k, (oc5 a_h a_j a_pt e_ln e_se e_lh e_br e_we e_me e_ce e_wy e_ho e_ov)), (a_h, (oc1 e_wa e_le e_st e_fo e_lc a_l a_g a_b a_s a_p a_w e_gb a_bb)), (a_g, (oc6 6 5 a_gn e_g)), (a_gn, (arI G 30 f_g)), (a_b, (oc6 5 24 a_bn e_b)), (a_bn, (arI G 120 f_b)), (a_p, (oc6 8 5 a_pn e_p)), (a_pn, (arI G 40 f_p)), (a_bb, (arJ G 24 f_bb)), (a_j, (oc2 a_as a_sk)), (a_as, (arI G 8 f_as)), (a_sk, (arJ G 50 f_sk)), (a_l, (arW G 6 f_l)), (a_lo, (oc3 e_cl a_hd a_sr a_cd)), (a_sr, (arI G n_sr f_sr)), (a_cd, (arI G n_cd f_cd)), (a_hd, (arI G n_hd f_hd)), (a_pt, (arI G 200 f_pt)), (a_wk, (oc9 a_h a_k a_go a_mt)), (a_go, (arJ G 24 f_go)), (a_mt, (arI G 1536 f_mt))] sz)) 0 0 (va_A [(a_k, (oc5 a_h a_j a_pt e_ln e_se e_lh e_br e_we e_me e_ce e_wy e_ho e_ov)), (a_h, (oc1 e_wa e_le e_st e_fo e_lc a_l a_g a_b a_s a_p a_w e_gb a_bb)), (a_g, (oc6 6 5 a_gn e_g)), (a_gn, (arI G 30 f_g)), (a_b, (oc6 5 24 a_bn e_b)), (a_bn, (arI G 120 f_b)), (a_p, (oc6 8 5 a_pn e_p)), (a_pn, (arI G 40 f_p)), (a_bb, (arJ G 24 f_bb)), (a_j, (oc2 a_as a_sk)), (a_as, (arI G 8 f_as)), (a_sk, (arJ G 50 f_sk)), (a_l, (arW G 6 f_l)), (a_lo, (oc3 e_cl a_hd a_sr a_cd)), (a_sr, (arI G n_sr f_sr)), (a_cd, (arI G n_cd f_cd)), (a_hd, (arI G n_hd f_hd)), (a_pt, (arI G 200 f_pt)), (a_wk, (oc9 a_h a_k a_go a_mt)), (a_go, (arJ G 24 f_go)), (a_mt, (arI G 1536 f_mt))] sz) := by
  refine Met.ofW (cc := cX9_sightBy) (maxL := 11) (ret := (some .int)) (by decide +kernel) rfl ?_
  intro p e s m args below meth c s₁ B hml hv
  obtain ⟨rfl, hsz, hP, hK, hD0, hN, hT⟩ := hv
  have hx := B.exec
  have hb := B.bytes
  have hr := B.returns
  have hts : ∀ w ∈ tblG, w.before _ s = true := fun w h => atoms_spec (ws := (wsG yX9_sightBy cX9_sightBy 11 (some .int))) B.pre w (List.mem_cons_of_mem _ h)
  have hown : s.vm.findClass RX9 = some m.cls := findClass_of_methodNamed B.named
  have hlocks := B.notSynchronized
  subst hsz
  have hD := hD0.self (sz := s.heap.size)
  generalize hAe : va_A [(a_k, (oc5 a_h a_j a_pt e_ln e_se e_lh e_br e_we e_me e_ce e_wy e_ho e_ov)), (a_h, (oc1 e_wa e_le e_st e_fo e_lc a_l a_g a_b a_s a_p a_w e_gb a_bb)), (a_g, (oc6 6 5 a_gn e_g)), (a_gn, (arI G 30 f_g)), (a_b, (oc6 5 24 a_bn e_b)), (a_bn, (arI G 120 f_b)), (a_p, (oc6 8 5 a_pn e_p)), (a_pn, (arI G 40 f_p)), (a_bb, (arJ G 24 f_bb)), (a_j, (oc2 a_as a_sk)), (a_as, (arI G 8 f_as)), (a_sk, (arJ G 50 f_sk)), (a_l, (arW G 6 f_l)), (a_lo, (oc3 e_cl a_hd a_sr a_cd)), (a_sr, (arI G n_sr f_sr)), (a_cd, (arI G n_cd f_cd)), (a_hd, (arI G n_hd f_hd)), (a_pt, (arI G 200 f_pt)), (a_wk, (oc9 a_h a_k a_go a_mt)), (a_go, (arJ G 24 f_go)), (a_mt, (arI G 1536 f_mt))] s.heap.size = A at hD hT ⊢
  have hA : ∀ q : Nat, s.heap.size ≤ q → A q := fun q h => by rw [← hAe]; exact Or.inr h
  have hS : va_S A s.heap s.heap [] := va_S.rf
  replace hP : va_P G.1 vwCl [(a_k, (oc5 a_h a_j a_pt e_ln e_se e_lh e_br e_we e_me e_ce e_wy e_ho e_ov)), (a_h, (oc1 e_wa e_le e_st e_fo e_lc a_l a_g a_b a_s a_p a_w e_gb a_bb)), (a_g, (oc6 6 5 a_gn e_g)), (a_gn, (arI G 30 f_g)), (a_b, (oc6 5 24 a_bn e_b)), (a_bn, (arI G 120 f_b)), (a_p, (oc6 8 5 a_pn e_p)), (a_pn, (arI G 40 f_p)), (a_bb, (arJ G 24 f_bb)), (a_j, (oc2 a_as a_sk)), (a_as, (arI G 8 f_as)), (a_sk, (arJ G 50 f_sk)), (a_l, (arW G 6 f_l)), (a_lo, (oc3 e_cl a_hd a_sr a_cd)), (a_sr, (arI G n_sr f_sr)), (a_cd, (arI G n_cd f_cd)), (a_hd, (arI G n_hd f_hd)), (a_pt, (arI G 200 f_pt)), (a_wk, (oc9 a_h a_k a_go a_mt)), (a_go, (arJ G 24 f_go)), (a_mt, (arI G 1536 f_mt))] s.heap := hP
  have hl := lv_entry ([.ref a_wk, .int p_g, .int p_b, .int p_c, .int p_f, .int p_e]) (n := 11) (Nat.le_of_ble_eq_true rfl)
  rw [lg_entry_eq]
  generalize (lg_sl ([.ref a_wk, .int p_g, .int p_b, .int p_c, .int p_f, .int p_e]) ++ List.replicate (11 - (lg_sl ([.ref a_wk, .int p_g, .int p_b, .int p_c, .int p_f, .int p_e])).length) Slot.unset).toArray = ls at hl ⊢
  replace hl : lv_has ls 11 [(0, .ref a_wk), (1, .int p_g), (2, .int p_b), (3, .int p_c), (4, .int p_f), (5, .int p_e)] := hl
  refine lv_lconst (v := 1) hx hb dX9_sightBy_0 (by decide +kernel) ?_
  refine lv_iload_n hx hb dX9_sightBy_1 rfl (lv_at hl 3 rfl) ?_
  refine lv_lshl (v := ((1 : Int64) <<< (p_c.toInt64 &&& 63))) hx hb dX9_sightBy_2 rfl ?_
  refine lv_lstore (lv' := [(6, .long ((1 : Int64) <<< (p_c.toInt64 &&& 63))), (0, .ref a_wk), (1, .int p_g), (2, .int p_b), (3, .int p_c), (4, .int p_f), (5, .int p_e)]) hx hb dX9_sightBy_3 hl (by decide +kernel) rfl ?_
  clear hl
  intro ls hl
  refine W.eq (g2 := F0 m 5 ls []) rfl ?_
  refine lv_iload hx hb dX9_sightBy_5 (lv_at hl 5 rfl) ?_
  refine lv_istore (lv' := [(8, .int p_f), (6, .long ((1 : Int64) <<< (p_c.toInt64 &&& 63))), (0, .ref a_wk), (1, .int p_g), (2, .int p_b), (3, .int p_c), (4, .int p_f), (5, .int p_e)]) hx hb dX9_sightBy_7 hl (by decide +kernel) rfl ?_
  clear hl
  intro ls hl
  refine g5_loop (α := (Int64) × (Int32) × (Int32) × (Int32) × (Int32) × (Int32) × (Int32) × (Int32) × (Int32) × (Int32) × (Int32) × (Nat → Int32) × (Nat → Int32) × (Nat → Int64) × (Int32)) (fun (q : (Int64) × (Int32) × (Int32) × (Int32) × (Int32) × (Int32) × (Int32) × (Int32) × (Int32) × (Int32) × (Int32) × (Nat → Int32) × (Nat → Int32) × (Nat → Int64) × (Int32)) (ls : Array Slot) (H : Heap) (locs : List Loc) => match q with | (k_x, k_h, k_se, k_lh, k_br, k_we, k_me, k_ce, k_wy, k_ho, k_ov, k_pt, k_as, k_sk, k_ln) => lv_has ls 11 [(6, .long k_x), (8, .int k_h), (0, .ref a_wk), (1, .int p_g), (2, .int p_b), (3, .int p_c), (4, .int p_f), (5, .int p_e)] ∧ va_P G.1 vwCl [(a_k, (oc5 a_h a_j a_pt k_ln k_se k_lh k_br k_we k_me k_ce k_wy k_ho k_ov)), (a_h, (oc1 e_wa e_le e_st e_fo e_lc a_l a_g a_b a_s a_p a_w e_gb a_bb)), (a_g, (oc6 6 5 a_gn e_g)), (a_gn, (arI G 30 f_g)), (a_b, (oc6 5 24 a_bn e_b)), (a_bn, (arI G 120 f_b)), (a_p, (oc6 8 5 a_pn e_p)), (a_pn, (arI G 40 f_p)), (a_bb, (arJ G 24 f_bb)), (a_j, (oc2 a_as a_sk)), (a_as, (arI G 8 k_as)), (a_sk, (arJ G 50 k_sk)), (a_l, (arW G 6 f_l)), (a_lo, (oc3 e_cl a_hd a_sr a_cd)), (a_sr, (arI G n_sr f_sr)), (a_cd, (arI G n_cd f_cd)), (a_hd, (arI G n_hd f_hd)), (a_pt, (arI G 200 k_pt)), (a_wk, (oc9 a_h a_k a_go a_mt)), (a_go, (arJ G 24 f_go)), (a_mt, (arI G 1536 f_mt))] H ∧ va_D A [(a_k, (oc5 a_h a_j a_pt k_ln k_se k_lh k_br k_we k_me k_ce k_wy k_ho k_ov)), (a_h, (oc1 e_wa e_le e_st e_fo e_lc a_l a_g a_b a_s a_p a_w e_gb a_bb)), (a_g, (oc6 6 5 a_gn e_g)), (a_gn, (arI G 30 f_g)), (a_b, (oc6 5 24 a_bn e_b)), (a_bn, (arI G 120 f_b)), (a_p, (oc6 8 5 a_pn e_p)), (a_pn, (arI G 40 f_p)), (a_bb, (arJ G 24 f_bb)), (a_j, (oc2 a_as a_sk)), (a_as, (arI G 8 k_as)), (a_sk, (arJ G 50 k_sk)), (a_l, (arW G 6 f_l)), (a_lo, (oc3 e_cl a_hd a_sr a_cd)), (a_sr, (arI G n_sr f_sr)), (a_cd, (arI G n_cd f_cd)), (a_hd, (arI G n_hd f_hd)), (a_pt, (arI G 200 k_pt)), (a_wk, (oc9 a_h a_k a_go a_mt)), (a_go, (arJ G 24 f_go)), (a_mt, (arI G 1536 f_mt))] ∧ va_S A s.heap H locs ∧ (0 ≤ k_h.toInt ∧ k_h.toInt ≤ 24) ∧ (0 ≤ k_ov.toInt ∧ k_ov.toInt ≤ 1) ∧ (p_f.toInt ≤ k_h.toInt)) (fun (q : (Int64) × (Int32) × (Int32) × (Int32) × (Int32) × (Int32) × (Int32) × (Int32) × (Int32) × (Int32) × (Int32) × (Nat → Int32) × (Nat → Int32) × (Nat → Int64) × (Int32)) => match q with | (k_x, k_h, k_se, k_lh, k_br, k_we, k_me, k_ce, k_wy, k_ho, k_ov, k_pt, k_as, k_sk, k_ln) => Int.toNat (24 - k_h.toInt)) (((1 : Int64) <<< (p_c.toInt64 &&& 63)), p_f, e_se, e_lh, e_br, e_we, e_me, e_ce, e_wy, e_ho, e_ov, f_pt, f_as, f_sk, e_ln) ⟨lv_sub hl [1, 0, 2, 3, 4, 5, 6, 7] rfl, hP, hD, hS, ⟨by omega, by omega⟩, h_e_ov, by omega⟩ ?_
  rintro ⟨k_x, k_h, k_se, k_lh, k_br, k_we, k_me, k_ce, k_wy, k_ho, k_ov, k_pt, k_as, k_sk, k_ln⟩ ls H locs ⟨hl, hP, hD, hS, (i_1 : 0 ≤ k_h.toInt ∧ k_h.toInt ≤ 24), (i_2 : 0 ≤ k_ov.toInt ∧ k_ov.toInt ≤ 1), (i_3 : p_f.toInt ≤ k_h.toInt)⟩ ih_9_4
  replace hl : lv_has ls 11 [(6, .long k_x), (8, .int k_h), (0, .ref a_wk), (1, .int p_g), (2, .int p_b), (3, .int p_c), (4, .int p_f), (5, .int p_e)] := hl
  refine g5_rs [(a_k, (oc5 a_h a_j a_pt k_ln k_se k_lh k_br k_we k_me k_ce k_wy k_ho k_ov)), (a_h, (oc1 e_wa e_le e_st e_fo e_lc a_l a_g a_b a_s a_p a_w e_gb a_bb)), (a_g, (oc6 6 5 a_gn e_g)), (a_gn, (arI G 30 f_g)), (a_b, (oc6 5 24 a_bn e_b)), (a_bn, (arI G 120 f_b)), (a_p, (oc6 8 5 a_pn e_p)), (a_pn, (arI G 40 f_p)), (a_bb, (arJ G 24 f_bb)), (a_j, (oc2 a_as a_sk)), (a_as, (arI G 8 k_as)), (a_sk, (arJ G 50 k_sk)), (a_l, (arW G 6 f_l)), (a_lo, (oc3 e_cl a_hd a_sr a_cd)), (a_sr, (arI G n_sr f_sr)), (a_cd, (arI G n_cd f_cd)), (a_hd, (arI G n_hd f_hd)), (a_pt, (arI G 200 k_pt)), (a_wk, (oc9 a_h a_k a_go a_mt)), (a_go, (arJ G 24 f_go)), (a_mt, (arI G 1536 f_mt))] hP hD ?_
  clear hP hD
  intro hP hD
  refine lv_iload hx hb dX9_sightBy_9 (lv_at hl 1 rfl) ?_
  refine lv_iload hx hb dX9_sightBy_11 (lv_at hl 7 rfl) ?_
  refine lv_icmp_ge (tgt := 106) hx hb dX9_sightBy_13 (by decide +kernel) (fun c_5 => ?_) (fun c_5 => ?_)
  ·
    have i_5 : k_h.toInt ≥ p_e.toInt := g5_ge (a := k_h.toInt) (b := p_e.toInt) rfl rfl c_5
    refine lv_iconst (v := (-1)) hx hb dX9_sightBy_106 (by decide +kernel) ?_
    exact W.iret (v := (-1)) hx hb hr (fun t ht hW => ⟨⟨(-1), [(a_k, (oc5 a_h a_j a_pt k_ln k_se k_lh k_br k_we k_me k_ce k_wy k_ho k_ov)), (a_h, (oc1 e_wa e_le e_st e_fo e_lc a_l a_g a_b a_s a_p a_w e_gb a_bb)), (a_g, (oc6 6 5 a_gn e_g)), (a_gn, (arI G 30 f_g)), (a_b, (oc6 5 24 a_bn e_b)), (a_bn, (arI G 120 f_b)), (a_p, (oc6 8 5 a_pn e_p)), (a_pn, (arI G 40 f_p)), (a_bb, (arJ G 24 f_bb)), (a_j, (oc2 a_as a_sk)), (a_as, (arI G 8 k_as)), (a_sk, (arJ G 50 k_sk)), (a_l, (arW G 6 f_l)), (a_lo, (oc3 e_cl a_hd a_sr a_cd)), (a_sr, (arI G n_sr f_sr)), (a_cd, (arI G n_cd f_cd)), (a_hd, (arI G n_hd f_hd)), (a_pt, (arI G 200 k_pt)), (a_wk, (oc9 a_h a_k a_go a_mt)), (a_go, (arJ G 24 f_go)), (a_mt, (arI G 1536 f_mt))], rfl, ⟨(-1), k_ln, k_se, k_lh, k_br, k_we, k_me, k_ce, k_wy, k_ho, k_ov, k_pt, k_as, k_sk, i_2, ⟨by have zc_o_r : ((-1) : Int32).toInt = (-1) := (by decide +kernel); omega, by have zc_o_r : ((-1) : Int32).toInt = (-1) := (by decide +kernel); omega⟩, Or.inl (by decide +kernel), rfl, rfl⟩, by rw [ht]; exact hP.sub [0, 1, 2, 3, 4, 5, 6, 7, 8, 9, 10, 11, 12, 13, 14, 15, 16, 17, 18, 19, 20] rfl, hD.sub [0, 1, 2, 3, 4, 5, 6, 7, 8, 9, 10, 11, 12, 13, 14, 15, 16, 17, 18, 19, 20] (by decide +kernel) rfl⟩, hS.F ht⟩) hS.2.2 dX9_sightBy_107
  ·
    have i_5 : k_h.toInt < p_e.toInt := g5_geN (a := k_h.toInt) (b := p_e.toInt) rfl rfl c_5
    refine lv_iconst (v := 0) hx hb dX9_sightBy_16 (by decide +kernel) ?_
    refine lv_istore (lv' := [(9, .int 0), (6, .long k_x), (8, .int k_h), (0, .ref a_wk), (1, .int p_g), (2, .int p_b), (3, .int p_c), (4, .int p_f), (5, .int p_e)]) hx hb dX9_sightBy_17 hl (by decide +kernel) rfl ?_
    clear hl
    intro ls hl
    refine g5_loop (α := (Int32) × (Int32) × (Int32) × (Int32) × (Int32) × (Int32) × (Int32) × (Int32) × (Int32) × (Int32) × (Nat → Int32) × (Nat → Int32) × (Nat → Int64) × (Int32)) (fun (q : (Int32) × (Int32) × (Int32) × (Int32) × (Int32) × (Int32) × (Int32) × (Int32) × (Int32) × (Int32) × (Nat → Int32) × (Nat → Int32) × (Nat → Int64) × (Int32)) (ls : Array Slot) (H : Heap) (locs : List Loc) => match q with | (m_i, m_se, m_lh, m_br, m_we, m_me, m_ce, m_wy, m_ho, m_ov, m_pt, m_as, m_sk, m_ln) => lv_has ls 11 [(9, .int m_i), (6, .long k_x), (8, .int k_h), (0, .ref a_wk), (1, .int p_g), (2, .int p_b), (3, .int p_c), (4, .int p_f), (5, .int p_e)] ∧ va_P G.1 vwCl [(a_k, (oc5 a_h a_j a_pt m_ln m_se m_lh m_br m_we m_me m_ce m_wy m_ho m_ov)), (a_h, (oc1 e_wa e_le e_st e_fo e_lc a_l a_g a_b a_s a_p a_w e_gb a_bb)), (a_g, (oc6 6 5 a_gn e_g)), (a_gn, (arI G 30 f_g)), (a_b, (oc6 5 24 a_bn e_b)), (a_bn, (arI G 120 f_b)), (a_p, (oc6 8 5 a_pn e_p)), (a_pn, (arI G 40 f_p)), (a_bb, (arJ G 24 f_bb)), (a_j, (oc2 a_as a_sk)), (a_as, (arI G 8 m_as)), (a_sk, (arJ G 50 m_sk)), (a_l, (arW G 6 f_l)), (a_lo, (oc3 e_cl a_hd a_sr a_cd)), (a_sr, (arI G n_sr f_sr)), (a_cd, (arI G n_cd f_cd)), (a_hd, (arI G n_hd f_hd)), (a_pt, (arI G 200 m_pt)), (a_wk, (oc9 a_h a_k a_go a_mt)), (a_go, (arJ G 24 f_go)), (a_mt, (arI G 1536 f_mt))] H ∧ va_D A [(a_k, (oc5 a_h a_j a_pt m_ln m_se m_lh m_br m_we m_me m_ce m_wy m_ho m_ov)), (a_h, (oc1 e_wa e_le e_st e_fo e_lc a_l a_g a_b a_s a_p a_w e_gb a_bb)), (a_g, (oc6 6 5 a_gn e_g)), (a_gn, (arI G 30 f_g)), (a_b, (oc6 5 24 a_bn e_b)), (a_bn, (arI G 120 f_b)), (a_p, (oc6 8 5 a_pn e_p)), (a_pn, (arI G 40 f_p)), (a_bb, (arJ G 24 f_bb)), (a_j, (oc2 a_as a_sk)), (a_as, (arI G 8 m_as)), (a_sk, (arJ G 50 m_sk)), (a_l, (arW G 6 f_l)), (a_lo, (oc3 e_cl a_hd a_sr a_cd)), (a_sr, (arI G n_sr f_sr)), (a_cd, (arI G n_cd f_cd)), (a_hd, (arI G n_hd f_hd)), (a_pt, (arI G 200 m_pt)), (a_wk, (oc9 a_h a_k a_go a_mt)), (a_go, (arJ G 24 f_go)), (a_mt, (arI G 1536 f_mt))] ∧ va_S A s.heap H locs ∧ (0 ≤ m_i.toInt ∧ m_i.toInt ≤ 64) ∧ (0 ≤ m_ov.toInt ∧ m_ov.toInt ≤ 1)) (fun (q : (Int32) × (Int32) × (Int32) × (Int32) × (Int32) × (Int32) × (Int32) × (Int32) × (Int32) × (Int32) × (Nat → Int32) × (Nat → Int32) × (Nat → Int64) × (Int32)) => match q with | (m_i, m_se, m_lh, m_br, m_we, m_me, m_ce, m_wy, m_ho, m_ov, m_pt, m_as, m_sk, m_ln) => Int.toNat (64 - m_i.toInt)) (0, k_se, k_lh, k_br, k_we, k_me, k_ce, k_wy, k_ho, k_ov, k_pt, k_as, k_sk, k_ln) ⟨lv_sub hl [0, 1, 2, 3, 4, 5, 6, 7, 8] rfl, hP, hD, hS, ⟨by decide, by decide⟩, i_2⟩ ?_
    rintro ⟨m_i, m_se, m_lh, m_br, m_we, m_me, m_ce, m_wy, m_ho, m_ov, m_pt, m_as, m_sk, m_ln⟩ ls H locs ⟨hl, hP, hD, hS, (i_6 : 0 ≤ m_i.toInt ∧ m_i.toInt ≤ 64), (i_7 : 0 ≤ m_ov.toInt ∧ m_ov.toInt ≤ 1)⟩ ih_19_8
    replace hl : lv_has ls 11 [(9, .int m_i), (6, .long k_x), (8, .int k_h), (0, .ref a_wk), (1, .int p_g), (2, .int p_b), (3, .int p_c), (4, .int p_f), (5, .int p_e)] := hl
    refine g5_rs [(a_k, (oc5 a_h a_j a_pt m_ln m_se m_lh m_br m_we m_me m_ce m_wy m_ho m_ov)), (a_h, (oc1 e_wa e_le e_st e_fo e_lc a_l a_g a_b a_s a_p a_w e_gb a_bb)), (a_g, (oc6 6 5 a_gn e_g)), (a_gn, (arI G 30 f_g)), (a_b, (oc6 5 24 a_bn e_b)), (a_bn, (arI G 120 f_b)), (a_p, (oc6 8 5 a_pn e_p)), (a_pn, (arI G 40 f_p)), (a_bb, (arJ G 24 f_bb)), (a_j, (oc2 a_as a_sk)), (a_as, (arI G 8 m_as)), (a_sk, (arJ G 50 m_sk)), (a_l, (arW G 6 f_l)), (a_lo, (oc3 e_cl a_hd a_sr a_cd)), (a_sr, (arI G n_sr f_sr)), (a_cd, (arI G n_cd f_cd)), (a_hd, (arI G n_hd f_hd)), (a_pt, (arI G 200 m_pt)), (a_wk, (oc9 a_h a_k a_go a_mt)), (a_go, (arJ G 24 f_go)), (a_mt, (arI G 1536 f_mt))] hP hD ?_
    clear hP hD
    intro hP hD
    refine lv_iload hx hb dX9_sightBy_19 (lv_at hl 0 rfl) ?_
    refine lv_bipush (v := 64) hx hb dX9_sightBy_21 (by decide +kernel) ?_
    refine lv_icmp_ge (tgt := 92) hx hb dX9_sightBy_23 (by decide +kernel) (fun c_9 => ?_) (fun c_9 => ?_)
    ·
      have i_9 : m_i.toInt ≥ 64 := g5_ge (a := m_i.toInt) (b := 64) rfl (by decide +kernel) c_9
      refine lv_aload_n hx hb dX9_sightBy_92 rfl (lv_at hl 3 rfl) ?_
      refine lv_lload hx hb dX9_sightBy_93 (lv_at hl 1 rfl) ?_
      obtain ⟨hPc, hDc, hFc⟩ := g5_sub3 (wc := [(a_h, (oc1 e_wa e_le e_st e_fo e_lc a_l a_g a_b a_s a_p a_w e_gb a_bb)), (a_wk, (oc9 a_h a_k a_go a_mt))]) hP hD hS hA [1, 18] (by decide +kernel) rfl
      refine va_calll (va_runV (As := [.long k_x]) (rest := []) ⟨hx, hb, hml, hown, hts⟩ (a_spread l G a_h a_wk a_l a_g a_b a_s a_p a_w a_bb a_k a_go a_mt H.size e_le e_st e_fo e_lc e_wa e_gb k_x) (cwV 1 hts gV_X9_56 rfl rfl rfl hv_X9_spread ⟨Nat.le_of_ble_eq_true rfl, Nat.le_of_ble_eq_true rfl⟩) (g5_preV hPc hK hDc hN hT hS hFc (ci := 9) (q0 := 1) rfl rfl) rfl rfl hl.1 rfl (lv_room (Nat.le_of_ble_eq_true rfl)) dX9_sightBy_95 ⟨Nat.le_of_ble_eq_true rfl, Nat.le_of_ble_eq_true rfl⟩) hS (fun q _ h => hFc q h) hFc (fun r u t H locs ht hvm hw hB hz1 hk1 hS => ?_)
      obtain ⟨hP1, hD1⟩ := hB
      have hP1 := g5_ht ht hP1
      obtain ⟨z10, y11, rfl⟩ := hw
      have hJ9 := va_join (wr := [(a_k, (oc5 a_h a_j a_pt m_ln m_se m_lh m_br m_we m_me m_ce m_wy m_ho m_ov)), (a_g, (oc6 6 5 a_gn e_g)), (a_gn, (arI G 30 f_g)), (a_b, (oc6 5 24 a_bn e_b)), (a_bn, (arI G 120 f_b)), (a_p, (oc6 8 5 a_pn e_p)), (a_pn, (arI G 40 f_p)), (a_bb, (arJ G 24 f_bb)), (a_j, (oc2 a_as a_sk)), (a_as, (arI G 8 m_as)), (a_sk, (arJ G 50 m_sk)), (a_l, (arW G 6 f_l)), (a_lo, (oc3 e_cl a_hd a_sr a_cd)), (a_sr, (arI G n_sr f_sr)), (a_cd, (arI G n_cd f_cd)), (a_hd, (arI G n_hd f_hd)), (a_pt, (arI G 200 m_pt)), (a_go, (arJ G 24 f_go)), (a_mt, (arI G 1536 f_mt))]) hP hD [1, 18] [0, 2, 3, 4, 5, 6, 7, 8, 9, 10, 11, 12, 13, 14, 15, 16, 17, 19, 20] rfl rfl (by decide +kernel) (by decide +kernel) hk1 hFc hP1 hD1
      clear hP hD hPc hDc hFc ht hvm hz1 hk1 hP1 hD1
      obtain ⟨hP, hD⟩ := hJ9
      refine g5_rs [(a_k, (oc5 a_h a_j a_pt m_ln m_se m_lh m_br m_we m_me m_ce m_wy m_ho m_ov)), (a_g, (oc6 6 5 a_gn e_g)), (a_gn, (arI G 30 f_g)), (a_b, (oc6 5 24 a_bn e_b)), (a_bn, (arI G 120 f_b)), (a_p, (oc6 8 5 a_pn e_p)), (a_pn, (arI G 40 f_p)), (a_bb, (arJ G 24 f_bb)), (a_j, (oc2 a_as a_sk)), (a_as, (arI G 8 m_as)), (a_sk, (arJ G 50 m_sk)), (a_l, (arW G 6 f_l)), (a_lo, (oc3 e_cl a_hd a_sr a_cd)), (a_sr, (arI G n_sr f_sr)), (a_cd, (arI G n_cd f_cd)), (a_hd, (arI G n_hd f_hd)), (a_pt, (arI G 200 m_pt)), (a_go, (arJ G 24 f_go)), (a_mt, (arI G 1536 f_mt)), (a_h, (oc1 e_wa e_le e_st e_fo e_lc a_l a_g a_b a_s a_p a_w e_gb a_bb)), (a_wk, (oc9 a_h a_k a_go a_mt))] hP hD ?_
      clear hP hD
      intro hP hD
      refine g5_tl (v := z10) y11 ?_
      refine lv_lstore (lv' := [(6, .long z10), (9, .int m_i), (8, .int k_h), (0, .ref a_wk), (1, .int p_g), (2, .int p_b), (3, .int p_c), (4, .int p_f), (5, .int p_e)]) hx hb dX9_sightBy_98 hl (by decide +kernel) rfl ?_
      clear hl
      intro ls hl
      refine W.eq (g2 := F0 m 100 ls []) rfl ?_
      refine lv_iinc (v := (k_h + 1)) (lv' := [(8, .int (k_h + 1)), (6, .long z10), (9, .int m_i), (0, .ref a_wk), (1, .int p_g), (2, .int p_b), (3, .int p_c), (4, .int p_f), (5, .int p_e)]) hx hb dX9_sightBy_100 hl (k := 2) rfl rfl (by decide +kernel) rfl ?_
      clear hl
      intro ls hl
      have t_12 : (k_h + 1).toInt = k_h.toInt + 1 := g5_iadd (a := k_h.toInt) (b := 1) rfl (by decide +kernel) (by omega) (by omega)
      refine lv_goto (tgt := 9) hx hb dX9_sightBy_103 (by decide +kernel) ?_
      exact ih_9_4 (z10, (k_h + 1), m_se, m_lh, m_br, m_we, m_me, m_ce, m_wy, m_ho, m_ov, m_pt, m_as, m_sk, m_ln) ls H locs (show Int.toNat (24 - (k_h + 1).toInt) < Int.toNat (24 - k_h.toInt) from g_up (show k_h.toInt < (k_h + 1).toInt by omega) (show k_h.toInt < 24 by omega)) ⟨lv_sub hl [1, 0, 3, 4, 5, 6, 7, 8] rfl, hP.sub [0, 19, 1, 2, 3, 4, 5, 6, 7, 8, 9, 10, 11, 12, 13, 14, 15, 16, 20, 17, 18] rfl, hD.sub [0, 19, 1, 2, 3, 4, 5, 6, 7, 8, 9, 10, 11, 12, 13, 14, 15, 16, 20, 17, 18] (by decide +kernel) rfl, hS, ⟨by omega, by omega⟩, i_7, by omega⟩
    ·
      have i_9 : m_i.toInt < 64 := g5_geN (a := m_i.toInt) (b := 64) rfl (by decide +kernel) c_9
      refine lv_lload hx hb dX9_sightBy_26 (lv_at hl 1 rfl) ?_
      refine lv_iload hx hb dX9_sightBy_28 (lv_at hl 0 rfl) ?_
      obtain ⟨hPc, hDc, hFc⟩ := g5_sub3 (wc := []) hP hD hS hA [] (by decide +kernel) rfl
      refine va_calli (va_runSN (As := [.long k_x, .int m_i]) (rest := []) ⟨hx, hb, hml, hown, hts⟩ (k_isOn l G H.size m_i k_x ⟨by omega, by omega⟩) ⟨va_cnB 2 hts gW_X11_isOn rfl rfl rfl (hN.1 _ g5_nw_X9_43) (hts _ ini_X11) hs_X11_isOn ⟨Nat.le_of_ble_eq_true rfl, Nat.le_of_ble_eq_true rfl⟩, hts _ st_X11_isOn, trivial⟩ (g5_preS hPc hK hDc hN hT hS hFc) rfl rfl hl.1 rfl (lv_room (Nat.le_of_ble_eq_true rfl)) dX9_sightBy_30 ⟨Nat.le_of_ble_eq_true rfl, Nat.le_of_ble_eq_true rfl⟩) hS (fun q _ h => hFc q h) hFc (fun r u t H locs ht hvm hw hB hz1 hk1 hS => ?_)
      obtain ⟨hP1, hD1⟩ := hB
      have hP1 := g5_ht ht hP1
      rcases hw with ⟨(i_13 : onB k_x m_i.toInt = false), rfl, rfl⟩ | ⟨(i_14 : onB k_x m_i.toInt = true), rfl, rfl⟩
      ·
        have hJ9 := g5_same hP hk1
        clear hP hPc hDc hFc ht hvm hz1 hk1 hP1 hD1
        have hP := hJ9
        clear hJ9
        refine lv_if_eq (tgt := 60) hx hb dX9_sightBy_33 (by decide +kernel) (fun c_15 => ?_) (fun c_15 => ?_)
        ·
          refine lv_iconst (v := 0) hx hb dX9_sightBy_60 (by decide +kernel) ?_
          refine lv_istore (lv' := [(10, .int 0), (9, .int m_i), (6, .long k_x), (8, .int k_h), (0, .ref a_wk), (1, .int p_g), (2, .int p_b), (3, .int p_c), (4, .int p_f), (5, .int p_e)]) hx hb dX9_sightBy_61 hl (by decide +kernel) rfl ?_
          clear hl
          intro ls hl
          refine lv_iload hx hb dX9_sightBy_63 (lv_at hl 0 rfl) ?_
          refine lv_if_eq (tgt := 86) hx hb dX9_sightBy_65 (by decide +kernel) (fun c_16 => ?_) (fun c_16 => ?_)
          ·
            refine lv_iinc (v := (m_i + 1)) (lv' := [(9, .int (m_i + 1)), (10, .int 0), (6, .long k_x), (8, .int k_h), (0, .ref a_wk), (1, .int p_g), (2, .int p_b), (3, .int p_c), (4, .int p_f), (5, .int p_e)]) hx hb dX9_sightBy_86 hl (k := 1) rfl rfl (by decide +kernel) rfl ?_
            clear hl
            intro ls hl
            have t_17 : (m_i + 1).toInt = m_i.toInt + 1 := g5_iadd (a := m_i.toInt) (b := 1) rfl (by decide +kernel) (by omega) (by omega)
            refine lv_goto (tgt := 19) hx hb dX9_sightBy_89 (by decide +kernel) ?_
            exact ih_19_8 ((m_i + 1), m_se, m_lh, m_br, m_we, m_me, m_ce, m_wy, m_ho, m_ov, m_pt, m_as, m_sk, m_ln) ls H locs (show Int.toNat (64 - (m_i + 1).toInt) < Int.toNat (64 - m_i.toInt) from g_up (show m_i.toInt < (m_i + 1).toInt by omega) (show m_i.toInt < 64 by omega)) ⟨lv_sub hl [0, 2, 3, 4, 5, 6, 7, 8, 9] rfl, hP, hD, hS, ⟨by omega, by omega⟩, i_7⟩
          ·
            exact absurd c_16 (by decide +kernel)
        ·
          exact absurd c_15 (by decide +kernel)
      ·
        have hJ9 := g5_same hP hk1
        clear hP hPc hDc hFc ht hvm hz1 hk1 hP1 hD1
        have hP := hJ9
        clear hJ9
        refine lv_if_eq (tgt := 60) hx hb dX9_sightBy_33 (by decide +kernel) (fun c_18 => ?_) (fun c_18 => ?_)
        ·
          exact absurd c_18 (by decide +kernel)
        ·
          refine lv_aload_n hx hb dX9_sightBy_36 rfl (lv_at hl 3 rfl) ?_
          refine va_get (D := G.1) (ci := 9) (v := .ref a_mt) (C := RX9) (T := TX9) (N := 4) hx hb hts inG_X9 hown hK hP 18 rfl rfl 3 (by decide +kernel) (hts _ fl_X9_15) (fun _ h9 => h9) rfl dX9_sightBy_37 ?_
          refine lv_iload hx hb dX9_sightBy_40 (lv_at hl 2 rfl) ?_
          refine lv_bipush (v := 64) hx hb dX9_sightBy_42 (by decide +kernel) ?_
          refine W.eq (g2 := F0 m 44 ls [.int 64, .int k_h, .ref a_mt]) rfl ?_
          refine lv_imul hx hb dX9_sightBy_44 ?_
          have t_19 : (k_h * 64).toInt = k_h.toInt * 64 := g5_imul (a := k_h.toInt) (b := 64) (by rfl) (by decide +kernel) (by omega) (by omega)
          refine lv_iload hx hb dX9_sightBy_45 (lv_at hl 0 rfl) ?_
          refine lv_iadd hx hb dX9_sightBy_47 ?_
          have t_20 : ((k_h * 64) + m_i).toInt = (k_h * 64).toInt + m_i.toInt := g5_iadd (a := (k_h * 64).toInt) (b := m_i.toInt) (by rfl) (by rfl) (by omega) (by omega)
          refine va_iald hx hb hK hP 20 0 rfl rfl (i := ((k_h * 64) + m_i)) (vp_in_iff.mpr ⟨by omega, by omega⟩) dX9_sightBy_48 ?_
          refine lv_iload_n hx hb dX9_sightBy_49 rfl (lv_at hl 4 rfl) ?_
          refine W.eq (g2 := F0 m 50 ls [.int p_g, .int (f_mt ((k_h * 64) + m_i).toNatClampNeg)]) rfl ?_
          refine lv_ishr hx hb dX9_sightBy_50 ?_
          refine lv_iconst (v := 1) hx hb dX9_sightBy_51 (by decide +kernel) ?_
          refine lv_iand hx hb dX9_sightBy_52 ?_
          refine lv_if_eq (tgt := 60) hx hb dX9_sightBy_53 (by decide +kernel) (fun c_21 => ?_) (fun c_21 => ?_)
          ·
            have i_21 : (((f_mt ((k_h * 64) + m_i).toNatClampNeg) >>> (p_g &&& 31)) &&& 1).toInt = 0 := g5_eq (a := (((f_mt ((k_h * 64) + m_i).toNatClampNeg) >>> (p_g &&& 31)) &&& 1).toInt) (b := 0) rfl (by decide +kernel) c_21
            refine lv_iconst (v := 0) hx hb dX9_sightBy_60 (by decide +kernel) ?_
            refine lv_istore (lv' := [(10, .int 0), (9, .int m_i), (6, .long k_x), (8, .int k_h), (0, .ref a_wk), (1, .int p_g), (2, .int p_b), (3, .int p_c), (4, .int p_f), (5, .int p_e)]) hx hb dX9_sightBy_61 hl (by decide +kernel) rfl ?_
            clear hl
            intro ls hl
            refine lv_iload hx hb dX9_sightBy_63 (lv_at hl 0 rfl) ?_
            refine lv_if_eq (tgt := 86) hx hb dX9_sightBy_65 (by decide +kernel) (fun c_22 => ?_) (fun c_22 => ?_)
            ·
              refine lv_iinc (v := (m_i + 1)) (lv' := [(9, .int (m_i + 1)), (10, .int 0), (6, .long k_x), (8, .int k_h), (0, .ref a_wk), (1, .int p_g), (2, .int p_b), (3, .int p_c), (4, .int p_f), (5, .int p_e)]) hx hb dX9_sightBy_86 hl (k := 1) rfl rfl (by decide +kernel) rfl ?_
              clear hl
              intro ls hl
              have t_23 : (m_i + 1).toInt = m_i.toInt + 1 := g5_iadd (a := m_i.toInt) (b := 1) rfl (by decide +kernel) (by omega) (by omega)
              refine lv_goto (tgt := 19) hx hb dX9_sightBy_89 (by decide +kernel) ?_
              exact ih_19_8 ((m_i + 1), m_se, m_lh, m_br, m_we, m_me, m_ce, m_wy, m_ho, m_ov, m_pt, m_as, m_sk, m_ln) ls H locs (show Int.toNat (64 - (m_i + 1).toInt) < Int.toNat (64 - m_i.toInt) from g_up (show m_i.toInt < (m_i + 1).toInt by omega) (show m_i.toInt < 64 by omega)) ⟨lv_sub hl [0, 2, 3, 4, 5, 6, 7, 8, 9] rfl, hP, hD, hS, ⟨by omega, by omega⟩, i_7⟩
            ·
              exact absurd c_22 (by decide +kernel)
          ·
            have n_21 : gNe ((((f_mt ((k_h * 64) + m_i).toNatClampNeg) >>> (p_g &&& 31)) &&& 1).toInt) (0) := g5_eqN (a := (((f_mt ((k_h * 64) + m_i).toNatClampNeg) >>> (p_g &&& 31)) &&& 1).toInt) (b := 0) rfl (by decide +kernel) c_21
            refine lv_iconst (v := 1) hx hb dX9_sightBy_56 (by decide +kernel) ?_
            refine lv_goto (tgt := 61) hx hb dX9_sightBy_57 (by decide +kernel) ?_
            refine lv_istore (lv' := [(10, .int 1), (9, .int m_i), (6, .long k_x), (8, .int k_h), (0, .ref a_wk), (1, .int p_g), (2, .int p_b), (3, .int p_c), (4, .int p_f), (5, .int p_e)]) hx hb dX9_sightBy_61 hl (by decide +kernel) rfl ?_
            clear hl
            intro ls hl
            refine lv_iload hx hb dX9_sightBy_63 (lv_at hl 0 rfl) ?_
            refine W.eq (g2 := F0 m 65 ls [.int 1]) rfl ?_
            refine lv_if_eq (tgt := 86) hx hb dX9_sightBy_65 (by decide +kernel) (fun c_24 => ?_) (fun c_24 => ?_)
            ·
              exact absurd c_24 (by decide +kernel)
            ·
              refine lv_aload_n hx hb dX9_sightBy_68 rfl (lv_at hl 4 rfl) ?_
              refine va_get (D := G.1) (ci := 9) (v := .ref a_k) (C := RX9) (T := TX9) (N := 4) hx hb hts inG_X9 hown hK hP 18 rfl rfl 1 (by decide +kernel) (hts _ fl_X9_23) (fun _ h9 => h9) rfl dX9_sightBy_69 ?_
              refine lv_iload_n hx hb dX9_sightBy_72 rfl (lv_at hl 6 rfl) ?_
              refine lv_iload hx hb dX9_sightBy_73 (lv_at hl 1 rfl) ?_
              refine W.eq (g2 := F0 m 75 ls [.int m_i, .int p_b, .ref a_k]) rfl ?_
              refine lv_iload hx hb dX9_sightBy_75 (lv_at hl 3 rfl) ?_
              obtain ⟨hPc, hDc, hFc⟩ := g5_sub3 (wc := [(a_k, (oc5 a_h a_j a_pt m_ln m_se m_lh m_br m_we m_me m_ce m_wy m_ho m_ov)), (a_h, (oc1 e_wa e_le e_st e_fo e_lc a_l a_g a_b a_s a_p a_w e_gb a_bb)), (a_g, (oc6 6 5 a_gn e_g)), (a_gn, (arI G 30 f_g)), (a_b, (oc6 5 24 a_bn e_b)), (a_bn, (arI G 120 f_b)), (a_p, (oc6 8 5 a_pn e_p)), (a_pn, (arI G 40 f_p)), (a_bb, (arJ G 24 f_bb)), (a_j, (oc2 a_as a_sk)), (a_as, (arI G 8 m_as)), (a_sk, (arJ G 50 m_sk)), (a_l, (arW G 6 f_l)), (a_lo, (oc3 e_cl a_hd a_sr a_cd)), (a_sr, (arI G n_sr f_sr)), (a_cd, (arI G n_cd f_cd)), (a_hd, (arI G n_hd f_hd)), (a_pt, (arI G 200 m_pt))]) hP hD hS hA [0, 1, 2, 3, 4, 5, 6, 7, 8, 9, 10, 11, 12, 13, 14, 15, 16, 17] (by decide +kernel) rfl
              refine va_calli (va_runV (As := [.int p_b, .int m_i, .int k_h]) (rest := []) ⟨hx, hb, hml, hown, hts⟩ (s_findsBodyL l G a_k a_h a_g a_gn a_b a_bn a_p a_pn a_bb a_j a_as a_sk a_l a_lo a_sr a_cd a_hd a_pt a_s a_w H.size e_le e_st e_fo e_lc e_g e_b e_p e_cl m_ln m_se m_lh m_br m_we m_me m_ce m_wy m_ho m_ov m_i k_h p_b e_wa e_gb f_g f_b f_p f_bb m_as m_sk f_l f_sr f_cd f_hd m_pt n_sr n_cd n_hd h_e_g h_e_b h_e_p h_e_cl i_7 (e_gk) (e_pk) (e_gi) (e_f) (e_a) (e_hn) (e_hs) (e_hk) (e_c)) (cwV 3 hts gV_X9_47 rfl rfl rfl hv_X5_findsBody ⟨Nat.le_of_ble_eq_true rfl, Nat.le_of_ble_eq_true rfl⟩) (g5_preV hPc hK hDc hN hT hS hFc (ci := 5) (q0 := 0) rfl rfl) rfl rfl hl.1 rfl (lv_room (Nat.le_of_ble_eq_true rfl)) dX9_sightBy_77 ⟨Nat.le_of_ble_eq_true rfl, Nat.le_of_ble_eq_true rfl⟩) hS (fun q _ h => hFc q h) hFc (fun r u t H locs ht hvm hw hB hz1 hk1 hS => ?_)
              obtain ⟨hP1, hD1⟩ := hB
              have hP1 := g5_ht ht hP1
              obtain ⟨z27, z28, z29, z30, z31, z32, z33, z34, z35, z36, z37, z38, z39, z40, (i_25 : 0 ≤ z27.toInt ∧ z27.toInt ≤ 1), (i_26 : 0 ≤ z37.toInt ∧ z37.toInt ≤ 1), y41, rfl⟩ := hw
              have hJ9 := va_join (wr := [(a_wk, (oc9 a_h a_k a_go a_mt)), (a_go, (arJ G 24 f_go)), (a_mt, (arI G 1536 f_mt))]) hP hD [0, 1, 2, 3, 4, 5, 6, 7, 8, 9, 10, 11, 12, 13, 14, 15, 16, 17] [18, 19, 20] rfl rfl (by decide +kernel) (by decide +kernel) hk1 hFc hP1 hD1
              clear hP hD hPc hDc hFc ht hvm hz1 hk1 hP1 hD1
              obtain ⟨hP, hD⟩ := hJ9
              refine g5_rs [(a_wk, (oc9 a_h a_k a_go a_mt)), (a_go, (arJ G 24 f_go)), (a_mt, (arI G 1536 f_mt)), (a_k, (oc5 a_h a_j a_pt z28 z29 z30 z31 z32 z33 z34 z35 z36 z37)), (a_h, (oc1 e_wa e_le e_st e_fo e_lc a_l a_g a_b a_s a_p a_w e_gb a_bb)), (a_g, (oc6 6 5 a_gn e_g)), (a_gn, (arI G 30 f_g)), (a_b, (oc6 5 24 a_bn e_b)), (a_bn, (arI G 120 f_b)), (a_p, (oc6 8 5 a_pn e_p)), (a_pn, (arI G 40 f_p)), (a_bb, (arJ G 24 f_bb)), (a_j, (oc2 a_as a_sk)), (a_as, (arI G 8 z39)), (a_sk, (arJ G 50 z40)), (a_l, (arW G 6 f_l)), (a_lo, (oc3 e_cl a_hd a_sr a_cd)), (a_sr, (arI G n_sr f_sr)), (a_cd, (arI G n_cd f_cd)), (a_hd, (arI G n_hd f_hd)), (a_pt, (arI G 200 z38))] hP hD ?_
              clear hP hD
              intro hP hD
              refine g5_ti (v := z27) y41 ?_
              refine lv_if_eq (tgt := 86) hx hb dX9_sightBy_80 (by decide +kernel) (fun c_42 => ?_) (fun c_42 => ?_)
              ·
                have i_42 : z27.toInt = 0 := g5_eq (a := z27.toInt) (b := 0) rfl (by decide +kernel) c_42
                refine lv_iinc (v := (m_i + 1)) (lv' := [(9, .int (m_i + 1)), (10, .int 1), (6, .long k_x), (8, .int k_h), (0, .ref a_wk), (1, .int p_g), (2, .int p_b), (3, .int p_c), (4, .int p_f), (5, .int p_e)]) hx hb dX9_sightBy_86 hl (k := 1) rfl rfl (by decide +kernel) rfl ?_
                clear hl
                intro ls hl
                have t_43 : (m_i + 1).toInt = m_i.toInt + 1 := g5_iadd (a := m_i.toInt) (b := 1) rfl (by decide +kernel) (by omega) (by omega)
                refine lv_goto (tgt := 19) hx hb dX9_sightBy_89 (by decide +kernel) ?_
                exact ih_19_8 ((m_i + 1), z29, z30, z31, z32, z33, z34, z35, z36, z37, z38, z39, z40, z28) ls H locs (show Int.toNat (64 - (m_i + 1).toInt) < Int.toNat (64 - m_i.toInt) from g_up (show m_i.toInt < (m_i + 1).toInt by omega) (show m_i.toInt < 64 by omega)) ⟨lv_sub hl [0, 2, 3, 4, 5, 6, 7, 8, 9] rfl, hP.sub [3, 4, 5, 6, 7, 8, 9, 10, 11, 12, 13, 14, 15, 16, 17, 18, 19, 20, 0, 1, 2] rfl, hD.sub [3, 4, 5, 6, 7, 8, 9, 10, 11, 12, 13, 14, 15, 16, 17, 18, 19, 20, 0, 1, 2] (by decide +kernel) rfl, hS, ⟨by omega, by omega⟩, i_26⟩
              ·
                have n_42 : gNe (z27.toInt) (0) := g5_eqN (a := z27.toInt) (b := 0) rfl (by decide +kernel) c_42
                have i_42 : z27.toInt ≥ 1 := by have z := g5_eqN (a := z27.toInt) (b := 0) (by rfl) (by decide +kernel) c_42; omega
                refine lv_iload hx hb dX9_sightBy_83 (lv_at hl 3 rfl) ?_
                exact W.iret (v := k_h) hx hb hr (fun t ht hW => ⟨⟨k_h, [(a_k, (oc5 a_h a_j a_pt z28 z29 z30 z31 z32 z33 z34 z35 z36 z37)), (a_h, (oc1 e_wa e_le e_st e_fo e_lc a_l a_g a_b a_s a_p a_w e_gb a_bb)), (a_g, (oc6 6 5 a_gn e_g)), (a_gn, (arI G 30 f_g)), (a_b, (oc6 5 24 a_bn e_b)), (a_bn, (arI G 120 f_b)), (a_p, (oc6 8 5 a_pn e_p)), (a_pn, (arI G 40 f_p)), (a_bb, (arJ G 24 f_bb)), (a_j, (oc2 a_as a_sk)), (a_as, (arI G 8 z39)), (a_sk, (arJ G 50 z40)), (a_l, (arW G 6 f_l)), (a_lo, (oc3 e_cl a_hd a_sr a_cd)), (a_sr, (arI G n_sr f_sr)), (a_cd, (arI G n_cd f_cd)), (a_hd, (arI G n_hd f_hd)), (a_pt, (arI G 200 z38)), (a_wk, (oc9 a_h a_k a_go a_mt)), (a_go, (arJ G 24 f_go)), (a_mt, (arI G 1536 f_mt))], rfl, ⟨k_h, z28, z29, z30, z31, z32, z33, z34, z35, z36, z37, z38, z39, z40, i_26, ⟨by omega, by omega⟩, Or.inr ⟨by omega, by omega⟩, rfl, rfl⟩, by rw [ht]; exact hP.sub [3, 4, 5, 6, 7, 8, 9, 10, 11, 12, 13, 14, 15, 16, 17, 18, 19, 20, 0, 1, 2] rfl, hD.sub [3, 4, 5, 6, 7, 8, 9, 10, 11, 12, 13, 14, 15, 16, 17, 18, 19, 20, 0, 1, 2] (by decide +kernel) rfl⟩, hS.F ht⟩) hS.2.2 dX9_sightBy_85
