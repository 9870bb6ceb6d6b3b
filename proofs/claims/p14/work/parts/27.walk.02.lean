set_option maxHeartbeats 4000000 in
set_option maxRecDepth 100000 in
theorem a_firstL (l : Launch) (G : g5_G) (a_k a_h a_g a_gn a_b a_bn a_p a_pn a_bb a_j a_as a_sk a_l a_lo a_sr a_cd a_hd a_pt a_wk a_go a_mt a_s a_w : Nat) (sz : Nat) (e_le : Int32) (e_st : Int32) (e_fo : Int32) (e_lc : Int32) (e_g : Int32) (e_b : Int32) (e_p : Int32) (e_cl : Int32) (e_ln : Int32) (e_se : Int32) (e_lh : Int32) (e_br : Int32) (e_we : Int32) (e_me : Int32) (e_ce : Int32) (e_wy : Int32) (e_ho : Int32) (e_ov : Int32) (p_b : Int32) (p_c : Int32) (p_f : Int32) (p_e : Int32) (e_wa : Int64) (e_gb : Int64) (f_g : Nat → Int32) (f_b : Nat → Int32) (f_p : Nat → Int32) (f_bb : Nat → Int64) (f_as : Nat → Int32) (f_sk : Nat → Int64) (f_l : Nat → Option Nat) (f_sr : Nat → Int32) (f_cd : Nat → Int32) (f_hd : Nat → Int32) (f_pt : Nat → Int32) (f_go : Nat → Int64) (f_mt : Nat → Int32) (n_sr : Nat) (n_cd : Nat) (n_hd : Nat) (h_e_g : 0 ≤ e_g.toInt ∧ e_g.toInt ≤ 6) (h_e_b : 0 ≤ e_b.toInt ∧ e_b.toInt ≤ 5) (h_e_p : 0 ≤ e_p.toInt ∧ e_p.toInt ≤ 8) (h_e_cl : 0 ≤ e_cl.toInt ∧ e_cl.toInt ≤ 12) (h_e_ov : 0 ≤ e_ov.toInt ∧ e_ov.toInt ≤ 1) (h_p_c : 0 ≤ p_c.toInt ∧ p_c.toInt ≤ 63) (h_p_f : 0 ≤ p_f.toInt ∧ p_f.toInt ≤ 23) (h_p_e : 0 ≤ p_e.toInt ∧ p_e.toInt ≤ 24) (e_gk : gOK f_g e_g.toInt) (e_pk : gOK f_p e_p.toInt) (e_gi : inT e_gb f_g e_g.toInt) (e_f : 0 ≤ e_fo.toInt ∧ e_fo.toInt < e_lc.toInt ∧ e_lc.toInt ≤ 6) (e_a : f_l e_fo.toNatClampNeg = some a_lo) (e_hn : n_cd ≤ 400) (e_hs : ∀ j : Nat, j < n_sr → 0 ≤ (f_sr j).toInt ∧ (f_sr j).toInt ≤ (n_cd : Int)) (e_hk : ∀ j : Nat, j < n_cd → (f_cd j >>> (12 &&& 31)).toInt = 1 → (f_cd j &&& 4095).toInt < 8) (e_c : (e_cl.toInt : Int) ≤ (n_hd : Int) ∧ (e_cl.toInt + 1 : Int) ≤ (n_sr : Int)) : Met l yX9_firstSight (wsG yX9_firstSight cX9_firstSight 13 (some .int)) ({ frames := 15, cells := 0, slots := 0, locals := 580 }) (va_Pc [.ref a_wk, .int p_b, .int p_c, .int p_f, .int p_e] (g5_P G [(a_k, (oc5 a_h a_j a_pt e_ln e_se e_lh e_br e_we e_me e_ce e_wy e_ho e_ov)), (a_h, (oc1 e_wa e_le e_st e_fo e_lc a_l a_g a_b a_s a_p a_w e_gb a_bb)), (a_g, (oc6 6 5 a_gn e_g)), (a_gn, (arI G 30 f_g)), (a_b, (oc6 5 24 a_bn e_b)), (a_bn, (arI G 120 f_b)), (a_p, (oc6 8 5 a_pn e_p)), (a_pn, (arI G 40 f_p)), (a_bb, (arJ G 24 f_bb)), (a_j, (oc2 a_as a_sk)), (a_as, (arI G 8 f_as)), (a_sk, (arJ G 50 f_sk)), (a_l, (arW G 6 f_l)), (a_lo, (oc3 e_cl a_hd a_sr a_cd)), (a_sr, (arI G n_sr f_sr)), (a_cd, (arI G n_cd f_cd)), (a_hd, (arI G n_hd f_hd)), (a_pt, (arI G 200 f_pt)), (a_wk, (oc9 a_h a_k a_go a_mt)), (a_go, (arJ G 24 f_go)), (a_mt, (arI G 1536 f_mt))] sz)) (va_Qi (fun (r : Int32) (u : va_W) => (∃ (o_r : Int32) (o_ln : Int32) (o_se : Int32) (o_lh : Int32) (o_br : Int32) (o_we : Int32) (o_me : Int32) (o_ce : Int32) (o_wy : Int32) (o_ho : Int32) (o_ov : Int32) (o_pt : Nat → Int32) (o_as : Nat → Int32) (o_sk : Nat → Int64) (o_go : Nat → Int64) (o_mt : Nat → Int32), (0 ≤ o_ov.toInt ∧ o_ov.toInt ≤ 1) ∧ (-1 ≤ o_r.toInt ∧ o_r.toInt ≤ 23) ∧ (o_r.toInt = -1 ∨ (p_f.toInt ≤ o_r.toInt ∧ o_r.toInt < p_e.toInt)) ∧ (r = o_r) ∧ (u = [(a_k, (oc5 a_h a_j a_pt o_ln o_se o_lh o_br o_we o_me o_ce o_wy o_ho o_ov)), (a_h, (oc1 e_wa e_le e_st e_fo e_lc a_l a_g a_b a_s a_p a_w e_gb a_bb)), (a_g, (oc6 6 5 a_gn e_g)), (a_gn, (arI G 30 f_g)), (a_b, (oc6 5 24 a_bn e_b)), (a_bn, (arI G 120 f_b)), (a_p, (oc6 8 5 a_pn e_p)), (a_pn, (arI G 40 f_p)), (a_bb, (arJ G 24 f_bb)), (a_j, (oc2 a_as a_sk)), (a_as, (arI G 8 o_as)), (a_sk, (arJ G 50 o_sk)), (a_l, (arW G 6 f_l)), (a_lo, (oc3 e_cl a_hd a_sr a_cd)), (a_sr, (arI G n_sr f_sr)), (a_cd, (arI G n_cd f_cd)), (a_hd, (arI G n_hd f_hd)), (a_pt, (arI G 200 o_pt)), (a_wk, (oc9 a_h a_k a_go a_mt)), (a_go, (arJ G 24 o_go)), (a_mt, (arI G 1536 o_mt))]))) (g5_B G (va_A [(a_k, (oc5 a_h a_j a_pt e_ln e_se e_lh e_br e_we e_me e_ce e_wy e_ho e_ov)), (a_h, (oc1 e_wa e_le e_st e_fo e_lc a_l a_g a_b a_s a_p a_w e_gb a_bb)), (a_g, (oc6 6 5 a_gn e_g)), (a_gn, (arI G 30 f_g)), (a_b, (oc6 5 24 a_bn e_b)), (a_bn, (arI G 120 f_b)), (a_p, (oc6 8 5 a_pn e_p)), (a_pn, (arI G 40 f_p)), (a_bb, (arJ G 24 f_bb)), (a_j, (oc2 a_as a_sk)), (a_as, (arI G 8 f_as)), (a_sk, (arJ G 50 f_sk)), (a_l, (arW G 6 f_l)), (a_lo, (oc3 e_cl a_hd a_sr a_cd)), (a_sr, (arI G n_sr f_sr)), (a_cd, (arI G n_cd f_cd)), (a_hd, (arI G n_hd f_hd)), (a_pt, (arI G 200 f_pt)), (a_wk, (oc9 a_h a_k a_go a_mt)), (a_go, (arJ G 24 f_go)), (a_mt, (arI G 1536 f_mt))] sz)) (va_A [(a_k, (oc5 a_h a_j a_pt e_ln e_se e_lh e_br e_we e_me e_ce e_wy e_ho e_ov)), (a_h, (oc1 e_wa e_le e_st e_fo e_lc a_l a_g a_b a_s a_p a_w e_gb a_bb)), (a_g, (oc6 6 5 a_gn e_g)), (a_gn, (arI G 30 f_g)), (a_b, (oc6 5 24 a_bn e_b)), (a_bn, (arI G 120 f_b)), (a_p, (oc6 8 5 a_pn e_p)), (a_pn, (arI G 40 f_p)), (a_bb, (arJ G 24 f_bb)), (a_j, (oc2 a_as a_sk)), (a_as, (arI G 8 f_as)), (a_sk, (arJ G 50 f_sk)), (a_l, (arW G 6 f_l)), (a_lo, (oc3 e_cl a_hd a_sr a_cd)), (a_sr, (arI G n_sr f_sr)), (a_cd, (arI G n_cd f_cd)), (a_hd, (arI G n_hd f_hd)), (a_pt, (arI G 200 f_pt)), (a_wk, (oc9 a_h a_k a_go a_mt)), (a_go, (arJ G 24 f_go)), (a_mt, (arI G 1536 f_mt))] sz)) 0 0 (va_A [(a_k, (oc5 a_h a_j a_pt e_ln e_se e_lh e_br e_we e_me e_ce e_wy e_ho e_ov)), (a_h, (oc1 e_wa e_le e_st e_fo e_lc a_l a_g a_b a_s a_p a_w e_gb a_bb)), (a_g, (oc6 6 5 a_gn e_g)), (a_gn, (arI G 30 f_g)), (a_b, (oc6 5 24 a_bn e_b)), (a_bn, (arI G 120 f_b)), (a_p, (oc6 8 5 a_pn e_p)), (a_pn, (arI G 40 f_p)), (a_bb, (arJ G 24 f_bb)), (a_j, (oc2 a_as a_sk)), (a_as, (arI G 8 f_as)), (a_sk, (arJ G 50 f_sk)), (a_l, (arW G 6 f_l)), (a_lo, (oc3 e_cl a_hd a_sr a_cd)), (a_sr, (arI G n_sr f_sr)), (a_cd, (arI G n_cd f_cd)), (a_hd, (arI G n_hd f_hd)), (a_pt, (arI G 200 f_pt)), (a_wk, (oc9 a_h a_k a_go a_mt)), (a_go, (arJ G 24 f_go)), (a_mt, (arI G 1536 f_mt))] sz) := by
  refine Met.ofW (cc := cX9_firstSight) (maxL := 13) (ret := (some .int)) (by decide) rfl ?_
  intro p e s m args below meth c s₁ B hml hv
  obtain ⟨rfl, hsz, hP, hK, hD0, hN, hT⟩ := hv
  have hx := B.exec
  have hb := B.bytes
  have hr := B.returns
  have hts : ∀ w ∈ tblG, w.before _ s = true := fun w h => atoms_spec (ws := (wsG yX9_firstSight cX9_firstSight 13 (some .int))) B.pre w (List.mem_cons_of_mem _ h)
  have hown : s.vm.findClass RX9 = some m.cls := findClass_of_methodNamed B.named
  have hlocks := B.notSynchronized
  subst hsz
  have hD := hD0.self (sz := s.heap.size)
  generalize hAe : va_A [(a_k, (oc5 a_h a_j a_pt e_ln e_se e_lh e_br e_we e_me e_ce e_wy e_ho e_ov)), (a_h, (oc1 e_wa e_le e_st e_fo e_lc a_l a_g a_b a_s a_p a_w e_gb a_bb)), (a_g, (oc6 6 5 a_gn e_g)), (a_gn, (arI G 30 f_g)), (a_b, (oc6 5 24 a_bn e_b)), (a_bn, (arI G 120 f_b)), (a_p, (oc6 8 5 a_pn e_p)), (a_pn, (arI G 40 f_p)), (a_bb, (arJ G 24 f_bb)), (a_j, (oc2 a_as a_sk)), (a_as, (arI G 8 f_as)), (a_sk, (arJ G 50 f_sk)), (a_l, (arW G 6 f_l)), (a_lo, (oc3 e_cl a_hd a_sr a_cd)), (a_sr, (arI G n_sr f_sr)), (a_cd, (arI G n_cd f_cd)), (a_hd, (arI G n_hd f_hd)), (a_pt, (arI G 200 f_pt)), (a_wk, (oc9 a_h a_k a_go a_mt)), (a_go, (arJ G 24 f_go)), (a_mt, (arI G 1536 f_mt))] s.heap.size = A at hD hT ⊢
  have hA : ∀ q : Nat, s.heap.size ≤ q → A q := fun q h => by rw [← hAe]; exact Or.inr h
  have hS : va_S A s.heap s.heap [] := va_S.rf
  have hP : va_P G.1 vwCl [(a_k, (oc5 a_h a_j a_pt e_ln e_se e_lh e_br e_we e_me e_ce e_wy e_ho e_ov)), (a_h, (oc1 e_wa e_le e_st e_fo e_lc a_l a_g a_b a_s a_p a_w e_gb a_bb)), (a_g, (oc6 6 5 a_gn e_g)), (a_gn, (arI G 30 f_g)), (a_b, (oc6 5 24 a_bn e_b)), (a_bn, (arI G 120 f_b)), (a_p, (oc6 8 5 a_pn e_p)), (a_pn, (arI G 40 f_p)), (a_bb, (arJ G 24 f_bb)), (a_j, (oc2 a_as a_sk)), (a_as, (arI G 8 f_as)), (a_sk, (arJ G 50 f_sk)), (a_l, (arW G 6 f_l)), (a_lo, (oc3 e_cl a_hd a_sr a_cd)), (a_sr, (arI G n_sr f_sr)), (a_cd, (arI G n_cd f_cd)), (a_hd, (arI G n_hd f_hd)), (a_pt, (arI G 200 f_pt)), (a_wk, (oc9 a_h a_k a_go a_mt)), (a_go, (arJ G 24 f_go)), (a_mt, (arI G 1536 f_mt))] s.heap := hP
  have hl := lv_entry ([.ref a_wk, .int p_b, .int p_c, .int p_f, .int p_e]) (n := 13) (Nat.le_of_ble_eq_true rfl)
  rw [lg_entry_eq]
  generalize (lg_sl ([.ref a_wk, .int p_b, .int p_c, .int p_f, .int p_e]) ++ List.replicate (13 - (lg_sl ([.ref a_wk, .int p_b, .int p_c, .int p_f, .int p_e])).length) Slot.unset).toArray = ls at hl ⊢
  have hl : lv_has ls 13 [(0, .ref a_wk), (1, .int p_b), (2, .int p_c), (3, .int p_f), (4, .int p_e)] := hl
  refine lv_lconst (v := 1) hx hb dX9_firstSight_0 (by decide) ?_
  refine lv_iload_n hx hb dX9_firstSight_1 rfl (lv_at hl 2 rfl) ?_
  refine lv_lshl (v := ((1 : Int64) <<< (p_c.toInt64 &&& 63))) hx hb dX9_firstSight_2 rfl ?_
  refine lv_lstore (lv' := [(5, .long ((1 : Int64) <<< (p_c.toInt64 &&& 63))), (0, .ref a_wk), (1, .int p_b), (2, .int p_c), (3, .int p_f), (4, .int p_e)]) hx hb dX9_firstSight_3 hl (by decide) rfl (fun ls hl => ?_)
  refine lv_aload_n hx hb dX9_firstSight_5 rfl (lv_at hl 1 rfl) ?_
  refine lv_iload_n hx hb dX9_firstSight_6 rfl (lv_at hl 2 rfl) ?_
  refine lv_iload_n hx hb dX9_firstSight_7 rfl (lv_at hl 4 rfl) ?_
  obtain ⟨hPc, hDc, hFc⟩ := g5_sub3 (wc := [(a_h, (oc1 e_wa e_le e_st e_fo e_lc a_l a_g a_b a_s a_p a_w e_gb a_bb)), (a_b, (oc6 5 24 a_bn e_b)), (a_bn, (arI G 120 f_b)), (a_wk, (oc9 a_h a_k a_go a_mt))]) hP hD hS hA [1, 4, 5, 18] (by decide) rfl
  refine va_calli (va_runV (As := [.int p_b, .int p_f]) (rest := []) ⟨hx, hb, hml, hown, hts⟩ (a_isEverIn l G a_h a_b a_bn a_wk a_l a_g a_s a_p a_w a_bb a_k a_go a_mt s.heap.size e_le e_st e_fo e_lc e_b p_b p_f e_wa e_gb f_b h_e_b ⟨by omega, by omega⟩) (cwV 2 hts gV_X9_27 rfl rfl rfl hv_X9_isEverIn ⟨Nat.le_of_ble_eq_true rfl, Nat.le_of_ble_eq_true rfl⟩) (g5_preV hPc hK hDc hN hT hS hFc (ci := 9) (q0 := 3) rfl rfl) rfl rfl hl.1 rfl (lv_room (Nat.le_of_ble_eq_true rfl)) dX9_firstSight_8 ⟨Nat.le_of_ble_eq_true rfl, Nat.le_of_ble_eq_true rfl⟩) hS (fun q _ h => hFc q h) hFc (fun r u t H1 locs ht hvm hw hB hz1 hk1 hS => ?_)
  obtain ⟨hP1, hD1⟩ := hB
  rw [ht] at hP1
  obtain ⟨z2, i_1, y3, rfl⟩ := hw
  have i_1 : 0 ≤ z2.toInt ∧ z2.toInt ≤ 1 := i_1
  obtain ⟨hP, hD⟩ := va_join (wr := [(a_k, (oc5 a_h a_j a_pt e_ln e_se e_lh e_br e_we e_me e_ce e_wy e_ho e_ov)), (a_g, (oc6 6 5 a_gn e_g)), (a_gn, (arI G 30 f_g)), (a_p, (oc6 8 5 a_pn e_p)), (a_pn, (arI G 40 f_p)), (a_bb, (arJ G 24 f_bb)), (a_j, (oc2 a_as a_sk)), (a_as, (arI G 8 f_as)), (a_sk, (arJ G 50 f_sk)), (a_l, (arW G 6 f_l)), (a_lo, (oc3 e_cl a_hd a_sr a_cd)), (a_sr, (arI G n_sr f_sr)), (a_cd, (arI G n_cd f_cd)), (a_hd, (arI G n_hd f_hd)), (a_pt, (arI G 200 f_pt)), (a_go, (arJ G 24 f_go)), (a_mt, (arI G 1536 f_mt))]) hP hD [1, 4, 5, 18] [0, 2, 3, 6, 7, 8, 9, 10, 11, 12, 13, 14, 15, 16, 17, 19, 20] rfl rfl (by decide) (by decide) hk1 hFc hP1 hD1
  generalize H1 = H at hP hS ⊢
  refine g5_rs [(a_k, (oc5 a_h a_j a_pt e_ln e_se e_lh e_br e_we e_me e_ce e_wy e_ho e_ov)), (a_g, (oc6 6 5 a_gn e_g)), (a_gn, (arI G 30 f_g)), (a_p, (oc6 8 5 a_pn e_p)), (a_pn, (arI G 40 f_p)), (a_bb, (arJ G 24 f_bb)), (a_j, (oc2 a_as a_sk)), (a_as, (arI G 8 f_as)), (a_sk, (arJ G 50 f_sk)), (a_l, (arW G 6 f_l)), (a_lo, (oc3 e_cl a_hd a_sr a_cd)), (a_sr, (arI G n_sr f_sr)), (a_cd, (arI G n_cd f_cd)), (a_hd, (arI G n_hd f_hd)), (a_pt, (arI G 200 f_pt)), (a_go, (arJ G 24 f_go)), (a_mt, (arI G 1536 f_mt)), (a_h, (oc1 e_wa e_le e_st e_fo e_lc a_l a_g a_b a_s a_p a_w e_gb a_bb)), (a_b, (oc6 5 24 a_bn e_b)), (a_bn, (arI G 120 f_b)), (a_wk, (oc9 a_h a_k a_go a_mt))] hP hD (fun hP hD => ?_)
  refine g5_ti (v := z2) y3 ?_
  refine lv_istore (lv' := [(7, .int z2), (5, .long ((1 : Int64) <<< (p_c.toInt64 &&& 63))), (0, .ref a_wk), (1, .int p_b), (2, .int p_c), (3, .int p_f), (4, .int p_e)]) hx hb dX9_firstSight_11 hl (by decide) rfl (fun ls hl => ?_)
  refine lv_iload_n hx hb dX9_firstSight_13 rfl (lv_at hl 5 rfl) ?_
  refine lv_istore (lv' := [(8, .int p_f), (7, .int z2), (5, .long ((1 : Int64) <<< (p_c.toInt64 &&& 63))), (0, .ref a_wk), (1, .int p_b), (2, .int p_c), (3, .int p_f), (4, .int p_e)]) hx hb dX9_firstSight_14 hl (by decide) rfl (fun ls hl => ?_)
  refine g5_loop (α := (Int64) × (Int32) × (Int32) × (Int32) × (Int32) × (Int32) × (Int32) × (Int32) × (Int32) × (Int32) × (Int32) × (Int32) × (Nat → Int32) × (Nat → Int32) × (Nat → Int64) × (Int32) × (Nat → Int64) × (Nat → Int32)) (fun (q : (Int64) × (Int32) × (Int32) × (Int32) × (Int32) × (Int32) × (Int32) × (Int32) × (Int32) × (Int32) × (Int32) × (Int32) × (Nat → Int32) × (Nat → Int32) × (Nat → Int64) × (Int32) × (Nat → Int64) × (Nat → Int32)) (ls : Array Slot) (H : Heap) (locs : List Loc) => match q with | (k_x, k_t, k_h, k_se, k_lh, k_br, k_we, k_me, k_ce, k_wy, k_ho, k_ov, k_pt, k_as, k_sk, k_ln, k_go, k_mt) => lv_has ls 13 [(5, .long k_x), (7, .int k_t), (8, .int k_h), (0, .ref a_wk), (1, .int p_b), (2, .int p_c), (3, .int p_f), (4, .int p_e)] ∧ va_P G.1 vwCl [(a_k, (oc5 a_h a_j a_pt k_ln k_se k_lh k_br k_we k_me k_ce k_wy k_ho k_ov)), (a_g, (oc6 6 5 a_gn e_g)), (a_gn, (arI G 30 f_g)), (a_p, (oc6 8 5 a_pn e_p)), (a_pn, (arI G 40 f_p)), (a_bb, (arJ G 24 f_bb)), (a_j, (oc2 a_as a_sk)), (a_as, (arI G 8 k_as)), (a_sk, (arJ G 50 k_sk)), (a_l, (arW G 6 f_l)), (a_lo, (oc3 e_cl a_hd a_sr a_cd)), (a_sr, (arI G n_sr f_sr)), (a_cd, (arI G n_cd f_cd)), (a_hd, (arI G n_hd f_hd)), (a_pt, (arI G 200 k_pt)), (a_go, (arJ G 24 k_go)), (a_mt, (arI G 1536 k_mt)), (a_h, (oc1 e_wa e_le e_st e_fo e_lc a_l a_g a_b a_s a_p a_w e_gb a_bb)), (a_b, (oc6 5 24 a_bn e_b)), (a_bn, (arI G 120 f_b)), (a_wk, (oc9 a_h a_k a_go a_mt))] H ∧ va_D A [(a_k, (oc5 a_h a_j a_pt k_ln k_se k_lh k_br k_we k_me k_ce k_wy k_ho k_ov)), (a_g, (oc6 6 5 a_gn e_g)), (a_gn, (arI G 30 f_g)), (a_p, (oc6 8 5 a_pn e_p)), (a_pn, (arI G 40 f_p)), (a_bb, (arJ G 24 f_bb)), (a_j, (oc2 a_as a_sk)), (a_as, (arI G 8 k_as)), (a_sk, (arJ G 50 k_sk)), (a_l, (arW G 6 f_l)), (a_lo, (oc3 e_cl a_hd a_sr a_cd)), (a_sr, (arI G n_sr f_sr)), (a_cd, (arI G n_cd f_cd)), (a_hd, (arI G n_hd f_hd)), (a_pt, (arI G 200 k_pt)), (a_go, (arJ G 24 k_go)), (a_mt, (arI G 1536 k_mt)), (a_h, (oc1 e_wa e_le e_st e_fo e_lc a_l a_g a_b a_s a_p a_w e_gb a_bb)), (a_b, (oc6 5 24 a_bn e_b)), (a_bn, (arI G 120 f_b)), (a_wk, (oc9 a_h a_k a_go a_mt))] ∧ va_S A s.heap H locs ∧ (0 ≤ k_t.toInt ∧ k_t.toInt ≤ 1) ∧ (0 ≤ k_h.toInt ∧ k_h.toInt ≤ 24) ∧ (0 ≤ k_ov.toInt ∧ k_ov.toInt ≤ 1) ∧ (p_f.toInt ≤ k_h.toInt)) (fun (q : (Int64) × (Int32) × (Int32) × (Int32) × (Int32) × (Int32) × (Int32) × (Int32) × (Int32) × (Int32) × (Int32) × (Int32) × (Nat → Int32) × (Nat → Int32) × (Nat → Int64) × (Int32) × (Nat → Int64) × (Nat → Int32)) => match q with | (k_x, k_t, k_h, k_se, k_lh, k_br, k_we, k_me, k_ce, k_wy, k_ho, k_ov, k_pt, k_as, k_sk, k_ln, k_go, k_mt) => Int.toNat (24 - k_h.toInt)) (((1 : Int64) <<< (p_c.toInt64 &&& 63)), z2, p_f, e_se, e_lh, e_br, e_we, e_me, e_ce, e_wy, e_ho, e_ov, f_pt, f_as, f_sk, e_ln, f_go, f_mt) ⟨lv_sub hl [2, 1, 0, 3, 4, 5, 6, 7] rfl, hP, hD, hS, i_1, ⟨by omega, by omega⟩, h_e_ov, by omega⟩ ?_
  rintro ⟨k_x, k_t, k_h, k_se, k_lh, k_br, k_we, k_me, k_ce, k_wy, k_ho, k_ov, k_pt, k_as, k_sk, k_ln, k_go, k_mt⟩ ls H locs ⟨hl, hP, hD, hS, i_4, i_5, i_6, i_7⟩ ih_16_8
  have hl : lv_has ls 13 [(5, .long k_x), (7, .int k_t), (8, .int k_h), (0, .ref a_wk), (1, .int p_b), (2, .int p_c), (3, .int p_f), (4, .int p_e)] := hl
  have i_4 : 0 ≤ k_t.toInt ∧ k_t.toInt ≤ 1 := i_4
  have i_5 : 0 ≤ k_h.toInt ∧ k_h.toInt ≤ 24 := i_5
  have i_6 : 0 ≤ k_ov.toInt ∧ k_ov.toInt ≤ 1 := i_6
  have i_7 : p_f.toInt ≤ k_h.toInt := i_7
  refine g5_rs [(a_k, (oc5 a_h a_j a_pt k_ln k_se k_lh k_br k_we k_me k_ce k_wy k_ho k_ov)), (a_g, (oc6 6 5 a_gn e_g)), (a_gn, (arI G 30 f_g)), (a_p, (oc6 8 5 a_pn e_p)), (a_pn, (arI G 40 f_p)), (a_bb, (arJ G 24 f_bb)), (a_j, (oc2 a_as a_sk)), (a_as, (arI G 8 k_as)), (a_sk, (arJ G 50 k_sk)), (a_l, (arW G 6 f_l)), (a_lo, (oc3 e_cl a_hd a_sr a_cd)), (a_sr, (arI G n_sr f_sr)), (a_cd, (arI G n_cd f_cd)), (a_hd, (arI G n_hd f_hd)), (a_pt, (arI G 200 k_pt)), (a_go, (arJ G 24 k_go)), (a_mt, (arI G 1536 k_mt)), (a_h, (oc1 e_wa e_le e_st e_fo e_lc a_l a_g a_b a_s a_p a_w e_gb a_bb)), (a_b, (oc6 5 24 a_bn e_b)), (a_bn, (arI G 120 f_b)), (a_wk, (oc9 a_h a_k a_go a_mt))] hP hD (fun hP hD => ?_)
  refine lv_iload hx hb dX9_firstSight_16 (lv_at hl 2 rfl) ?_
  refine lv_iload hx hb dX9_firstSight_18 (lv_at hl 7 rfl) ?_
  refine lv_icmp_ge (tgt := 188) hx hb dX9_firstSight_20 (by decide) (fun c_9 => ?_) (fun c_9 => ?_)
  ·
    have i_9 : k_h.toInt ≥ p_e.toInt := by have z := g5_ge (a := k_h.toInt) (b := p_e.toInt) (by rfl) (by rfl) c_9; omega
    refine lv_iconst (v := (-1)) hx hb dX9_firstSight_188 (by decide) ?_
    exact W.iret (v := (-1)) hx hb hr (fun t ht hW => ⟨⟨(-1), [(a_k, (oc5 a_h a_j a_pt k_ln k_se k_lh k_br k_we k_me k_ce k_wy k_ho k_ov)), (a_h, (oc1 e_wa e_le e_st e_fo e_lc a_l a_g a_b a_s a_p a_w e_gb a_bb)), (a_g, (oc6 6 5 a_gn e_g)), (a_gn, (arI G 30 f_g)), (a_b, (oc6 5 24 a_bn e_b)), (a_bn, (arI G 120 f_b)), (a_p, (oc6 8 5 a_pn e_p)), (a_pn, (arI G 40 f_p)), (a_bb, (arJ G 24 f_bb)), (a_j, (oc2 a_as a_sk)), (a_as, (arI G 8 k_as)), (a_sk, (arJ G 50 k_sk)), (a_l, (arW G 6 f_l)), (a_lo, (oc3 e_cl a_hd a_sr a_cd)), (a_sr, (arI G n_sr f_sr)), (a_cd, (arI G n_cd f_cd)), (a_hd, (arI G n_hd f_hd)), (a_pt, (arI G 200 k_pt)), (a_wk, (oc9 a_h a_k a_go a_mt)), (a_go, (arJ G 24 k_go)), (a_mt, (arI G 1536 k_mt))], rfl, ⟨(-1), k_ln, k_se, k_lh, k_br, k_we, k_me, k_ce, k_wy, k_ho, k_ov, k_pt, k_as, k_sk, k_go, k_mt, i_6, ⟨by have zc_o_r : ((-1) : Int32).toInt = (-1) := (by decide); omega, by have zc_o_r : ((-1) : Int32).toInt = (-1) := (by decide); omega⟩, Or.inl (by decide), rfl, rfl⟩, by rw [ht]; exact hP.sub [0, 17, 1, 2, 18, 19, 3, 4, 5, 6, 7, 8, 9, 10, 11, 12, 13, 14, 20, 15, 16] rfl, hD.sub [0, 17, 1, 2, 18, 19, 3, 4, 5, 6, 7, 8, 9, 10, 11, 12, 13, 14, 20, 15, 16] (by decide) rfl⟩, hS.F ht⟩) hS.2.2 dX9_firstSight_189
  ·
    have i_9 : k_h.toInt < p_e.toInt := by have z := g5_geN (a := k_h.toInt) (b := p_e.toInt) (by rfl) (by rfl) c_9; omega
    refine lv_iload hx hb dX9_firstSight_23 (lv_at hl 1 rfl) ?_
    refine lv_if_ne (tgt := 45) hx hb dX9_firstSight_25 (by decide) (fun c_10 => ?_) (fun c_10 => ?_)
    ·
      have n_10 : gNe (k_t.toInt) (0) := by have z := g5_ne (a := k_t.toInt) (b := 0) (by rfl) (by decide) c_10; unfold gNe; omega
      have i_10 : k_t.toInt ≥ 1 := by have z := g5_ne (a := k_t.toInt) (b := 0) (by rfl) (by decide) c_10; omega
      refine lv_iconst (v := 1) hx hb dX9_firstSight_45 (by decide) ?_
      refine lv_goto (tgt := 50) hx hb dX9_firstSight_46 (by decide) ?_
      refine lv_istore (lv' := [(7, .int 1), (5, .long k_x), (8, .int k_h), (0, .ref a_wk), (1, .int p_b), (2, .int p_c), (3, .int p_f), (4, .int p_e)]) hx hb dX9_firstSight_50 hl (by decide) rfl (fun ls hl => ?_)
      refine lv_lconst (v := 0) hx hb dX9_firstSight_52 (by decide) ?_
      refine lv_lstore (lv' := [(9, .long 0), (7, .int 1), (5, .long k_x), (8, .int k_h), (0, .ref a_wk), (1, .int p_b), (2, .int p_c), (3, .int p_f), (4, .int p_e)]) hx hb dX9_firstSight_53 hl (by decide) rfl (fun ls hl => ?_)
      refine lv_iconst (v := 0) hx hb dX9_firstSight_55 (by decide) ?_
      refine lv_istore (lv' := [(11, .int 0), (9, .long 0), (7, .int 1), (5, .long k_x), (8, .int k_h), (0, .ref a_wk), (1, .int p_b), (2, .int p_c), (3, .int p_f), (4, .int p_e)]) hx hb dX9_firstSight_56 hl (by decide) rfl (fun ls hl => ?_)
      refine g5_loop (α := (Int64) × (Int32) × (Int32) × (Int32) × (Int32) × (Int32) × (Int32) × (Int32) × (Int32) × (Int32) × (Int32) × (Int32) × (Nat → Int32) × (Nat → Int32) × (Nat → Int64) × (Int32) × (Nat → Int32)) (fun (q : (Int64) × (Int32) × (Int32) × (Int32) × (Int32) × (Int32) × (Int32) × (Int32) × (Int32) × (Int32) × (Int32) × (Int32) × (Nat → Int32) × (Nat → Int32) × (Nat → Int64) × (Int32) × (Nat → Int32)) (ls : Array Slot) (H : Heap) (locs : List Loc) => match q with | (m_x, m_t, m_i, m_se, m_lh, m_br, m_we, m_me, m_ce, m_wy, m_ho, m_ov, m_pt, m_as, m_sk, m_ln, m_mt) => lv_has ls 13 [(7, .int m_t), (9, .long m_x), (11, .int m_i), (5, .long k_x), (8, .int k_h), (0, .ref a_wk), (1, .int p_b), (2, .int p_c), (3, .int p_f), (4, .int p_e)] ∧ va_P G.1 vwCl [(a_k, (oc5 a_h a_j a_pt m_ln m_se m_lh m_br m_we m_me m_ce m_wy m_ho m_ov)), (a_g, (oc6 6 5 a_gn e_g)), (a_gn, (arI G 30 f_g)), (a_p, (oc6 8 5 a_pn e_p)), (a_pn, (arI G 40 f_p)), (a_bb, (arJ G 24 f_bb)), (a_j, (oc2 a_as a_sk)), (a_as, (arI G 8 m_as)), (a_sk, (arJ G 50 m_sk)), (a_l, (arW G 6 f_l)), (a_lo, (oc3 e_cl a_hd a_sr a_cd)), (a_sr, (arI G n_sr f_sr)), (a_cd, (arI G n_cd f_cd)), (a_hd, (arI G n_hd f_hd)), (a_pt, (arI G 200 m_pt)), (a_go, (arJ G 24 k_go)), (a_mt, (arI G 1536 m_mt)), (a_h, (oc1 e_wa e_le e_st e_fo e_lc a_l a_g a_b a_s a_p a_w e_gb a_bb)), (a_b, (oc6 5 24 a_bn e_b)), (a_bn, (arI G 120 f_b)), (a_wk, (oc9 a_h a_k a_go a_mt))] H ∧ va_D A [(a_k, (oc5 a_h a_j a_pt m_ln m_se m_lh m_br m_we m_me m_ce m_wy m_ho m_ov)), (a_g, (oc6 6 5 a_gn e_g)), (a_gn, (arI G 30 f_g)), (a_p, (oc6 8 5 a_pn e_p)), (a_pn, (arI G 40 f_p)), (a_bb, (arJ G 24 f_bb)), (a_j, (oc2 a_as a_sk)), (a_as, (arI G 8 m_as)), (a_sk, (arJ G 50 m_sk)), (a_l, (arW G 6 f_l)), (a_lo, (oc3 e_cl a_hd a_sr a_cd)), (a_sr, (arI G n_sr f_sr)), (a_cd, (arI G n_cd f_cd)), (a_hd, (arI G n_hd f_hd)), (a_pt, (arI G 200 m_pt)), (a_go, (arJ G 24 k_go)), (a_mt, (arI G 1536 m_mt)), (a_h, (oc1 e_wa e_le e_st e_fo e_lc a_l a_g a_b a_s a_p a_w e_gb a_bb)), (a_b, (oc6 5 24 a_bn e_b)), (a_bn, (arI G 120 f_b)), (a_wk, (oc9 a_h a_k a_go a_mt))] ∧ va_S A s.heap H locs ∧ (0 ≤ m_t.toInt ∧ m_t.toInt ≤ 1) ∧ (0 ≤ m_i.toInt ∧ m_i.toInt ≤ 64) ∧ (0 ≤ m_ov.toInt ∧ m_ov.toInt ≤ 1)) (fun (q : (Int64) × (Int32) × (Int32) × (Int32) × (Int32) × (Int32) × (Int32) × (Int32) × (Int32) × (Int32) × (Int32) × (Int32) × (Nat → Int32) × (Nat → Int32) × (Nat → Int64) × (Int32) × (Nat → Int32)) => match q with | (m_x, m_t, m_i, m_se, m_lh, m_br, m_we, m_me, m_ce, m_wy, m_ho, m_ov, m_pt, m_as, m_sk, m_ln, m_mt) => Int.toNat (64 - m_i.toInt)) (0, 1, 0, k_se, k_lh, k_br, k_we, k_me, k_ce, k_wy, k_ho, k_ov, k_pt, k_as, k_sk, k_ln, k_mt) ⟨lv_sub hl [2, 1, 0, 3, 4, 5, 6, 7, 8, 9] rfl, hP, hD, hS, ⟨by decide, by decide⟩, ⟨by decide, by decide⟩, i_6⟩ ?_
      rintro ⟨m_x, m_t, m_i, m_se, m_lh, m_br, m_we, m_me, m_ce, m_wy, m_ho, m_ov, m_pt, m_as, m_sk, m_ln, m_mt⟩ ls H locs ⟨hl, hP, hD, hS, i_11, i_12, i_13⟩ ih_58_14
      have hl : lv_has ls 13 [(7, .int m_t), (9, .long m_x), (11, .int m_i), (5, .long k_x), (8, .int k_h), (0, .ref a_wk), (1, .int p_b), (2, .int p_c), (3, .int p_f), (4, .int p_e)] := hl
      have i_11 : 0 ≤ m_t.toInt ∧ m_t.toInt ≤ 1 := i_11
      have i_12 : 0 ≤ m_i.toInt ∧ m_i.toInt ≤ 64 := i_12
      have i_13 : 0 ≤ m_ov.toInt ∧ m_ov.toInt ≤ 1 := i_13
      refine g5_rs [(a_k, (oc5 a_h a_j a_pt m_ln m_se m_lh m_br m_we m_me m_ce m_wy m_ho m_ov)), (a_g, (oc6 6 5 a_gn e_g)), (a_gn, (arI G 30 f_g)), (a_p, (oc6 8 5 a_pn e_p)), (a_pn, (arI G 40 f_p)), (a_bb, (arJ G 24 f_bb)), (a_j, (oc2 a_as a_sk)), (a_as, (arI G 8 m_as)), (a_sk, (arJ G 50 m_sk)), (a_l, (arW G 6 f_l)), (a_lo, (oc3 e_cl a_hd a_sr a_cd)), (a_sr, (arI G n_sr f_sr)), (a_cd, (arI G n_cd f_cd)), (a_hd, (arI G n_hd f_hd)), (a_pt, (arI G 200 m_pt)), (a_go, (arJ G 24 k_go)), (a_mt, (arI G 1536 m_mt)), (a_h, (oc1 e_wa e_le e_st e_fo e_lc a_l a_g a_b a_s a_p a_w e_gb a_bb)), (a_b, (oc6 5 24 a_bn e_b)), (a_bn, (arI G 120 f_b)), (a_wk, (oc9 a_h a_k a_go a_mt))] hP hD (fun hP hD => ?_)
      refine lv_iload hx hb dX9_firstSight_58 (lv_at hl 2 rfl) ?_
      refine lv_bipush (v := 64) hx hb dX9_firstSight_60 (by decide) ?_
      refine lv_icmp_ge (tgt := 155) hx hb dX9_firstSight_62 (by decide) (fun c_15 => ?_) (fun c_15 => ?_)
      ·
        have i_15 : m_i.toInt ≥ 64 := by have z := g5_ge (a := m_i.toInt) (b := 64) (by rfl) (by decide) c_15; omega
        refine lv_aload_n hx hb dX9_firstSight_155 rfl (lv_at hl 5 rfl) ?_
        refine va_get (D := G.1) (ci := 9) (v := .ref a_go) (C := RX9) (T := TX9) (N := 4) hx hb hts inG_X9 hown hK hP 20 rfl rfl 2 (by decide) (hts _ fl_X9_9) (fun _ h9 => h9) rfl dX9_firstSight_156 ?_
        refine lv_iload hx hb dX9_firstSight_159 (lv_at hl 4 rfl) ?_
        refine lv_lload hx hb dX9_firstSight_161 (lv_at hl 1 rfl) ?_
        refine va_last hx hb hK hP hD hS 15 1 rfl rfl (i := k_h) (x := m_x) (vp_in_iff.mpr ⟨by omega, by omega⟩) dX9_firstSight_163 (fun H locs hP hD hS => ?_)
        refine g5_rs [(a_k, (oc5 a_h a_j a_pt m_ln m_se m_lh m_br m_we m_me m_ce m_wy m_ho m_ov)), (a_g, (oc6 6 5 a_gn e_g)), (a_gn, (arI G 30 f_g)), (a_p, (oc6 8 5 a_pn e_p)), (a_pn, (arI G 40 f_p)), (a_bb, (arJ G 24 f_bb)), (a_j, (oc2 a_as a_sk)), (a_as, (arI G 8 m_as)), (a_sk, (arJ G 50 m_sk)), (a_l, (arW G 6 f_l)), (a_lo, (oc3 e_cl a_hd a_sr a_cd)), (a_sr, (arI G n_sr f_sr)), (a_cd, (arI G n_cd f_cd)), (a_hd, (arI G n_hd f_hd)), (a_pt, (arI G 200 m_pt)), (a_go, (arJ G 24 (vp_updL k_go k_h.toNatClampNeg m_x))), (a_mt, (arI G 1536 m_mt)), (a_h, (oc1 e_wa e_le e_st e_fo e_lc a_l a_g a_b a_s a_p a_w e_gb a_bb)), (a_b, (oc6 5 24 a_bn e_b)), (a_bn, (arI G 120 f_b)), (a_wk, (oc9 a_h a_k a_go a_mt))] hP hD (fun hP hD => ?_)
        refine lv_lload hx hb dX9_firstSight_164 (lv_at hl 1 rfl) ?_
        refine lv_lconst (v := 0) hx hb dX9_firstSight_166 (by decide) ?_
        refine W.lcmp hx hb dX9_firstSight_167 ?_
        refine lv_if_eq (tgt := 174) hx hb dX9_firstSight_168 (by decide) (fun c_16 => ?_) (fun c_16 => ?_)
        ·
          have i_16 : (lg_cmp m_x 0).toInt = 0 := by have z := g5_eq (a := (lg_cmp m_x 0).toInt) (b := 0) (by rfl) (by decide) c_16; omega
          refine lv_aload_n hx hb dX9_firstSight_174 rfl (lv_at hl 5 rfl) ?_
          refine lv_lload hx hb dX9_firstSight_175 (lv_at hl 3 rfl) ?_
          obtain ⟨hPc, hDc, hFc⟩ := g5_sub3 (wc := [(a_h, (oc1 e_wa e_le e_st e_fo e_lc a_l a_g a_b a_s a_p a_w e_gb a_bb)), (a_wk, (oc9 a_h a_k a_go a_mt))]) hP hD hS hA [17, 20] (by decide) rfl
          refine va_calll (va_runV (As := [.long k_x]) (rest := []) ⟨hx, hb, hml, hown, hts⟩ (a_spread l G a_h a_wk a_l a_g a_b a_s a_p a_w a_bb a_k a_go a_mt H.size e_le e_st e_fo e_lc e_wa e_gb k_x) (cwV 1 hts gV_X9_56 rfl rfl rfl hv_X9_spread ⟨Nat.le_of_ble_eq_true rfl, Nat.le_of_ble_eq_true rfl⟩) (g5_preV hPc hK hDc hN hT hS hFc (ci := 9) (q0 := 1) rfl rfl) rfl rfl hl.1 rfl (lv_room (Nat.le_of_ble_eq_true rfl)) dX9_firstSight_177 ⟨Nat.le_of_ble_eq_true rfl, Nat.le_of_ble_eq_true rfl⟩) hS (fun q _ h => hFc q h) hFc (fun r u t H1 locs ht hvm hw hB hz1 hk1 hS => ?_)
          obtain ⟨hP1, hD1⟩ := hB
          rw [ht] at hP1
          obtain ⟨z17, y18, rfl⟩ := hw
          obtain ⟨hP, hD⟩ := va_join (wr := [(a_k, (oc5 a_h a_j a_pt m_ln m_se m_lh m_br m_we m_me m_ce m_wy m_ho m_ov)), (a_g, (oc6 6 5 a_gn e_g)), (a_gn, (arI G 30 f_g)), (a_p, (oc6 8 5 a_pn e_p)), (a_pn, (arI G 40 f_p)), (a_bb, (arJ G 24 f_bb)), (a_j, (oc2 a_as a_sk)), (a_as, (arI G 8 m_as)), (a_sk, (arJ G 50 m_sk)), (a_l, (arW G 6 f_l)), (a_lo, (oc3 e_cl a_hd a_sr a_cd)), (a_sr, (arI G n_sr f_sr)), (a_cd, (arI G n_cd f_cd)), (a_hd, (arI G n_hd f_hd)), (a_pt, (arI G 200 m_pt)), (a_go, (arJ G 24 (vp_updL k_go k_h.toNatClampNeg m_x))), (a_mt, (arI G 1536 m_mt)), (a_b, (oc6 5 24 a_bn e_b)), (a_bn, (arI G 120 f_b))]) hP hD [17, 20] [0, 1, 2, 3, 4, 5, 6, 7, 8, 9, 10, 11, 12, 13, 14, 15, 16, 18, 19] rfl rfl (by decide) (by decide) hk1 hFc hP1 hD1
          generalize H1 = H at hP hS ⊢
          refine g5_rs [(a_k, (oc5 a_h a_j a_pt m_ln m_se m_lh m_br m_we m_me m_ce m_wy m_ho m_ov)), (a_g, (oc6 6 5 a_gn e_g)), (a_gn, (arI G 30 f_g)), (a_p, (oc6 8 5 a_pn e_p)), (a_pn, (arI G 40 f_p)), (a_bb, (arJ G 24 f_bb)), (a_j, (oc2 a_as a_sk)), (a_as, (arI G 8 m_as)), (a_sk, (arJ G 50 m_sk)), (a_l, (arW G 6 f_l)), (a_lo, (oc3 e_cl a_hd a_sr a_cd)), (a_sr, (arI G n_sr f_sr)), (a_cd, (arI G n_cd f_cd)), (a_hd, (arI G n_hd f_hd)), (a_pt, (arI G 200 m_pt)), (a_go, (arJ G 24 (vp_updL k_go k_h.toNatClampNeg m_x))), (a_mt, (arI G 1536 m_mt)), (a_b, (oc6 5 24 a_bn e_b)), (a_bn, (arI G 120 f_b)), (a_h, (oc1 e_wa e_le e_st e_fo e_lc a_l a_g a_b a_s a_p a_w e_gb a_bb)), (a_wk, (oc9 a_h a_k a_go a_mt))] hP hD (fun hP hD => ?_)
          refine g5_tl (v := z17) y18 ?_
          refine lv_lstore (lv' := [(5, .long z17), (7, .int m_t), (9, .long m_x), (11, .int m_i), (8, .int k_h), (0, .ref a_wk), (1, .int p_b), (2, .int p_c), (3, .int p_f), (4, .int p_e)]) hx hb dX9_firstSight_180 hl (by decide) rfl (fun ls hl => ?_)
          refine lv_iinc (v := (k_h + 1)) (lv' := [(8, .int (k_h + 1)), (5, .long z17), (7, .int m_t), (9, .long m_x), (11, .int m_i), (0, .ref a_wk), (1, .int p_b), (2, .int p_c), (3, .int p_f), (4, .int p_e)]) hx hb dX9_firstSight_182 hl (k := 4) rfl rfl (by decide) rfl (fun ls hl => ?_)
          have t_19 : (k_h + 1).toInt = k_h.toInt + 1 := g5_iadd (a := k_h.toInt) (b := 1) rfl (by decide) (by omega) (by omega)
          refine lv_goto (tgt := 16) hx hb dX9_firstSight_185 (by decide) ?_
          exact ih_16_8 (z17, m_t, (k_h + 1), m_se, m_lh, m_br, m_we, m_me, m_ce, m_wy, m_ho, m_ov, m_pt, m_as, m_sk, m_ln, (vp_updL k_go k_h.toNatClampNeg m_x), m_mt) ls H locs (show Int.toNat (24 - (k_h + 1).toInt) < Int.toNat (24 - k_h.toInt) from g_up (show k_h.toInt < (k_h + 1).toInt by omega) (show k_h.toInt < 24 by omega)) ⟨lv_sub hl [1, 2, 0, 5, 6, 7, 8, 9] rfl, hP.sub [0, 1, 2, 3, 4, 5, 6, 7, 8, 9, 10, 11, 12, 13, 14, 15, 16, 19, 17, 18, 20] rfl, hD.sub [0, 1, 2, 3, 4, 5, 6, 7, 8, 9, 10, 11, 12, 13, 14, 15, 16, 19, 17, 18, 20] (by decide) rfl, hS, i_11, ⟨by omega, by omega⟩, i_13, by omega⟩
        ·
          have n_16 : gNe ((lg_cmp m_x 0).toInt) (0) := by have z := g5_eqN (a := (lg_cmp m_x 0).toInt) (b := 0) (by rfl) (by decide) c_16; unfold gNe; omega
          refine lv_iload hx hb dX9_firstSight_171 (lv_at hl 4 rfl) ?_
          exact W.iret (v := k_h) hx hb hr (fun t ht hW => ⟨⟨k_h, [(a_k, (oc5 a_h a_j a_pt m_ln m_se m_lh m_br m_we m_me m_ce m_wy m_ho m_ov)), (a_h, (oc1 e_wa e_le e_st e_fo e_lc a_l a_g a_b a_s a_p a_w e_gb a_bb)), (a_g, (oc6 6 5 a_gn e_g)), (a_gn, (arI G 30 f_g)), (a_b, (oc6 5 24 a_bn e_b)), (a_bn, (arI G 120 f_b)), (a_p, (oc6 8 5 a_pn e_p)), (a_pn, (arI G 40 f_p)), (a_bb, (arJ G 24 f_bb)), (a_j, (oc2 a_as a_sk)), (a_as, (arI G 8 m_as)), (a_sk, (arJ G 50 m_sk)), (a_l, (arW G 6 f_l)), (a_lo, (oc3 e_cl a_hd a_sr a_cd)), (a_sr, (arI G n_sr f_sr)), (a_cd, (arI G n_cd f_cd)), (a_hd, (arI G n_hd f_hd)), (a_pt, (arI G 200 m_pt)), (a_wk, (oc9 a_h a_k a_go a_mt)), (a_go, (arJ G 24 (vp_updL k_go k_h.toNatClampNeg m_x))), (a_mt, (arI G 1536 m_mt))], rfl, ⟨k_h, m_ln, m_se, m_lh, m_br, m_we, m_me, m_ce, m_wy, m_ho, m_ov, m_pt, m_as, m_sk, (vp_updL k_go k_h.toNatClampNeg m_x), m_mt, i_13, ⟨by omega, by omega⟩, Or.inr ⟨by omega, by omega⟩, rfl, rfl⟩, by rw [ht]; exact hP.sub [0, 17, 1, 2, 18, 19, 3, 4, 5, 6, 7, 8, 9, 10, 11, 12, 13, 14, 20, 15, 16] rfl, hD.sub [0, 17, 1, 2, 18, 19, 3, 4, 5, 6, 7, 8, 9, 10, 11, 12, 13, 14, 20, 15, 16] (by decide) rfl⟩, hS.F ht⟩) hS.2.2 dX9_firstSight_173
      ·
        have i_15 : m_i.toInt < 64 := by have z := g5_geN (a := m_i.toInt) (b := 64) (by rfl) (by decide) c_15; omega
        refine lv_iload hx hb dX9_firstSight_65 (lv_at hl 0 rfl) ?_
        refine lv_if_eq (tgt := 99) hx hb dX9_firstSight_67 (by decide) (fun c_20 => ?_) (fun c_20 => ?_)
        ·
          have i_20 : m_t.toInt = 0 := by have z := g5_eq (a := m_t.toInt) (b := 0) (by rfl) (by decide) c_20; omega
          refine lv_iconst (v := 0) hx hb dX9_firstSight_99 (by decide) ?_
          refine lv_istore (lv' := [(12, .int 0), (7, .int m_t), (9, .long m_x), (11, .int m_i), (5, .long k_x), (8, .int k_h), (0, .ref a_wk), (1, .int p_b), (2, .int p_c), (3, .int p_f), (4, .int p_e)]) hx hb dX9_firstSight_100 hl (by decide) rfl (fun ls hl => ?_)
          refine lv_lload hx hb dX9_firstSight_102 (lv_at hl 2 rfl) ?_
          refine lv_iload hx hb dX9_firstSight_104 (lv_at hl 0 rfl) ?_
          refine lv_if_eq (tgt := 116) hx hb dX9_firstSight_106 (by decide) (fun c_21 => ?_) (fun c_21 => ?_)
          ·
            refine lv_lconst (v := 0) hx hb dX9_firstSight_116 (by decide) ?_
            refine lv_lor hx hb dX9_firstSight_117 ?_
            refine g5_tl (v := m_x) (by simp) ?_
            refine lv_lstore (lv' := [(9, .long m_x), (12, .int 0), (7, .int m_t), (11, .int m_i), (5, .long k_x), (8, .int k_h), (0, .ref a_wk), (1, .int p_b), (2, .int p_c), (3, .int p_f), (4, .int p_e)]) hx hb dX9_firstSight_118 hl (by decide) rfl (fun ls hl => ?_)
            refine lv_aload_n hx hb dX9_firstSight_120 rfl (lv_at hl 6 rfl) ?_
            refine va_get (D := G.1) (ci := 9) (v := .ref a_mt) (C := RX9) (T := TX9) (N := 4) hx hb hts inG_X9 hown hK hP 20 rfl rfl 3 (by decide) (hts _ fl_X9_15) (fun _ h9 => h9) rfl dX9_firstSight_121 ?_
            refine lv_iload hx hb dX9_firstSight_124 (lv_at hl 5 rfl) ?_
            refine lv_bipush (v := 64) hx hb dX9_firstSight_126 (by decide) ?_
            refine lv_imul hx hb dX9_firstSight_128 ?_
            have t_22 : (k_h * 64).toInt = k_h.toInt * 64 := g5_imul (a := k_h.toInt) (b := 64) (by rfl) (by decide) (by omega) (by omega)
            refine lv_iload hx hb dX9_firstSight_129 (lv_at hl 3 rfl) ?_
            refine lv_iadd hx hb dX9_firstSight_131 ?_
            have t_23 : ((k_h * 64) + m_i).toInt = (k_h * 64).toInt + m_i.toInt := g5_iadd (a := (k_h * 64).toInt) (b := m_i.toInt) (by rfl) (by rfl) (by omega) (by omega)
            refine lv_iload hx hb dX9_firstSight_132 (lv_at hl 2 rfl) ?_
            refine lv_if_eq (tgt := 147) hx hb dX9_firstSight_134 (by decide) (fun c_24 => ?_) (fun c_24 => ?_)
            ·
              have i_24 : m_t.toInt = 0 := by have z := g5_eq (a := m_t.toInt) (b := 0) (by rfl) (by decide) c_24; omega
              refine lv_iconst (v := 0) hx hb dX9_firstSight_147 (by decide) ?_
              refine va_iast hx hb hK hP hD hS 16 0 rfl rfl (i := ((k_h * 64) + m_i)) (x := 0) (vp_in_iff.mpr ⟨by omega, by omega⟩) dX9_firstSight_148 (fun H locs hP hD hS => ?_)
              refine g5_rs [(a_k, (oc5 a_h a_j a_pt m_ln m_se m_lh m_br m_we m_me m_ce m_wy m_ho m_ov)), (a_g, (oc6 6 5 a_gn e_g)), (a_gn, (arI G 30 f_g)), (a_p, (oc6 8 5 a_pn e_p)), (a_pn, (arI G 40 f_p)), (a_bb, (arJ G 24 f_bb)), (a_j, (oc2 a_as a_sk)), (a_as, (arI G 8 m_as)), (a_sk, (arJ G 50 m_sk)), (a_l, (arW G 6 f_l)), (a_lo, (oc3 e_cl a_hd a_sr a_cd)), (a_sr, (arI G n_sr f_sr)), (a_cd, (arI G n_cd f_cd)), (a_hd, (arI G n_hd f_hd)), (a_pt, (arI G 200 m_pt)), (a_go, (arJ G 24 k_go)), (a_mt, (arI G 1536 (upd m_mt ((k_h * 64) + m_i).toNatClampNeg 0))), (a_h, (oc1 e_wa e_le e_st e_fo e_lc a_l a_g a_b a_s a_p a_w e_gb a_bb)), (a_b, (oc6 5 24 a_bn e_b)), (a_bn, (arI G 120 f_b)), (a_wk, (oc9 a_h a_k a_go a_mt))] hP hD (fun hP hD => ?_)
              refine lv_iinc (v := (m_i + 1)) (lv' := [(11, .int (m_i + 1)), (9, .long m_x), (12, .int 0), (7, .int m_t), (5, .long k_x), (8, .int k_h), (0, .ref a_wk), (1, .int p_b), (2, .int p_c), (3, .int p_f), (4, .int p_e)]) hx hb dX9_firstSight_149 hl (k := 3) rfl rfl (by decide) rfl (fun ls hl => ?_)
              have t_25 : (m_i + 1).toInt = m_i.toInt + 1 := g5_iadd (a := m_i.toInt) (b := 1) rfl (by decide) (by omega) (by omega)
              refine lv_goto (tgt := 58) hx hb dX9_firstSight_152 (by decide) ?_
              exact ih_58_14 (m_x, m_t, (m_i + 1), m_se, m_lh, m_br, m_we, m_me, m_ce, m_wy, m_ho, m_ov, m_pt, m_as, m_sk, m_ln, (upd m_mt ((k_h * 64) + m_i).toNatClampNeg 0)) ls H locs (show Int.toNat (64 - (m_i + 1).toInt) < Int.toNat (64 - m_i.toInt) from g_up (show m_i.toInt < (m_i + 1).toInt by omega) (show m_i.toInt < 64 by omega)) ⟨lv_sub hl [3, 1, 0, 4, 5, 6, 7, 8, 9, 10] rfl, hP, hD, hS, i_11, ⟨by omega, by omega⟩, i_13⟩
            ·
              have i_24 : m_t.toInt ≠ 0 := by have z := g5_eqN (a := m_t.toInt) (b := 0) (by rfl) (by decide) c_24; omega
              omega
          ·
            exact absurd c_21 (by decide)
        ·
          have n_20 : gNe (m_t.toInt) (0) := by have z := g5_eqN (a := m_t.toInt) (b := 0) (by rfl) (by decide) c_20; unfold gNe; omega
          have i_20 : m_t.toInt ≥ 1 := by have z := g5_eqN (a := m_t.toInt) (b := 0) (by rfl) (by decide) c_20; omega
          refine lv_lload hx hb dX9_firstSight_70 (lv_at hl 3 rfl) ?_
          refine lv_iload hx hb dX9_firstSight_72 (lv_at hl 2 rfl) ?_
          obtain ⟨hPc, hDc, hFc⟩ := g5_sub3 (wc := []) hP hD hS hA [] (by decide) rfl
          refine va_calli (va_runSN (As := [.long k_x, .int m_i]) (rest := []) ⟨hx, hb, hml, hown, hts⟩ (k_isOn l G H.size m_i k_x ⟨by omega, by omega⟩) ⟨va_cnB 2 hts gW_X11_isOn rfl rfl rfl (hN.1 _ g5_nw_X9_43) (hts _ ini_X11) hs_X11_isOn ⟨Nat.le_of_ble_eq_true rfl, Nat.le_of_ble_eq_true rfl⟩, hts _ st_X11_isOn, trivial⟩ (g5_preS hPc hK hDc hN hT hS hFc) rfl rfl hl.1 rfl (lv_room (Nat.le_of_ble_eq_true rfl)) dX9_firstSight_74 ⟨Nat.le_of_ble_eq_true rfl, Nat.le_of_ble_eq_true rfl⟩) hS (fun q _ h => hFc q h) hFc (fun r u t H1 locs ht hvm hw hB hz1 hk1 hS => ?_)
          obtain ⟨hP1, hD1⟩ := hB
          rw [ht] at hP1
          rcases hw with ⟨i_26, rfl, rfl⟩ | ⟨i_27, rfl, rfl⟩
          ·
            have i_26 : onB k_x m_i.toInt = false := i_26
            have hP := g5_same hP hk1
            generalize H1 = H at hP hS ⊢
            refine lv_if_eq (tgt := 99) hx hb dX9_firstSight_77 (by decide) (fun c_28 => ?_) (fun c_28 => ?_)
            ·
              refine lv_iconst (v := 0) hx hb dX9_firstSight_99 (by decide) ?_
              refine lv_istore (lv' := [(12, .int 0), (7, .int m_t), (9, .long m_x), (11, .int m_i), (5, .long k_x), (8, .int k_h), (0, .ref a_wk), (1, .int p_b), (2, .int p_c), (3, .int p_f), (4, .int p_e)]) hx hb dX9_firstSight_100 hl (by decide) rfl (fun ls hl => ?_)
              refine lv_lload hx hb dX9_firstSight_102 (lv_at hl 2 rfl) ?_
              refine lv_iload hx hb dX9_firstSight_104 (lv_at hl 0 rfl) ?_
              refine lv_if_eq (tgt := 116) hx hb dX9_firstSight_106 (by decide) (fun c_29 => ?_) (fun c_29 => ?_)
              ·
                refine lv_lconst (v := 0) hx hb dX9_firstSight_116 (by decide) ?_
                refine lv_lor hx hb dX9_firstSight_117 ?_
                refine g5_tl (v := m_x) (by simp) ?_
                refine lv_lstore (lv' := [(9, .long m_x), (12, .int 0), (7, .int m_t), (11, .int m_i), (5, .long k_x), (8, .int k_h), (0, .ref a_wk), (1, .int p_b), (2, .int p_c), (3, .int p_f), (4, .int p_e)]) hx hb dX9_firstSight_118 hl (by decide) rfl (fun ls hl => ?_)
                refine lv_aload_n hx hb dX9_firstSight_120 rfl (lv_at hl 6 rfl) ?_
                refine va_get (D := G.1) (ci := 9) (v := .ref a_mt) (C := RX9) (T := TX9) (N := 4) hx hb hts inG_X9 hown hK hP 20 rfl rfl 3 (by decide) (hts _ fl_X9_15) (fun _ h9 => h9) rfl dX9_firstSight_121 ?_
                refine lv_iload hx hb dX9_firstSight_124 (lv_at hl 5 rfl) ?_
                refine lv_bipush (v := 64) hx hb dX9_firstSight_126 (by decide) ?_
                refine lv_imul hx hb dX9_firstSight_128 ?_
                have t_30 : (k_h * 64).toInt = k_h.toInt * 64 := g5_imul (a := k_h.toInt) (b := 64) (by rfl) (by decide) (by omega) (by omega)
                refine lv_iload hx hb dX9_firstSight_129 (lv_at hl 3 rfl) ?_
                refine lv_iadd hx hb dX9_firstSight_131 ?_
                have t_31 : ((k_h * 64) + m_i).toInt = (k_h * 64).toInt + m_i.toInt := g5_iadd (a := (k_h * 64).toInt) (b := m_i.toInt) (by rfl) (by rfl) (by omega) (by omega)
                refine lv_iload hx hb dX9_firstSight_132 (lv_at hl 2 rfl) ?_
                refine lv_if_eq (tgt := 147) hx hb dX9_firstSight_134 (by decide) (fun c_32 => ?_) (fun c_32 => ?_)
                ·
                  have i_32 : m_t.toInt = 0 := by have z := g5_eq (a := m_t.toInt) (b := 0) (by rfl) (by decide) c_32; omega
                  omega
                ·
                  have n_32 : gNe (m_t.toInt) (0) := by have z := g5_eqN (a := m_t.toInt) (b := 0) (by rfl) (by decide) c_32; unfold gNe; omega
                  refine lv_aload_n hx hb dX9_firstSight_137 rfl (lv_at hl 6 rfl) ?_
                  refine va_get (D := G.1) (ci := 9) (v := .ref a_k) (C := RX9) (T := TX9) (N := 4) hx hb hts inG_X9 hown hK hP 20 rfl rfl 1 (by decide) (hts _ fl_X9_23) (fun _ h9 => h9) rfl dX9_firstSight_138 ?_
                  refine va_get (D := G.1) (ci := 5) (v := .int m_me) (C := RX5) (T := TX5) (N := 13) hx hb hts inG_X5 hown hK hP 0 rfl rfl 8 (by decide) (hts _ fl_X9_53) (fun _ h9 => h9) rfl dX9_firstSight_141 ?_
                  refine lv_goto (tgt := 148) hx hb dX9_firstSight_144 (by decide) ?_
                  refine va_iast hx hb hK hP hD hS 16 0 rfl rfl (i := ((k_h * 64) + m_i)) (x := m_me) (vp_in_iff.mpr ⟨by omega, by omega⟩) dX9_firstSight_148 (fun H locs hP hD hS => ?_)
                  refine g5_rs [(a_k, (oc5 a_h a_j a_pt m_ln m_se m_lh m_br m_we m_me m_ce m_wy m_ho m_ov)), (a_g, (oc6 6 5 a_gn e_g)), (a_gn, (arI G 30 f_g)), (a_p, (oc6 8 5 a_pn e_p)), (a_pn, (arI G 40 f_p)), (a_bb, (arJ G 24 f_bb)), (a_j, (oc2 a_as a_sk)), (a_as, (arI G 8 m_as)), (a_sk, (arJ G 50 m_sk)), (a_l, (arW G 6 f_l)), (a_lo, (oc3 e_cl a_hd a_sr a_cd)), (a_sr, (arI G n_sr f_sr)), (a_cd, (arI G n_cd f_cd)), (a_hd, (arI G n_hd f_hd)), (a_pt, (arI G 200 m_pt)), (a_go, (arJ G 24 k_go)), (a_mt, (arI G 1536 (upd m_mt ((k_h * 64) + m_i).toNatClampNeg m_me))), (a_h, (oc1 e_wa e_le e_st e_fo e_lc a_l a_g a_b a_s a_p a_w e_gb a_bb)), (a_b, (oc6 5 24 a_bn e_b)), (a_bn, (arI G 120 f_b)), (a_wk, (oc9 a_h a_k a_go a_mt))] hP hD (fun hP hD => ?_)
                  refine lv_iinc (v := (m_i + 1)) (lv' := [(11, .int (m_i + 1)), (9, .long m_x), (12, .int 0), (7, .int m_t), (5, .long k_x), (8, .int k_h), (0, .ref a_wk), (1, .int p_b), (2, .int p_c), (3, .int p_f), (4, .int p_e)]) hx hb dX9_firstSight_149 hl (k := 3) rfl rfl (by decide) rfl (fun ls hl => ?_)
                  have t_33 : (m_i + 1).toInt = m_i.toInt + 1 := g5_iadd (a := m_i.toInt) (b := 1) rfl (by decide) (by omega) (by omega)
                  refine lv_goto (tgt := 58) hx hb dX9_firstSight_152 (by decide) ?_
                  exact ih_58_14 (m_x, m_t, (m_i + 1), m_se, m_lh, m_br, m_we, m_me, m_ce, m_wy, m_ho, m_ov, m_pt, m_as, m_sk, m_ln, (upd m_mt ((k_h * 64) + m_i).toNatClampNeg m_me)) ls H locs (show Int.toNat (64 - (m_i + 1).toInt) < Int.toNat (64 - m_i.toInt) from g_up (show m_i.toInt < (m_i + 1).toInt by omega) (show m_i.toInt < 64 by omega)) ⟨lv_sub hl [3, 1, 0, 4, 5, 6, 7, 8, 9, 10] rfl, hP, hD, hS, i_11, ⟨by omega, by omega⟩, i_13⟩
              ·
                exact absurd c_29 (by decide)
            ·
              exact absurd c_28 (by decide)
          ·
            have i_27 : onB k_x m_i.toInt = true := i_27
            have hP := g5_same hP hk1
            generalize H1 = H at hP hS ⊢
            refine lv_if_eq (tgt := 99) hx hb dX9_firstSight_77 (by decide) (fun c_34 => ?_) (fun c_34 => ?_)
            ·
              exact absurd c_34 (by decide)
            ·
              refine lv_aload_n hx hb dX9_firstSight_80 rfl (lv_at hl 5 rfl) ?_
              refine va_get (D := G.1) (ci := 9) (v := .ref a_k) (C := RX9) (T := TX9) (N := 4) hx hb hts inG_X9 hown hK hP 20 rfl rfl 1 (by decide) (hts _ fl_X9_23) (fun _ h9 => h9) rfl dX9_firstSight_81 ?_
              refine lv_iload_n hx hb dX9_firstSight_84 rfl (lv_at hl 6 rfl) ?_
              refine lv_iload hx hb dX9_firstSight_85 (lv_at hl 2 rfl) ?_
              refine lv_iload hx hb dX9_firstSight_87 (lv_at hl 4 rfl) ?_
              obtain ⟨hPc, hDc, hFc⟩ := g5_sub3 (wc := [(a_k, (oc5 a_h a_j a_pt m_ln m_se m_lh m_br m_we m_me m_ce m_wy m_ho m_ov)), (a_h, (oc1 e_wa e_le e_st e_fo e_lc a_l a_g a_b a_s a_p a_w e_gb a_bb)), (a_g, (oc6 6 5 a_gn e_g)), (a_gn, (arI G 30 f_g)), (a_b, (oc6 5 24 a_bn e_b)), (a_bn, (arI G 120 f_b)), (a_p, (oc6 8 5 a_pn e_p)), (a_pn, (arI G 40 f_p)), (a_bb, (arJ G 24 f_bb)), (a_j, (oc2 a_as a_sk)), (a_as, (arI G 8 m_as)), (a_sk, (arJ G 50 m_sk)), (a_l, (arW G 6 f_l)), (a_lo, (oc3 e_cl a_hd a_sr a_cd)), (a_sr, (arI G n_sr f_sr)), (a_cd, (arI G n_cd f_cd)), (a_hd, (arI G n_hd f_hd)), (a_pt, (arI G 200 m_pt))]) hP hD hS hA [0, 17, 1, 2, 18, 19, 3, 4, 5, 6, 7, 8, 9, 10, 11, 12, 13, 14] (by decide) rfl
              refine va_calli (va_runV (As := [.int p_b, .int m_i, .int k_h]) (rest := []) ⟨hx, hb, hml, hown, hts⟩ (s_findsBodyL l G a_k a_h a_g a_gn a_b a_bn a_p a_pn a_bb a_j a_as a_sk a_l a_lo a_sr a_cd a_hd a_pt a_s a_w H.size e_le e_st e_fo e_lc e_g e_b e_p e_cl m_ln m_se m_lh m_br m_we m_me m_ce m_wy m_ho m_ov m_i k_h p_b e_wa e_gb f_g f_b f_p f_bb m_as m_sk f_l f_sr f_cd f_hd m_pt n_sr n_cd n_hd h_e_g h_e_b h_e_p h_e_cl i_13 (e_gk) (e_pk) (e_gi) (e_f) (e_a) (e_hn) (e_hs) (e_hk) (e_c)) (cwV 3 hts gV_X9_47 rfl rfl rfl hv_X5_findsBody ⟨Nat.le_of_ble_eq_true rfl, Nat.le_of_ble_eq_true rfl⟩) (g5_preV hPc hK hDc hN hT hS hFc (ci := 5) (q0 := 0) rfl rfl) rfl rfl hl.1 rfl (lv_room (Nat.le_of_ble_eq_true rfl)) dX9_firstSight_89 ⟨Nat.le_of_ble_eq_true rfl, Nat.le_of_ble_eq_true rfl⟩) hS (fun q _ h => hFc q h) hFc (fun r u t H1 locs ht hvm hw hB hz1 hk1 hS => ?_)
              obtain ⟨hP1, hD1⟩ := hB
              rw [ht] at hP1
              obtain ⟨z37, z38, z39, z40, z41, z42, z43, z44, z45, z46, z47, z48, z49, z50, i_35, i_36, y51, rfl⟩ := hw
              have i_35 : 0 ≤ z37.toInt ∧ z37.toInt ≤ 1 := i_35
              have i_36 : 0 ≤ z47.toInt ∧ z47.toInt ≤ 1 := i_36
              obtain ⟨hP, hD⟩ := va_join (wr := [(a_go, (arJ G 24 k_go)), (a_mt, (arI G 1536 m_mt)), (a_wk, (oc9 a_h a_k a_go a_mt))]) hP hD [0, 17, 1, 2, 18, 19, 3, 4, 5, 6, 7, 8, 9, 10, 11, 12, 13, 14] [15, 16, 20] rfl rfl (by decide) (by decide) hk1 hFc hP1 hD1
              generalize H1 = H at hP hS ⊢
              refine g5_rs [(a_go, (arJ G 24 k_go)), (a_mt, (arI G 1536 m_mt)), (a_wk, (oc9 a_h a_k a_go a_mt)), (a_k, (oc5 a_h a_j a_pt z38 z39 z40 z41 z42 z43 z44 z45 z46 z47)), (a_h, (oc1 e_wa e_le e_st e_fo e_lc a_l a_g a_b a_s a_p a_w e_gb a_bb)), (a_g, (oc6 6 5 a_gn e_g)), (a_gn, (arI G 30 f_g)), (a_b, (oc6 5 24 a_bn e_b)), (a_bn, (arI G 120 f_b)), (a_p, (oc6 8 5 a_pn e_p)), (a_pn, (arI G 40 f_p)), (a_bb, (arJ G 24 f_bb)), (a_j, (oc2 a_as a_sk)), (a_as, (arI G 8 z49)), (a_sk, (arJ G 50 z50)), (a_l, (arW G 6 f_l)), (a_lo, (oc3 e_cl a_hd a_sr a_cd)), (a_sr, (arI G n_sr f_sr)), (a_cd, (arI G n_cd f_cd)), (a_hd, (arI G n_hd f_hd)), (a_pt, (arI G 200 z48))] hP hD (fun hP hD => ?_)
              refine g5_ti (v := z37) y51 ?_
              refine lv_if_eq (tgt := 99) hx hb dX9_firstSight_92 (by decide) (fun c_52 => ?_) (fun c_52 => ?_)
              ·
                have i_52 : z37.toInt = 0 := by have z := g5_eq (a := z37.toInt) (b := 0) (by rfl) (by decide) c_52; omega
                refine lv_iconst (v := 0) hx hb dX9_firstSight_99 (by decide) ?_
                refine lv_istore (lv' := [(12, .int 0), (7, .int m_t), (9, .long m_x), (11, .int m_i), (5, .long k_x), (8, .int k_h), (0, .ref a_wk), (1, .int p_b), (2, .int p_c), (3, .int p_f), (4, .int p_e)]) hx hb dX9_firstSight_100 hl (by decide) rfl (fun ls hl => ?_)
                refine lv_lload hx hb dX9_firstSight_102 (lv_at hl 2 rfl) ?_
                refine lv_iload hx hb dX9_firstSight_104 (lv_at hl 0 rfl) ?_
                refine lv_if_eq (tgt := 116) hx hb dX9_firstSight_106 (by decide) (fun c_53 => ?_) (fun c_53 => ?_)
                ·
                  refine lv_lconst (v := 0) hx hb dX9_firstSight_116 (by decide) ?_
                  refine lv_lor hx hb dX9_firstSight_117 ?_
                  refine g5_tl (v := m_x) (by simp) ?_
                  refine lv_lstore (lv' := [(9, .long m_x), (12, .int 0), (7, .int m_t), (11, .int m_i), (5, .long k_x), (8, .int k_h), (0, .ref a_wk), (1, .int p_b), (2, .int p_c), (3, .int p_f), (4, .int p_e)]) hx hb dX9_firstSight_118 hl (by decide) rfl (fun ls hl => ?_)
                  refine lv_aload_n hx hb dX9_firstSight_120 rfl (lv_at hl 6 rfl) ?_
                  refine va_get (D := G.1) (ci := 9) (v := .ref a_mt) (C := RX9) (T := TX9) (N := 4) hx hb hts inG_X9 hown hK hP 2 rfl rfl 3 (by decide) (hts _ fl_X9_15) (fun _ h9 => h9) rfl dX9_firstSight_121 ?_
                  refine lv_iload hx hb dX9_firstSight_124 (lv_at hl 5 rfl) ?_
                  refine lv_bipush (v := 64) hx hb dX9_firstSight_126 (by decide) ?_
                  refine lv_imul hx hb dX9_firstSight_128 ?_
                  have t_54 : (k_h * 64).toInt = k_h.toInt * 64 := g5_imul (a := k_h.toInt) (b := 64) (by rfl) (by decide) (by omega) (by omega)
                  refine lv_iload hx hb dX9_firstSight_129 (lv_at hl 3 rfl) ?_
                  refine lv_iadd hx hb dX9_firstSight_131 ?_
                  have t_55 : ((k_h * 64) + m_i).toInt = (k_h * 64).toInt + m_i.toInt := g5_iadd (a := (k_h * 64).toInt) (b := m_i.toInt) (by rfl) (by rfl) (by omega) (by omega)
                  refine lv_iload hx hb dX9_firstSight_132 (lv_at hl 2 rfl) ?_
                  refine lv_if_eq (tgt := 147) hx hb dX9_firstSight_134 (by decide) (fun c_56 => ?_) (fun c_56 => ?_)
                  ·
                    have i_56 : m_t.toInt = 0 := by have z := g5_eq (a := m_t.toInt) (b := 0) (by rfl) (by decide) c_56; omega
                    omega
                  ·
                    have n_56 : gNe (m_t.toInt) (0) := by have z := g5_eqN (a := m_t.toInt) (b := 0) (by rfl) (by decide) c_56; unfold gNe; omega
                    refine lv_aload_n hx hb dX9_firstSight_137 rfl (lv_at hl 6 rfl) ?_
                    refine va_get (D := G.1) (ci := 9) (v := .ref a_k) (C := RX9) (T := TX9) (N := 4) hx hb hts inG_X9 hown hK hP 2 rfl rfl 1 (by decide) (hts _ fl_X9_23) (fun _ h9 => h9) rfl dX9_firstSight_138 ?_
                    refine va_get (D := G.1) (ci := 5) (v := .int z43) (C := RX5) (T := TX5) (N := 13) hx hb hts inG_X5 hown hK hP 3 rfl rfl 8 (by decide) (hts _ fl_X9_53) (fun _ h9 => h9) rfl dX9_firstSight_141 ?_
                    refine lv_goto (tgt := 148) hx hb dX9_firstSight_144 (by decide) ?_
                    refine va_iast hx hb hK hP hD hS 1 0 rfl rfl (i := ((k_h * 64) + m_i)) (x := z43) (vp_in_iff.mpr ⟨by omega, by omega⟩) dX9_firstSight_148 (fun H locs hP hD hS => ?_)
                    refine g5_rs [(a_go, (arJ G 24 k_go)), (a_mt, (arI G 1536 (upd m_mt ((k_h * 64) + m_i).toNatClampNeg z43))), (a_wk, (oc9 a_h a_k a_go a_mt)), (a_k, (oc5 a_h a_j a_pt z38 z39 z40 z41 z42 z43 z44 z45 z46 z47)), (a_h, (oc1 e_wa e_le e_st e_fo e_lc a_l a_g a_b a_s a_p a_w e_gb a_bb)), (a_g, (oc6 6 5 a_gn e_g)), (a_gn, (arI G 30 f_g)), (a_b, (oc6 5 24 a_bn e_b)), (a_bn, (arI G 120 f_b)), (a_p, (oc6 8 5 a_pn e_p)), (a_pn, (arI G 40 f_p)), (a_bb, (arJ G 24 f_bb)), (a_j, (oc2 a_as a_sk)), (a_as, (arI G 8 z49)), (a_sk, (arJ G 50 z50)), (a_l, (arW G 6 f_l)), (a_lo, (oc3 e_cl a_hd a_sr a_cd)), (a_sr, (arI G n_sr f_sr)), (a_cd, (arI G n_cd f_cd)), (a_hd, (arI G n_hd f_hd)), (a_pt, (arI G 200 z48))] hP hD (fun hP hD => ?_)
                    refine lv_iinc (v := (m_i + 1)) (lv' := [(11, .int (m_i + 1)), (9, .long m_x), (12, .int 0), (7, .int m_t), (5, .long k_x), (8, .int k_h), (0, .ref a_wk), (1, .int p_b), (2, .int p_c), (3, .int p_f), (4, .int p_e)]) hx hb dX9_firstSight_149 hl (k := 3) rfl rfl (by decide) rfl (fun ls hl => ?_)
                    have t_57 : (m_i + 1).toInt = m_i.toInt + 1 := g5_iadd (a := m_i.toInt) (b := 1) rfl (by decide) (by omega) (by omega)
                    refine lv_goto (tgt := 58) hx hb dX9_firstSight_152 (by decide) ?_
                    exact ih_58_14 (m_x, m_t, (m_i + 1), z39, z40, z41, z42, z43, z44, z45, z46, z47, z48, z49, z50, z38, (upd m_mt ((k_h * 64) + m_i).toNatClampNeg z43)) ls H locs (show Int.toNat (64 - (m_i + 1).toInt) < Int.toNat (64 - m_i.toInt) from g_up (show m_i.toInt < (m_i + 1).toInt by omega) (show m_i.toInt < 64 by omega)) ⟨lv_sub hl [3, 1, 0, 4, 5, 6, 7, 8, 9, 10] rfl, hP.sub [3, 5, 6, 9, 10, 11, 12, 13, 14, 15, 16, 17, 18, 19, 20, 0, 1, 4, 7, 8, 2] rfl, hD.sub [3, 5, 6, 9, 10, 11, 12, 13, 14, 15, 16, 17, 18, 19, 20, 0, 1, 4, 7, 8, 2] (by decide) rfl, hS, i_11, ⟨by omega, by omega⟩, i_36⟩
                ·
                  exact absurd c_53 (by decide)
              ·
                have n_52 : gNe (z37.toInt) (0) := by have z := g5_eqN (a := z37.toInt) (b := 0) (by rfl) (by decide) c_52; unfold gNe; omega
                have i_52 : z37.toInt ≥ 1 := by have z := g5_eqN (a := z37.toInt) (b := 0) (by rfl) (by decide) c_52; omega
                refine lv_iconst (v := 1) hx hb dX9_firstSight_95 (by decide) ?_
                refine lv_goto (tgt := 100) hx hb dX9_firstSight_96 (by decide) ?_
                refine lv_istore (lv' := [(12, .int 1), (7, .int m_t), (9, .long m_x), (11, .int m_i), (5, .long k_x), (8, .int k_h), (0, .ref a_wk), (1, .int p_b), (2, .int p_c), (3, .int p_f), (4, .int p_e)]) hx hb dX9_firstSight_100 hl (by decide) rfl (fun ls hl => ?_)
                refine lv_lload hx hb dX9_firstSight_102 (lv_at hl 2 rfl) ?_
                refine lv_iload hx hb dX9_firstSight_104 (lv_at hl 0 rfl) ?_
                refine lv_if_eq (tgt := 116) hx hb dX9_firstSight_106 (by decide) (fun c_58 => ?_) (fun c_58 => ?_)
                ·
                  exact absurd c_58 (by decide)
                ·
                  refine lv_lconst (v := 1) hx hb dX9_firstSight_109 (by decide) ?_
                  refine lv_iload hx hb dX9_firstSight_110 (lv_at hl 3 rfl) ?_
                  refine lv_lshl (v := ((1 : Int64) <<< (m_i.toInt64 &&& 63))) hx hb dX9_firstSight_112 rfl ?_
                  refine lv_goto (tgt := 117) hx hb dX9_firstSight_113 (by decide) ?_
                  refine lv_lor hx hb dX9_firstSight_117 ?_
                  refine lv_lstore (lv' := [(9, .long (m_x ||| ((1 : Int64) <<< (m_i.toInt64 &&& 63)))), (12, .int 1), (7, .int m_t), (11, .int m_i), (5, .long k_x), (8, .int k_h), (0, .ref a_wk), (1, .int p_b), (2, .int p_c), (3, .int p_f), (4, .int p_e)]) hx hb dX9_firstSight_118 hl (by decide) rfl (fun ls hl => ?_)
                  refine lv_aload_n hx hb dX9_firstSight_120 rfl (lv_at hl 6 rfl) ?_
                  refine va_get (D := G.1) (ci := 9) (v := .ref a_mt) (C := RX9) (T := TX9) (N := 4) hx hb hts inG_X9 hown hK hP 2 rfl rfl 3 (by decide) (hts _ fl_X9_15) (fun _ h9 => h9) rfl dX9_firstSight_121 ?_
                  refine lv_iload hx hb dX9_firstSight_124 (lv_at hl 5 rfl) ?_
                  refine lv_bipush (v := 64) hx hb dX9_firstSight_126 (by decide) ?_
                  refine lv_imul hx hb dX9_firstSight_128 ?_
                  have t_59 : (k_h * 64).toInt = k_h.toInt * 64 := g5_imul (a := k_h.toInt) (b := 64) (by rfl) (by decide) (by omega) (by omega)
                  refine lv_iload hx hb dX9_firstSight_129 (lv_at hl 3 rfl) ?_
                  refine lv_iadd hx hb dX9_firstSight_131 ?_
                  have t_60 : ((k_h * 64) + m_i).toInt = (k_h * 64).toInt + m_i.toInt := g5_iadd (a := (k_h * 64).toInt) (b := m_i.toInt) (by rfl) (by rfl) (by omega) (by omega)
                  refine lv_iload hx hb dX9_firstSight_132 (lv_at hl 2 rfl) ?_
                  refine lv_if_eq (tgt := 147) hx hb dX9_firstSight_134 (by decide) (fun c_61 => ?_) (fun c_61 => ?_)
                  ·
                    have i_61 : m_t.toInt = 0 := by have z := g5_eq (a := m_t.toInt) (b := 0) (by rfl) (by decide) c_61; omega
                    omega
                  ·
                    have n_61 : gNe (m_t.toInt) (0) := by have z := g5_eqN (a := m_t.toInt) (b := 0) (by rfl) (by decide) c_61; unfold gNe; omega
                    refine lv_aload_n hx hb dX9_firstSight_137 rfl (lv_at hl 6 rfl) ?_
                    refine va_get (D := G.1) (ci := 9) (v := .ref a_k) (C := RX9) (T := TX9) (N := 4) hx hb hts inG_X9 hown hK hP 2 rfl rfl 1 (by decide) (hts _ fl_X9_23) (fun _ h9 => h9) rfl dX9_firstSight_138 ?_
                    refine va_get (D := G.1) (ci := 5) (v := .int z43) (C := RX5) (T := TX5) (N := 13) hx hb hts inG_X5 hown hK hP 3 rfl rfl 8 (by decide) (hts _ fl_X9_53) (fun _ h9 => h9) rfl dX9_firstSight_141 ?_
                    refine lv_goto (tgt := 148) hx hb dX9_firstSight_144 (by decide) ?_
                    refine va_iast hx hb hK hP hD hS 1 0 rfl rfl (i := ((k_h * 64) + m_i)) (x := z43) (vp_in_iff.mpr ⟨by omega, by omega⟩) dX9_firstSight_148 (fun H locs hP hD hS => ?_)
                    refine g5_rs [(a_go, (arJ G 24 k_go)), (a_mt, (arI G 1536 (upd m_mt ((k_h * 64) + m_i).toNatClampNeg z43))), (a_wk, (oc9 a_h a_k a_go a_mt)), (a_k, (oc5 a_h a_j a_pt z38 z39 z40 z41 z42 z43 z44 z45 z46 z47)), (a_h, (oc1 e_wa e_le e_st e_fo e_lc a_l a_g a_b a_s a_p a_w e_gb a_bb)), (a_g, (oc6 6 5 a_gn e_g)), (a_gn, (arI G 30 f_g)), (a_b, (oc6 5 24 a_bn e_b)), (a_bn, (arI G 120 f_b)), (a_p, (oc6 8 5 a_pn e_p)), (a_pn, (arI G 40 f_p)), (a_bb, (arJ G 24 f_bb)), (a_j, (oc2 a_as a_sk)), (a_as, (arI G 8 z49)), (a_sk, (arJ G 50 z50)), (a_l, (arW G 6 f_l)), (a_lo, (oc3 e_cl a_hd a_sr a_cd)), (a_sr, (arI G n_sr f_sr)), (a_cd, (arI G n_cd f_cd)), (a_hd, (arI G n_hd f_hd)), (a_pt, (arI G 200 z48))] hP hD (fun hP hD => ?_)
                    refine lv_iinc (v := (m_i + 1)) (lv' := [(11, .int (m_i + 1)), (9, .long (m_x ||| ((1 : Int64) <<< (m_i.toInt64 &&& 63)))), (12, .int 1), (7, .int m_t), (5, .long k_x), (8, .int k_h), (0, .ref a_wk), (1, .int p_b), (2, .int p_c), (3, .int p_f), (4, .int p_e)]) hx hb dX9_firstSight_149 hl (k := 3) rfl rfl (by decide) rfl (fun ls hl => ?_)
                    have t_62 : (m_i + 1).toInt = m_i.toInt + 1 := g5_iadd (a := m_i.toInt) (b := 1) rfl (by decide) (by omega) (by omega)
                    refine lv_goto (tgt := 58) hx hb dX9_firstSight_152 (by decide) ?_
                    exact ih_58_14 ((m_x ||| ((1 : Int64) <<< (m_i.toInt64 &&& 63))), m_t, (m_i + 1), z39, z40, z41, z42, z43, z44, z45, z46, z47, z48, z49, z50, z38, (upd m_mt ((k_h * 64) + m_i).toNatClampNeg z43)) ls H locs (show Int.toNat (64 - (m_i + 1).toInt) < Int.toNat (64 - m_i.toInt) from g_up (show m_i.toInt < (m_i + 1).toInt by omega) (show m_i.toInt < 64 by omega)) ⟨lv_sub hl [3, 1, 0, 4, 5, 6, 7, 8, 9, 10] rfl, hP.sub [3, 5, 6, 9, 10, 11, 12, 13, 14, 15, 16, 17, 18, 19, 20, 0, 1, 4, 7, 8, 2] rfl, hD.sub [3, 5, 6, 9, 10, 11, 12, 13, 14, 15, 16, 17, 18, 19, 20, 0, 1, 4, 7, 8, 2] (by decide) rfl, hS, i_11, ⟨by omega, by omega⟩, i_36⟩
    ·
      have i_10 : k_t.toInt = 0 := by have z := g5_neN (a := k_t.toInt) (b := 0) (by rfl) (by decide) c_10; omega
      refine lv_aload_n hx hb dX9_firstSight_28 rfl (lv_at hl 3 rfl) ?_
      refine va_get (D := G.1) (ci := 9) (v := .ref a_h) (C := RX9) (T := TX9) (N := 4) hx hb hts inG_X9 hown hK hP 20 rfl rfl 0 (by decide) (hts _ fl_X9_19) (fun _ h9 => h9) rfl dX9_firstSight_29 ?_
      refine va_get (D := G.1) (ci := 1) (v := .ref a_b) (C := RX1) (T := TX1) (N := 13) hx hb hts inG_X1 hown hK hP 17 rfl rfl 7 (by decide) (hts _ fl_X9_31) (fun _ h9 => h9) rfl dX9_firstSight_32 ?_
      refine lv_iload_n hx hb dX9_firstSight_35 rfl (lv_at hl 4 rfl) ?_
      refine lv_iload hx hb dX9_firstSight_36 (lv_at hl 2 rfl) ?_
      obtain ⟨hPc, hDc, hFc⟩ := g5_sub3 (wc := [(a_b, (oc6 5 24 a_bn e_b)), (a_bn, (arI G 120 f_b))]) hP hD hS hA [18, 19] (by decide) rfl
      refine va_calli (va_runV (As := [.int p_b, .int k_h]) (rest := []) ⟨hx, hb, hml, hown, hts⟩ (t_get_B l G a_b a_bn H.size e_b p_b k_h f_b h_e_b) (cwV 2 hts gV_X9_37 rfl rfl rfl hv_X6_get ⟨Nat.le_of_ble_eq_true rfl, Nat.le_of_ble_eq_true rfl⟩) (g5_preV hPc hK hDc hN hT hS hFc (ci := 6) (q0 := 0) rfl rfl) rfl rfl hl.1 rfl (lv_room (Nat.le_of_ble_eq_true rfl)) dX9_firstSight_38 ⟨Nat.le_of_ble_eq_true rfl, Nat.le_of_ble_eq_true rfl⟩) hS (fun q _ h => hFc q h) hFc (fun r u t H1 locs ht hvm hw hB hz1 hk1 hS => ?_)
      obtain ⟨hP1, hD1⟩ := hB
      rw [ht] at hP1
      obtain ⟨z64, i_63, y65, rfl⟩ := hw
      have i_63 : z64 = tget f_b e_b.toInt 24 p_b.toInt k_h.toInt := i_63
      obtain ⟨hP, hD⟩ := va_join (wr := [(a_k, (oc5 a_h a_j a_pt k_ln k_se k_lh k_br k_we k_me k_ce k_wy k_ho k_ov)), (a_g, (oc6 6 5 a_gn e_g)), (a_gn, (arI G 30 f_g)), (a_p, (oc6 8 5 a_pn e_p)), (a_pn, (arI G 40 f_p)), (a_bb, (arJ G 24 f_bb)), (a_j, (oc2 a_as a_sk)), (a_as, (arI G 8 k_as)), (a_sk, (arJ G 50 k_sk)), (a_l, (arW G 6 f_l)), (a_lo, (oc3 e_cl a_hd a_sr a_cd)), (a_sr, (arI G n_sr f_sr)), (a_cd, (arI G n_cd f_cd)), (a_hd, (arI G n_hd f_hd)), (a_pt, (arI G 200 k_pt)), (a_go, (arJ G 24 k_go)), (a_mt, (arI G 1536 k_mt)), (a_h, (oc1 e_wa e_le e_st e_fo e_lc a_l a_g a_b a_s a_p a_w e_gb a_bb)), (a_wk, (oc9 a_h a_k a_go a_mt))]) hP hD [18, 19] [0, 1, 2, 3, 4, 5, 6, 7, 8, 9, 10, 11, 12, 13, 14, 15, 16, 17, 20] rfl rfl (by decide) (by decide) hk1 hFc hP1 hD1
      generalize H1 = H at hP hS ⊢
      refine g5_rs [(a_k, (oc5 a_h a_j a_pt k_ln k_se k_lh k_br k_we k_me k_ce k_wy k_ho k_ov)), (a_g, (oc6 6 5 a_gn e_g)), (a_gn, (arI G 30 f_g)), (a_p, (oc6 8 5 a_pn e_p)), (a_pn, (arI G 40 f_p)), (a_bb, (arJ G 24 f_bb)), (a_j, (oc2 a_as a_sk)), (a_as, (arI G 8 k_as)), (a_sk, (arJ G 50 k_sk)), (a_l, (arW G 6 f_l)), (a_lo, (oc3 e_cl a_hd a_sr a_cd)), (a_sr, (arI G n_sr f_sr)), (a_cd, (arI G n_cd f_cd)), (a_hd, (arI G n_hd f_hd)), (a_pt, (arI G 200 k_pt)), (a_go, (arJ G 24 k_go)), (a_mt, (arI G 1536 k_mt)), (a_h, (oc1 e_wa e_le e_st e_fo e_lc a_l a_g a_b a_s a_p a_w e_gb a_bb)), (a_wk, (oc9 a_h a_k a_go a_mt)), (a_b, (oc6 5 24 a_bn e_b)), (a_bn, (arI G 120 f_b))] hP hD (fun hP hD => ?_)
      refine g5_ti (v := z64) y65 ?_
      refine lv_iconst (v := (-1)) hx hb dX9_firstSight_41 (by decide) ?_
      refine lv_icmp_eq (tgt := 49) hx hb dX9_firstSight_42 (by decide) (fun c_66 => ?_) (fun c_66 => ?_)
      ·
        have i_66 : z64.toInt = (-1) := by have z := g5_eq (a := z64.toInt) (b := (-1)) (by rfl) (by decide) c_66; omega
        refine lv_iconst (v := 0) hx hb dX9_firstSight_49 (by decide) ?_
        refine lv_istore (lv' := [(7, .int 0), (5, .long k_x), (8, .int k_h), (0, .ref a_wk), (1, .int p_b), (2, .int p_c), (3, .int p_f), (4, .int p_e)]) hx hb dX9_firstSight_50 hl (by decide) rfl (fun ls hl => ?_)
        refine lv_lconst (v := 0) hx hb dX9_firstSight_52 (by decide) ?_
        refine lv_lstore (lv' := [(9, .long 0), (7, .int 0), (5, .long k_x), (8, .int k_h), (0, .ref a_wk), (1, .int p_b), (2, .int p_c), (3, .int p_f), (4, .int p_e)]) hx hb dX9_firstSight_53 hl (by decide) rfl (fun ls hl => ?_)
        refine lv_iconst (v := 0) hx hb dX9_firstSight_55 (by decide) ?_
        refine lv_istore (lv' := [(11, .int 0), (9, .long 0), (7, .int 0), (5, .long k_x), (8, .int k_h), (0, .ref a_wk), (1, .int p_b), (2, .int p_c), (3, .int p_f), (4, .int p_e)]) hx hb dX9_firstSight_56 hl (by decide) rfl (fun ls hl => ?_)
        refine g5_loop (α := (Int64) × (Int32) × (Int32) × (Int32) × (Int32) × (Int32) × (Int32) × (Int32) × (Int32) × (Int32) × (Int32) × (Int32) × (Nat → Int32) × (Nat → Int32) × (Nat → Int64) × (Int32) × (Nat → Int32)) (fun (q : (Int64) × (Int32) × (Int32) × (Int32) × (Int32) × (Int32) × (Int32) × (Int32) × (Int32) × (Int32) × (Int32) × (Int32) × (Nat → Int32) × (Nat → Int32) × (Nat → Int64) × (Int32) × (Nat → Int32)) (ls : Array Slot) (H : Heap) (locs : List Loc) => match q with | (m_x, m_t, m_i, m_se, m_lh, m_br, m_we, m_me, m_ce, m_wy, m_ho, m_ov, m_pt, m_as, m_sk, m_ln, m_mt) => lv_has ls 13 [(7, .int m_t), (9, .long m_x), (11, .int m_i), (5, .long k_x), (8, .int k_h), (0, .ref a_wk), (1, .int p_b), (2, .int p_c), (3, .int p_f), (4, .int p_e)] ∧ va_P G.1 vwCl [(a_k, (oc5 a_h a_j a_pt m_ln m_se m_lh m_br m_we m_me m_ce m_wy m_ho m_ov)), (a_g, (oc6 6 5 a_gn e_g)), (a_gn, (arI G 30 f_g)), (a_p, (oc6 8 5 a_pn e_p)), (a_pn, (arI G 40 f_p)), (a_bb, (arJ G 24 f_bb)), (a_j, (oc2 a_as a_sk)), (a_as, (arI G 8 m_as)), (a_sk, (arJ G 50 m_sk)), (a_l, (arW G 6 f_l)), (a_lo, (oc3 e_cl a_hd a_sr a_cd)), (a_sr, (arI G n_sr f_sr)), (a_cd, (arI G n_cd f_cd)), (a_hd, (arI G n_hd f_hd)), (a_pt, (arI G 200 m_pt)), (a_go, (arJ G 24 k_go)), (a_mt, (arI G 1536 m_mt)), (a_h, (oc1 e_wa e_le e_st e_fo e_lc a_l a_g a_b a_s a_p a_w e_gb a_bb)), (a_wk, (oc9 a_h a_k a_go a_mt)), (a_b, (oc6 5 24 a_bn e_b)), (a_bn, (arI G 120 f_b))] H ∧ va_D A [(a_k, (oc5 a_h a_j a_pt m_ln m_se m_lh m_br m_we m_me m_ce m_wy m_ho m_ov)), (a_g, (oc6 6 5 a_gn e_g)), (a_gn, (arI G 30 f_g)), (a_p, (oc6 8 5 a_pn e_p)), (a_pn, (arI G 40 f_p)), (a_bb, (arJ G 24 f_bb)), (a_j, (oc2 a_as a_sk)), (a_as, (arI G 8 m_as)), (a_sk, (arJ G 50 m_sk)), (a_l, (arW G 6 f_l)), (a_lo, (oc3 e_cl a_hd a_sr a_cd)), (a_sr, (arI G n_sr f_sr)), (a_cd, (arI G n_cd f_cd)), (a_hd, (arI G n_hd f_hd)), (a_pt, (arI G 200 m_pt)), (a_go, (arJ G 24 k_go)), (a_mt, (arI G 1536 m_mt)), (a_h, (oc1 e_wa e_le e_st e_fo e_lc a_l a_g a_b a_s a_p a_w e_gb a_bb)), (a_wk, (oc9 a_h a_k a_go a_mt)), (a_b, (oc6 5 24 a_bn e_b)), (a_bn, (arI G 120 f_b))] ∧ va_S A s.heap H locs ∧ (0 ≤ m_t.toInt ∧ m_t.toInt ≤ 1) ∧ (0 ≤ m_i.toInt ∧ m_i.toInt ≤ 64) ∧ (0 ≤ m_ov.toInt ∧ m_ov.toInt ≤ 1)) (fun (q : (Int64) × (Int32) × (Int32) × (Int32) × (Int32) × (Int32) × (Int32) × (Int32) × (Int32) × (Int32) × (Int32) × (Int32) × (Nat → Int32) × (Nat → Int32) × (Nat → Int64) × (Int32) × (Nat → Int32)) => match q with | (m_x, m_t, m_i, m_se, m_lh, m_br, m_we, m_me, m_ce, m_wy, m_ho, m_ov, m_pt, m_as, m_sk, m_ln, m_mt) => Int.toNat (64 - m_i.toInt)) (0, 0, 0, k_se, k_lh, k_br, k_we, k_me, k_ce, k_wy, k_ho, k_ov, k_pt, k_as, k_sk, k_ln, k_mt) ⟨lv_sub hl [2, 1, 0, 3, 4, 5, 6, 7, 8, 9] rfl, hP, hD, hS, ⟨by decide, by decide⟩, ⟨by decide, by decide⟩, i_6⟩ ?_
        rintro ⟨m_x, m_t, m_i, m_se, m_lh, m_br, m_we, m_me, m_ce, m_wy, m_ho, m_ov, m_pt, m_as, m_sk, m_ln, m_mt⟩ ls H locs ⟨hl, hP, hD, hS, i_67, i_68, i_69⟩ ih_58_70
        have hl : lv_has ls 13 [(7, .int m_t), (9, .long m_x), (11, .int m_i), (5, .long k_x), (8, .int k_h), (0, .ref a_wk), (1, .int p_b), (2, .int p_c), (3, .int p_f), (4, .int p_e)] := hl
        have i_67 : 0 ≤ m_t.toInt ∧ m_t.toInt ≤ 1 := i_67
        have i_68 : 0 ≤ m_i.toInt ∧ m_i.toInt ≤ 64 := i_68
        have i_69 : 0 ≤ m_ov.toInt ∧ m_ov.toInt ≤ 1 := i_69
        refine g5_rs [(a_k, (oc5 a_h a_j a_pt m_ln m_se m_lh m_br m_we m_me m_ce m_wy m_ho m_ov)), (a_g, (oc6 6 5 a_gn e_g)), (a_gn, (arI G 30 f_g)), (a_p, (oc6 8 5 a_pn e_p)), (a_pn, (arI G 40 f_p)), (a_bb, (arJ G 24 f_bb)), (a_j, (oc2 a_as a_sk)), (a_as, (arI G 8 m_as)), (a_sk, (arJ G 50 m_sk)), (a_l, (arW G 6 f_l)), (a_lo, (oc3 e_cl a_hd a_sr a_cd)), (a_sr, (arI G n_sr f_sr)), (a_cd, (arI G n_cd f_cd)), (a_hd, (arI G n_hd f_hd)), (a_pt, (arI G 200 m_pt)), (a_go, (arJ G 24 k_go)), (a_mt, (arI G 1536 m_mt)), (a_h, (oc1 e_wa e_le e_st e_fo e_lc a_l a_g a_b a_s a_p a_w e_gb a_bb)), (a_wk, (oc9 a_h a_k a_go a_mt)), (a_b, (oc6 5 24 a_bn e_b)), (a_bn, (arI G 120 f_b))] hP hD (fun hP hD => ?_)
        refine lv_iload hx hb dX9_firstSight_58 (lv_at hl 2 rfl) ?_
        refine lv_bipush (v := 64) hx hb dX9_firstSight_60 (by decide) ?_
        refine lv_icmp_ge (tgt := 155) hx hb dX9_firstSight_62 (by decide) (fun c_71 => ?_) (fun c_71 => ?_)
        ·
          have i_71 : m_i.toInt ≥ 64 := by have z := g5_ge (a := m_i.toInt) (b := 64) (by rfl) (by decide) c_71; omega
          refine lv_aload_n hx hb dX9_firstSight_155 rfl (lv_at hl 5 rfl) ?_
          refine va_get (D := G.1) (ci := 9) (v := .ref a_go) (C := RX9) (T := TX9) (N := 4) hx hb hts inG_X9 hown hK hP 18 rfl rfl 2 (by decide) (hts _ fl_X9_9) (fun _ h9 => h9) rfl dX9_firstSight_156 ?_
          refine lv_iload hx hb dX9_firstSight_159 (lv_at hl 4 rfl) ?_
          refine lv_lload hx hb dX9_firstSight_161 (lv_at hl 1 rfl) ?_
          refine va_last hx hb hK hP hD hS 15 1 rfl rfl (i := k_h) (x := m_x) (vp_in_iff.mpr ⟨by omega, by omega⟩) dX9_firstSight_163 (fun H locs hP hD hS => ?_)
          refine g5_rs [(a_k, (oc5 a_h a_j a_pt m_ln m_se m_lh m_br m_we m_me m_ce m_wy m_ho m_ov)), (a_g, (oc6 6 5 a_gn e_g)), (a_gn, (arI G 30 f_g)), (a_p, (oc6 8 5 a_pn e_p)), (a_pn, (arI G 40 f_p)), (a_bb, (arJ G 24 f_bb)), (a_j, (oc2 a_as a_sk)), (a_as, (arI G 8 m_as)), (a_sk, (arJ G 50 m_sk)), (a_l, (arW G 6 f_l)), (a_lo, (oc3 e_cl a_hd a_sr a_cd)), (a_sr, (arI G n_sr f_sr)), (a_cd, (arI G n_cd f_cd)), (a_hd, (arI G n_hd f_hd)), (a_pt, (arI G 200 m_pt)), (a_go, (arJ G 24 (vp_updL k_go k_h.toNatClampNeg m_x))), (a_mt, (arI G 1536 m_mt)), (a_h, (oc1 e_wa e_le e_st e_fo e_lc a_l a_g a_b a_s a_p a_w e_gb a_bb)), (a_wk, (oc9 a_h a_k a_go a_mt)), (a_b, (oc6 5 24 a_bn e_b)), (a_bn, (arI G 120 f_b))] hP hD (fun hP hD => ?_)
          refine lv_lload hx hb dX9_firstSight_164 (lv_at hl 1 rfl) ?_
          refine lv_lconst (v := 0) hx hb dX9_firstSight_166 (by decide) ?_
          refine W.lcmp hx hb dX9_firstSight_167 ?_
          refine lv_if_eq (tgt := 174) hx hb dX9_firstSight_168 (by decide) (fun c_72 => ?_) (fun c_72 => ?_)
          ·
            have i_72 : (lg_cmp m_x 0).toInt = 0 := by have z := g5_eq (a := (lg_cmp m_x 0).toInt) (b := 0) (by rfl) (by decide) c_72; omega
            refine lv_aload_n hx hb dX9_firstSight_174 rfl (lv_at hl 5 rfl) ?_
            refine lv_lload hx hb dX9_firstSight_175 (lv_at hl 3 rfl) ?_
            obtain ⟨hPc, hDc, hFc⟩ := g5_sub3 (wc := [(a_h, (oc1 e_wa e_le e_st e_fo e_lc a_l a_g a_b a_s a_p a_w e_gb a_bb)), (a_wk, (oc9 a_h a_k a_go a_mt))]) hP hD hS hA [17, 18] (by decide) rfl
            refine va_calll (va_runV (As := [.long k_x]) (rest := []) ⟨hx, hb, hml, hown, hts⟩ (a_spread l G a_h a_wk a_l a_g a_b a_s a_p a_w a_bb a_k a_go a_mt H.size e_le e_st e_fo e_lc e_wa e_gb k_x) (cwV 1 hts gV_X9_56 rfl rfl rfl hv_X9_spread ⟨Nat.le_of_ble_eq_true rfl, Nat.le_of_ble_eq_true rfl⟩) (g5_preV hPc hK hDc hN hT hS hFc (ci := 9) (q0 := 1) rfl rfl) rfl rfl hl.1 rfl (lv_room (Nat.le_of_ble_eq_true rfl)) dX9_firstSight_177 ⟨Nat.le_of_ble_eq_true rfl, Nat.le_of_ble_eq_true rfl⟩) hS (fun q _ h => hFc q h) hFc (fun r u t H1 locs ht hvm hw hB hz1 hk1 hS => ?_)
            obtain ⟨hP1, hD1⟩ := hB
            rw [ht] at hP1
            obtain ⟨z73, y74, rfl⟩ := hw
            obtain ⟨hP, hD⟩ := va_join (wr := [(a_k, (oc5 a_h a_j a_pt m_ln m_se m_lh m_br m_we m_me m_ce m_wy m_ho m_ov)), (a_g, (oc6 6 5 a_gn e_g)), (a_gn, (arI G 30 f_g)), (a_p, (oc6 8 5 a_pn e_p)), (a_pn, (arI G 40 f_p)), (a_bb, (arJ G 24 f_bb)), (a_j, (oc2 a_as a_sk)), (a_as, (arI G 8 m_as)), (a_sk, (arJ G 50 m_sk)), (a_l, (arW G 6 f_l)), (a_lo, (oc3 e_cl a_hd a_sr a_cd)), (a_sr, (arI G n_sr f_sr)), (a_cd, (arI G n_cd f_cd)), (a_hd, (arI G n_hd f_hd)), (a_pt, (arI G 200 m_pt)), (a_go, (arJ G 24 (vp_updL k_go k_h.toNatClampNeg m_x))), (a_mt, (arI G 1536 m_mt)), (a_b, (oc6 5 24 a_bn e_b)), (a_bn, (arI G 120 f_b))]) hP hD [17, 18] [0, 1, 2, 3, 4, 5, 6, 7, 8, 9, 10, 11, 12, 13, 14, 15, 16, 19, 20] rfl rfl (by decide) (by decide) hk1 hFc hP1 hD1
            generalize H1 = H at hP hS ⊢
            refine g5_rs [(a_k, (oc5 a_h a_j a_pt m_ln m_se m_lh m_br m_we m_me m_ce m_wy m_ho m_ov)), (a_g, (oc6 6 5 a_gn e_g)), (a_gn, (arI G 30 f_g)), (a_p, (oc6 8 5 a_pn e_p)), (a_pn, (arI G 40 f_p)), (a_bb, (arJ G 24 f_bb)), (a_j, (oc2 a_as a_sk)), (a_as, (arI G 8 m_as)), (a_sk, (arJ G 50 m_sk)), (a_l, (arW G 6 f_l)), (a_lo, (oc3 e_cl a_hd a_sr a_cd)), (a_sr, (arI G n_sr f_sr)), (a_cd, (arI G n_cd f_cd)), (a_hd, (arI G n_hd f_hd)), (a_pt, (arI G 200 m_pt)), (a_go, (arJ G 24 (vp_updL k_go k_h.toNatClampNeg m_x))), (a_mt, (arI G 1536 m_mt)), (a_b, (oc6 5 24 a_bn e_b)), (a_bn, (arI G 120 f_b)), (a_h, (oc1 e_wa e_le e_st e_fo e_lc a_l a_g a_b a_s a_p a_w e_gb a_bb)), (a_wk, (oc9 a_h a_k a_go a_mt))] hP hD (fun hP hD => ?_)
            refine g5_tl (v := z73) y74 ?_
            refine lv_lstore (lv' := [(5, .long z73), (7, .int m_t), (9, .long m_x), (11, .int m_i), (8, .int k_h), (0, .ref a_wk), (1, .int p_b), (2, .int p_c), (3, .int p_f), (4, .int p_e)]) hx hb dX9_firstSight_180 hl (by decide) rfl (fun ls hl => ?_)
            refine lv_iinc (v := (k_h + 1)) (lv' := [(8, .int (k_h + 1)), (5, .long z73), (7, .int m_t), (9, .long m_x), (11, .int m_i), (0, .ref a_wk), (1, .int p_b), (2, .int p_c), (3, .int p_f), (4, .int p_e)]) hx hb dX9_firstSight_182 hl (k := 4) rfl rfl (by decide) rfl (fun ls hl => ?_)
            have t_75 : (k_h + 1).toInt = k_h.toInt + 1 := g5_iadd (a := k_h.toInt) (b := 1) rfl (by decide) (by omega) (by omega)
            refine lv_goto (tgt := 16) hx hb dX9_firstSight_185 (by decide) ?_
            exact ih_16_8 (z73, m_t, (k_h + 1), m_se, m_lh, m_br, m_we, m_me, m_ce, m_wy, m_ho, m_ov, m_pt, m_as, m_sk, m_ln, (vp_updL k_go k_h.toNatClampNeg m_x), m_mt) ls H locs (show Int.toNat (24 - (k_h + 1).toInt) < Int.toNat (24 - k_h.toInt) from g_up (show k_h.toInt < (k_h + 1).toInt by omega) (show k_h.toInt < 24 by omega)) ⟨lv_sub hl [1, 2, 0, 5, 6, 7, 8, 9] rfl, hP.sub [0, 1, 2, 3, 4, 5, 6, 7, 8, 9, 10, 11, 12, 13, 14, 15, 16, 19, 17, 18, 20] rfl, hD.sub [0, 1, 2, 3, 4, 5, 6, 7, 8, 9, 10, 11, 12, 13, 14, 15, 16, 19, 17, 18, 20] (by decide) rfl, hS, i_67, ⟨by omega, by omega⟩, i_69, by omega⟩
          ·
            have n_72 : gNe ((lg_cmp m_x 0).toInt) (0) := by have z := g5_eqN (a := (lg_cmp m_x 0).toInt) (b := 0) (by rfl) (by decide) c_72; unfold gNe; omega
            refine lv_iload hx hb dX9_firstSight_171 (lv_at hl 4 rfl) ?_
            exact W.iret (v := k_h) hx hb hr (fun t ht hW => ⟨⟨k_h, [(a_k, (oc5 a_h a_j a_pt m_ln m_se m_lh m_br m_we m_me m_ce m_wy m_ho m_ov)), (a_h, (oc1 e_wa e_le e_st e_fo e_lc a_l a_g a_b a_s a_p a_w e_gb a_bb)), (a_g, (oc6 6 5 a_gn e_g)), (a_gn, (arI G 30 f_g)), (a_b, (oc6 5 24 a_bn e_b)), (a_bn, (arI G 120 f_b)), (a_p, (oc6 8 5 a_pn e_p)), (a_pn, (arI G 40 f_p)), (a_bb, (arJ G 24 f_bb)), (a_j, (oc2 a_as a_sk)), (a_as, (arI G 8 m_as)), (a_sk, (arJ G 50 m_sk)), (a_l, (arW G 6 f_l)), (a_lo, (oc3 e_cl a_hd a_sr a_cd)), (a_sr, (arI G n_sr f_sr)), (a_cd, (arI G n_cd f_cd)), (a_hd, (arI G n_hd f_hd)), (a_pt, (arI G 200 m_pt)), (a_wk, (oc9 a_h a_k a_go a_mt)), (a_go, (arJ G 24 (vp_updL k_go k_h.toNatClampNeg m_x))), (a_mt, (arI G 1536 m_mt))], rfl, ⟨k_h, m_ln, m_se, m_lh, m_br, m_we, m_me, m_ce, m_wy, m_ho, m_ov, m_pt, m_as, m_sk, (vp_updL k_go k_h.toNatClampNeg m_x), m_mt, i_69, ⟨by omega, by omega⟩, Or.inr ⟨by omega, by omega⟩, rfl, rfl⟩, by rw [ht]; exact hP.sub [0, 17, 1, 2, 19, 20, 3, 4, 5, 6, 7, 8, 9, 10, 11, 12, 13, 14, 18, 15, 16] rfl, hD.sub [0, 17, 1, 2, 19, 20, 3, 4, 5, 6, 7, 8, 9, 10, 11, 12, 13, 14, 18, 15, 16] (by decide) rfl⟩, hS.F ht⟩) hS.2.2 dX9_firstSight_173
        ·
          have i_71 : m_i.toInt < 64 := by have z := g5_geN (a := m_i.toInt) (b := 64) (by rfl) (by decide) c_71; omega
          refine lv_iload hx hb dX9_firstSight_65 (lv_at hl 0 rfl) ?_
          refine lv_if_eq (tgt := 99) hx hb dX9_firstSight_67 (by decide) (fun c_76 => ?_) (fun c_76 => ?_)
          ·
            have i_76 : m_t.toInt = 0 := by have z := g5_eq (a := m_t.toInt) (b := 0) (by rfl) (by decide) c_76; omega
            refine lv_iconst (v := 0) hx hb dX9_firstSight_99 (by decide) ?_
            refine lv_istore (lv' := [(12, .int 0), (7, .int m_t), (9, .long m_x), (11, .int m_i), (5, .long k_x), (8, .int k_h), (0, .ref a_wk), (1, .int p_b), (2, .int p_c), (3, .int p_f), (4, .int p_e)]) hx hb dX9_firstSight_100 hl (by decide) rfl (fun ls hl => ?_)
            refine lv_lload hx hb dX9_firstSight_102 (lv_at hl 2 rfl) ?_
            refine lv_iload hx hb dX9_firstSight_104 (lv_at hl 0 rfl) ?_
            refine lv_if_eq (tgt := 116) hx hb dX9_firstSight_106 (by decide) (fun c_77 => ?_) (fun c_77 => ?_)
            ·
              refine lv_lconst (v := 0) hx hb dX9_firstSight_116 (by decide) ?_
              refine lv_lor hx hb dX9_firstSight_117 ?_
              refine g5_tl (v := m_x) (by simp) ?_
              refine lv_lstore (lv' := [(9, .long m_x), (12, .int 0), (7, .int m_t), (11, .int m_i), (5, .long k_x), (8, .int k_h), (0, .ref a_wk), (1, .int p_b), (2, .int p_c), (3, .int p_f), (4, .int p_e)]) hx hb dX9_firstSight_118 hl (by decide) rfl (fun ls hl => ?_)
              refine lv_aload_n hx hb dX9_firstSight_120 rfl (lv_at hl 6 rfl) ?_
              refine va_get (D := G.1) (ci := 9) (v := .ref a_mt) (C := RX9) (T := TX9) (N := 4) hx hb hts inG_X9 hown hK hP 18 rfl rfl 3 (by decide) (hts _ fl_X9_15) (fun _ h9 => h9) rfl dX9_firstSight_121 ?_
              refine lv_iload hx hb dX9_firstSight_124 (lv_at hl 5 rfl) ?_
              refine lv_bipush (v := 64) hx hb dX9_firstSight_126 (by decide) ?_
              refine lv_imul hx hb dX9_firstSight_128 ?_
              have t_78 : (k_h * 64).toInt = k_h.toInt * 64 := g5_imul (a := k_h.toInt) (b := 64) (by rfl) (by decide) (by omega) (by omega)
              refine lv_iload hx hb dX9_firstSight_129 (lv_at hl 3 rfl) ?_
              refine lv_iadd hx hb dX9_firstSight_131 ?_
              have t_79 : ((k_h * 64) + m_i).toInt = (k_h * 64).toInt + m_i.toInt := g5_iadd (a := (k_h * 64).toInt) (b := m_i.toInt) (by rfl) (by rfl) (by omega) (by omega)
              refine lv_iload hx hb dX9_firstSight_132 (lv_at hl 2 rfl) ?_
              refine lv_if_eq (tgt := 147) hx hb dX9_firstSight_134 (by decide) (fun c_80 => ?_) (fun c_80 => ?_)
              ·
                have i_80 : m_t.toInt = 0 := by have z := g5_eq (a := m_t.toInt) (b := 0) (by rfl) (by decide) c_80; omega
                refine lv_iconst (v := 0) hx hb dX9_firstSight_147 (by decide) ?_
                refine va_iast hx hb hK hP hD hS 16 0 rfl rfl (i := ((k_h * 64) + m_i)) (x := 0) (vp_in_iff.mpr ⟨by omega, by omega⟩) dX9_firstSight_148 (fun H locs hP hD hS => ?_)
                refine g5_rs [(a_k, (oc5 a_h a_j a_pt m_ln m_se m_lh m_br m_we m_me m_ce m_wy m_ho m_ov)), (a_g, (oc6 6 5 a_gn e_g)), (a_gn, (arI G 30 f_g)), (a_p, (oc6 8 5 a_pn e_p)), (a_pn, (arI G 40 f_p)), (a_bb, (arJ G 24 f_bb)), (a_j, (oc2 a_as a_sk)), (a_as, (arI G 8 m_as)), (a_sk, (arJ G 50 m_sk)), (a_l, (arW G 6 f_l)), (a_lo, (oc3 e_cl a_hd a_sr a_cd)), (a_sr, (arI G n_sr f_sr)), (a_cd, (arI G n_cd f_cd)), (a_hd, (arI G n_hd f_hd)), (a_pt, (arI G 200 m_pt)), (a_go, (arJ G 24 k_go)), (a_mt, (arI G 1536 (upd m_mt ((k_h * 64) + m_i).toNatClampNeg 0))), (a_h, (oc1 e_wa e_le e_st e_fo e_lc a_l a_g a_b a_s a_p a_w e_gb a_bb)), (a_wk, (oc9 a_h a_k a_go a_mt)), (a_b, (oc6 5 24 a_bn e_b)), (a_bn, (arI G 120 f_b))] hP hD (fun hP hD => ?_)
                refine lv_iinc (v := (m_i + 1)) (lv' := [(11, .int (m_i + 1)), (9, .long m_x), (12, .int 0), (7, .int m_t), (5, .long k_x), (8, .int k_h), (0, .ref a_wk), (1, .int p_b), (2, .int p_c), (3, .int p_f), (4, .int p_e)]) hx hb dX9_firstSight_149 hl (k := 3) rfl rfl (by decide) rfl (fun ls hl => ?_)
                have t_81 : (m_i + 1).toInt = m_i.toInt + 1 := g5_iadd (a := m_i.toInt) (b := 1) rfl (by decide) (by omega) (by omega)
                refine lv_goto (tgt := 58) hx hb dX9_firstSight_152 (by decide) ?_
                exact ih_58_70 (m_x, m_t, (m_i + 1), m_se, m_lh, m_br, m_we, m_me, m_ce, m_wy, m_ho, m_ov, m_pt, m_as, m_sk, m_ln, (upd m_mt ((k_h * 64) + m_i).toNatClampNeg 0)) ls H locs (show Int.toNat (64 - (m_i + 1).toInt) < Int.toNat (64 - m_i.toInt) from g_up (show m_i.toInt < (m_i + 1).toInt by omega) (show m_i.toInt < 64 by omega)) ⟨lv_sub hl [3, 1, 0, 4, 5, 6, 7, 8, 9, 10] rfl, hP, hD, hS, i_67, ⟨by omega, by omega⟩, i_69⟩
              ·
                have i_80 : m_t.toInt ≠ 0 := by have z := g5_eqN (a := m_t.toInt) (b := 0) (by rfl) (by decide) c_80; omega
                omega
            ·
              exact absurd c_77 (by decide)
          ·
            have n_76 : gNe (m_t.toInt) (0) := by have z := g5_eqN (a := m_t.toInt) (b := 0) (by rfl) (by decide) c_76; unfold gNe; omega
            have i_76 : m_t.toInt ≥ 1 := by have z := g5_eqN (a := m_t.toInt) (b := 0) (by rfl) (by decide) c_76; omega
            refine lv_lload hx hb dX9_firstSight_70 (lv_at hl 3 rfl) ?_
            refine lv_iload hx hb dX9_firstSight_72 (lv_at hl 2 rfl) ?_
            obtain ⟨hPc, hDc, hFc⟩ := g5_sub3 (wc := []) hP hD hS hA [] (by decide) rfl
            refine va_calli (va_runSN (As := [.long k_x, .int m_i]) (rest := []) ⟨hx, hb, hml, hown, hts⟩ (k_isOn l G H.size m_i k_x ⟨by omega, by omega⟩) ⟨va_cnB 2 hts gW_X11_isOn rfl rfl rfl (hN.1 _ g5_nw_X9_43) (hts _ ini_X11) hs_X11_isOn ⟨Nat.le_of_ble_eq_true rfl, Nat.le_of_ble_eq_true rfl⟩, hts _ st_X11_isOn, trivial⟩ (g5_preS hPc hK hDc hN hT hS hFc) rfl rfl hl.1 rfl (lv_room (Nat.le_of_ble_eq_true rfl)) dX9_firstSight_74 ⟨Nat.le_of_ble_eq_true rfl, Nat.le_of_ble_eq_true rfl⟩) hS (fun q _ h => hFc q h) hFc (fun r u t H1 locs ht hvm hw hB hz1 hk1 hS => ?_)
            obtain ⟨hP1, hD1⟩ := hB
            rw [ht] at hP1
            rcases hw with ⟨i_82, rfl, rfl⟩ | ⟨i_83, rfl, rfl⟩
            ·
              have i_82 : onB k_x m_i.toInt = false := i_82
              have hP := g5_same hP hk1
              generalize H1 = H at hP hS ⊢
              refine lv_if_eq (tgt := 99) hx hb dX9_firstSight_77 (by decide) (fun c_84 => ?_) (fun c_84 => ?_)
              ·
                refine lv_iconst (v := 0) hx hb dX9_firstSight_99 (by decide) ?_
                refine lv_istore (lv' := [(12, .int 0), (7, .int m_t), (9, .long m_x), (11, .int m_i), (5, .long k_x), (8, .int k_h), (0, .ref a_wk), (1, .int p_b), (2, .int p_c), (3, .int p_f), (4, .int p_e)]) hx hb dX9_firstSight_100 hl (by decide) rfl (fun ls hl => ?_)
                refine lv_lload hx hb dX9_firstSight_102 (lv_at hl 2 rfl) ?_
                refine lv_iload hx hb dX9_firstSight_104 (lv_at hl 0 rfl) ?_
                refine lv_if_eq (tgt := 116) hx hb dX9_firstSight_106 (by decide) (fun c_85 => ?_) (fun c_85 => ?_)
                ·
                  refine lv_lconst (v := 0) hx hb dX9_firstSight_116 (by decide) ?_
                  refine lv_lor hx hb dX9_firstSight_117 ?_
                  refine g5_tl (v := m_x) (by simp) ?_
                  refine lv_lstore (lv' := [(9, .long m_x), (12, .int 0), (7, .int m_t), (11, .int m_i), (5, .long k_x), (8, .int k_h), (0, .ref a_wk), (1, .int p_b), (2, .int p_c), (3, .int p_f), (4, .int p_e)]) hx hb dX9_firstSight_118 hl (by decide) rfl (fun ls hl => ?_)
                  refine lv_aload_n hx hb dX9_firstSight_120 rfl (lv_at hl 6 rfl) ?_
                  refine va_get (D := G.1) (ci := 9) (v := .ref a_mt) (C := RX9) (T := TX9) (N := 4) hx hb hts inG_X9 hown hK hP 18 rfl rfl 3 (by decide) (hts _ fl_X9_15) (fun _ h9 => h9) rfl dX9_firstSight_121 ?_
                  refine lv_iload hx hb dX9_firstSight_124 (lv_at hl 5 rfl) ?_
                  refine lv_bipush (v := 64) hx hb dX9_firstSight_126 (by decide) ?_
                  refine lv_imul hx hb dX9_firstSight_128 ?_
                  have t_86 : (k_h * 64).toInt = k_h.toInt * 64 := g5_imul (a := k_h.toInt) (b := 64) (by rfl) (by decide) (by omega) (by omega)
                  refine lv_iload hx hb dX9_firstSight_129 (lv_at hl 3 rfl) ?_
                  refine lv_iadd hx hb dX9_firstSight_131 ?_
                  have t_87 : ((k_h * 64) + m_i).toInt = (k_h * 64).toInt + m_i.toInt := g5_iadd (a := (k_h * 64).toInt) (b := m_i.toInt) (by rfl) (by rfl) (by omega) (by omega)
                  refine lv_iload hx hb dX9_firstSight_132 (lv_at hl 2 rfl) ?_
                  refine lv_if_eq (tgt := 147) hx hb dX9_firstSight_134 (by decide) (fun c_88 => ?_) (fun c_88 => ?_)
                  ·
                    have i_88 : m_t.toInt = 0 := by have z := g5_eq (a := m_t.toInt) (b := 0) (by rfl) (by decide) c_88; omega
                    omega
                  ·
                    have n_88 : gNe (m_t.toInt) (0) := by have z := g5_eqN (a := m_t.toInt) (b := 0) (by rfl) (by decide) c_88; unfold gNe; omega
                    refine lv_aload_n hx hb dX9_firstSight_137 rfl (lv_at hl 6 rfl) ?_
                    refine va_get (D := G.1) (ci := 9) (v := .ref a_k) (C := RX9) (T := TX9) (N := 4) hx hb hts inG_X9 hown hK hP 18 rfl rfl 1 (by decide) (hts _ fl_X9_23) (fun _ h9 => h9) rfl dX9_firstSight_138 ?_
                    refine va_get (D := G.1) (ci := 5) (v := .int m_me) (C := RX5) (T := TX5) (N := 13) hx hb hts inG_X5 hown hK hP 0 rfl rfl 8 (by decide) (hts _ fl_X9_53) (fun _ h9 => h9) rfl dX9_firstSight_141 ?_
                    refine lv_goto (tgt := 148) hx hb dX9_firstSight_144 (by decide) ?_
                    refine va_iast hx hb hK hP hD hS 16 0 rfl rfl (i := ((k_h * 64) + m_i)) (x := m_me) (vp_in_iff.mpr ⟨by omega, by omega⟩) dX9_firstSight_148 (fun H locs hP hD hS => ?_)
                    refine g5_rs [(a_k, (oc5 a_h a_j a_pt m_ln m_se m_lh m_br m_we m_me m_ce m_wy m_ho m_ov)), (a_g, (oc6 6 5 a_gn e_g)), (a_gn, (arI G 30 f_g)), (a_p, (oc6 8 5 a_pn e_p)), (a_pn, (arI G 40 f_p)), (a_bb, (arJ G 24 f_bb)), (a_j, (oc2 a_as a_sk)), (a_as, (arI G 8 m_as)), (a_sk, (arJ G 50 m_sk)), (a_l, (arW G 6 f_l)), (a_lo, (oc3 e_cl a_hd a_sr a_cd)), (a_sr, (arI G n_sr f_sr)), (a_cd, (arI G n_cd f_cd)), (a_hd, (arI G n_hd f_hd)), (a_pt, (arI G 200 m_pt)), (a_go, (arJ G 24 k_go)), (a_mt, (arI G 1536 (upd m_mt ((k_h * 64) + m_i).toNatClampNeg m_me))), (a_h, (oc1 e_wa e_le e_st e_fo e_lc a_l a_g a_b a_s a_p a_w e_gb a_bb)), (a_wk, (oc9 a_h a_k a_go a_mt)), (a_b, (oc6 5 24 a_bn e_b)), (a_bn, (arI G 120 f_b))] hP hD (fun hP hD => ?_)
                    refine lv_iinc (v := (m_i + 1)) (lv' := [(11, .int (m_i + 1)), (9, .long m_x), (12, .int 0), (7, .int m_t), (5, .long k_x), (8, .int k_h), (0, .ref a_wk), (1, .int p_b), (2, .int p_c), (3, .int p_f), (4, .int p_e)]) hx hb dX9_firstSight_149 hl (k := 3) rfl rfl (by decide) rfl (fun ls hl => ?_)
                    have t_89 : (m_i + 1).toInt = m_i.toInt + 1 := g5_iadd (a := m_i.toInt) (b := 1) rfl (by decide) (by omega) (by omega)
                    refine lv_goto (tgt := 58) hx hb dX9_firstSight_152 (by decide) ?_
                    exact ih_58_70 (m_x, m_t, (m_i + 1), m_se, m_lh, m_br, m_we, m_me, m_ce, m_wy, m_ho, m_ov, m_pt, m_as, m_sk, m_ln, (upd m_mt ((k_h * 64) + m_i).toNatClampNeg m_me)) ls H locs (show Int.toNat (64 - (m_i + 1).toInt) < Int.toNat (64 - m_i.toInt) from g_up (show m_i.toInt < (m_i + 1).toInt by omega) (show m_i.toInt < 64 by omega)) ⟨lv_sub hl [3, 1, 0, 4, 5, 6, 7, 8, 9, 10] rfl, hP, hD, hS, i_67, ⟨by omega, by omega⟩, i_69⟩
                ·
                  exact absurd c_85 (by decide)
              ·
                exact absurd c_84 (by decide)
            ·
              have i_83 : onB k_x m_i.toInt = true := i_83
              have hP := g5_same hP hk1
              generalize H1 = H at hP hS ⊢
              refine lv_if_eq (tgt := 99) hx hb dX9_firstSight_77 (by decide) (fun c_90 => ?_) (fun c_90 => ?_)
              ·
                exact absurd c_90 (by decide)
              ·
                refine lv_aload_n hx hb dX9_firstSight_80 rfl (lv_at hl 5 rfl) ?_
                refine va_get (D := G.1) (ci := 9) (v := .ref a_k) (C := RX9) (T := TX9) (N := 4) hx hb hts inG_X9 hown hK hP 18 rfl rfl 1 (by decide) (hts _ fl_X9_23) (fun _ h9 => h9) rfl dX9_firstSight_81 ?_
                refine lv_iload_n hx hb dX9_firstSight_84 rfl (lv_at hl 6 rfl) ?_
                refine lv_iload hx hb dX9_firstSight_85 (lv_at hl 2 rfl) ?_
                refine lv_iload hx hb dX9_firstSight_87 (lv_at hl 4 rfl) ?_
                obtain ⟨hPc, hDc, hFc⟩ := g5_sub3 (wc := [(a_k, (oc5 a_h a_j a_pt m_ln m_se m_lh m_br m_we m_me m_ce m_wy m_ho m_ov)), (a_h, (oc1 e_wa e_le e_st e_fo e_lc a_l a_g a_b a_s a_p a_w e_gb a_bb)), (a_g, (oc6 6 5 a_gn e_g)), (a_gn, (arI G 30 f_g)), (a_b, (oc6 5 24 a_bn e_b)), (a_bn, (arI G 120 f_b)), (a_p, (oc6 8 5 a_pn e_p)), (a_pn, (arI G 40 f_p)), (a_bb, (arJ G 24 f_bb)), (a_j, (oc2 a_as a_sk)), (a_as, (arI G 8 m_as)), (a_sk, (arJ G 50 m_sk)), (a_l, (arW G 6 f_l)), (a_lo, (oc3 e_cl a_hd a_sr a_cd)), (a_sr, (arI G n_sr f_sr)), (a_cd, (arI G n_cd f_cd)), (a_hd, (arI G n_hd f_hd)), (a_pt, (arI G 200 m_pt))]) hP hD hS hA [0, 17, 1, 2, 19, 20, 3, 4, 5, 6, 7, 8, 9, 10, 11, 12, 13, 14] (by decide) rfl
                refine va_calli (va_runV (As := [.int p_b, .int m_i, .int k_h]) (rest := []) ⟨hx, hb, hml, hown, hts⟩ (s_findsBodyL l G a_k a_h a_g a_gn a_b a_bn a_p a_pn a_bb a_j a_as a_sk a_l a_lo a_sr a_cd a_hd a_pt a_s a_w H.size e_le e_st e_fo e_lc e_g e_b e_p e_cl m_ln m_se m_lh m_br m_we m_me m_ce m_wy m_ho m_ov m_i k_h p_b e_wa e_gb f_g f_b f_p f_bb m_as m_sk f_l f_sr f_cd f_hd m_pt n_sr n_cd n_hd h_e_g h_e_b h_e_p h_e_cl i_69 (e_gk) (e_pk) (e_gi) (e_f) (e_a) (e_hn) (e_hs) (e_hk) (e_c)) (cwV 3 hts gV_X9_47 rfl rfl rfl hv_X5_findsBody ⟨Nat.le_of_ble_eq_true rfl, Nat.le_of_ble_eq_true rfl⟩) (g5_preV hPc hK hDc hN hT hS hFc (ci := 5) (q0 := 0) rfl rfl) rfl rfl hl.1 rfl (lv_room (Nat.le_of_ble_eq_true rfl)) dX9_firstSight_89 ⟨Nat.le_of_ble_eq_true rfl, Nat.le_of_ble_eq_true rfl⟩) hS (fun q _ h => hFc q h) hFc (fun r u t H1 locs ht hvm hw hB hz1 hk1 hS => ?_)
                obtain ⟨hP1, hD1⟩ := hB
                rw [ht] at hP1
                obtain ⟨z93, z94, z95, z96, z97, z98, z99, z100, z101, z102, z103, z104, z105, z106, i_91, i_92, y107, rfl⟩ := hw
                have i_91 : 0 ≤ z93.toInt ∧ z93.toInt ≤ 1 := i_91
                have i_92 : 0 ≤ z103.toInt ∧ z103.toInt ≤ 1 := i_92
                obtain ⟨hP, hD⟩ := va_join (wr := [(a_go, (arJ G 24 k_go)), (a_mt, (arI G 1536 m_mt)), (a_wk, (oc9 a_h a_k a_go a_mt))]) hP hD [0, 17, 1, 2, 19, 20, 3, 4, 5, 6, 7, 8, 9, 10, 11, 12, 13, 14] [15, 16, 18] rfl rfl (by decide) (by decide) hk1 hFc hP1 hD1
                generalize H1 = H at hP hS ⊢
                refine g5_rs [(a_go, (arJ G 24 k_go)), (a_mt, (arI G 1536 m_mt)), (a_wk, (oc9 a_h a_k a_go a_mt)), (a_k, (oc5 a_h a_j a_pt z94 z95 z96 z97 z98 z99 z100 z101 z102 z103)), (a_h, (oc1 e_wa e_le e_st e_fo e_lc a_l a_g a_b a_s a_p a_w e_gb a_bb)), (a_g, (oc6 6 5 a_gn e_g)), (a_gn, (arI G 30 f_g)), (a_b, (oc6 5 24 a_bn e_b)), (a_bn, (arI G 120 f_b)), (a_p, (oc6 8 5 a_pn e_p)), (a_pn, (arI G 40 f_p)), (a_bb, (arJ G 24 f_bb)), (a_j, (oc2 a_as a_sk)), (a_as, (arI G 8 z105)), (a_sk, (arJ G 50 z106)), (a_l, (arW G 6 f_l)), (a_lo, (oc3 e_cl a_hd a_sr a_cd)), (a_sr, (arI G n_sr f_sr)), (a_cd, (arI G n_cd f_cd)), (a_hd, (arI G n_hd f_hd)), (a_pt, (arI G 200 z104))] hP hD (fun hP hD => ?_)
                refine g5_ti (v := z93) y107 ?_
                refine lv_if_eq (tgt := 99) hx hb dX9_firstSight_92 (by decide) (fun c_108 => ?_) (fun c_108 => ?_)
                ·
                  have i_108 : z93.toInt = 0 := by have z := g5_eq (a := z93.toInt) (b := 0) (by rfl) (by decide) c_108; omega
                  refine lv_iconst (v := 0) hx hb dX9_firstSight_99 (by decide) ?_
                  refine lv_istore (lv' := [(12, .int 0), (7, .int m_t), (9, .long m_x), (11, .int m_i), (5, .long k_x), (8, .int k_h), (0, .ref a_wk), (1, .int p_b), (2, .int p_c), (3, .int p_f), (4, .int p_e)]) hx hb dX9_firstSight_100 hl (by decide) rfl (fun ls hl => ?_)
                  refine lv_lload hx hb dX9_firstSight_102 (lv_at hl 2 rfl) ?_
                  refine lv_iload hx hb dX9_firstSight_104 (lv_at hl 0 rfl) ?_
                  refine lv_if_eq (tgt := 116) hx hb dX9_firstSight_106 (by decide) (fun c_109 => ?_) (fun c_109 => ?_)
                  ·
                    refine lv_lconst (v := 0) hx hb dX9_firstSight_116 (by decide) ?_
                    refine lv_lor hx hb dX9_firstSight_117 ?_
                    refine g5_tl (v := m_x) (by simp) ?_
                    refine lv_lstore (lv' := [(9, .long m_x), (12, .int 0), (7, .int m_t), (11, .int m_i), (5, .long k_x), (8, .int k_h), (0, .ref a_wk), (1, .int p_b), (2, .int p_c), (3, .int p_f), (4, .int p_e)]) hx hb dX9_firstSight_118 hl (by decide) rfl (fun ls hl => ?_)
                    refine lv_aload_n hx hb dX9_firstSight_120 rfl (lv_at hl 6 rfl) ?_
                    refine va_get (D := G.1) (ci := 9) (v := .ref a_mt) (C := RX9) (T := TX9) (N := 4) hx hb hts inG_X9 hown hK hP 2 rfl rfl 3 (by decide) (hts _ fl_X9_15) (fun _ h9 => h9) rfl dX9_firstSight_121 ?_
                    refine lv_iload hx hb dX9_firstSight_124 (lv_at hl 5 rfl) ?_
                    refine lv_bipush (v := 64) hx hb dX9_firstSight_126 (by decide) ?_
                    refine lv_imul hx hb dX9_firstSight_128 ?_
                    have t_110 : (k_h * 64).toInt = k_h.toInt * 64 := g5_imul (a := k_h.toInt) (b := 64) (by rfl) (by decide) (by omega) (by omega)
                    refine lv_iload hx hb dX9_firstSight_129 (lv_at hl 3 rfl) ?_
                    refine lv_iadd hx hb dX9_firstSight_131 ?_
                    have t_111 : ((k_h * 64) + m_i).toInt = (k_h * 64).toInt + m_i.toInt := g5_iadd (a := (k_h * 64).toInt) (b := m_i.toInt) (by rfl) (by rfl) (by omega) (by omega)
                    refine lv_iload hx hb dX9_firstSight_132 (lv_at hl 2 rfl) ?_
                    refine lv_if_eq (tgt := 147) hx hb dX9_firstSight_134 (by decide) (fun c_112 => ?_) (fun c_112 => ?_)
                    ·
                      have i_112 : m_t.toInt = 0 := by have z := g5_eq (a := m_t.toInt) (b := 0) (by rfl) (by decide) c_112; omega
                      omega
                    ·
                      have n_112 : gNe (m_t.toInt) (0) := by have z := g5_eqN (a := m_t.toInt) (b := 0) (by rfl) (by decide) c_112; unfold gNe; omega
                      refine lv_aload_n hx hb dX9_firstSight_137 rfl (lv_at hl 6 rfl) ?_
                      refine va_get (D := G.1) (ci := 9) (v := .ref a_k) (C := RX9) (T := TX9) (N := 4) hx hb hts inG_X9 hown hK hP 2 rfl rfl 1 (by decide) (hts _ fl_X9_23) (fun _ h9 => h9) rfl dX9_firstSight_138 ?_
                      refine va_get (D := G.1) (ci := 5) (v := .int z99) (C := RX5) (T := TX5) (N := 13) hx hb hts inG_X5 hown hK hP 3 rfl rfl 8 (by decide) (hts _ fl_X9_53) (fun _ h9 => h9) rfl dX9_firstSight_141 ?_
                      refine lv_goto (tgt := 148) hx hb dX9_firstSight_144 (by decide) ?_
                      refine va_iast hx hb hK hP hD hS 1 0 rfl rfl (i := ((k_h * 64) + m_i)) (x := z99) (vp_in_iff.mpr ⟨by omega, by omega⟩) dX9_firstSight_148 (fun H locs hP hD hS => ?_)
                      refine g5_rs [(a_go, (arJ G 24 k_go)), (a_mt, (arI G 1536 (upd m_mt ((k_h * 64) + m_i).toNatClampNeg z99))), (a_wk, (oc9 a_h a_k a_go a_mt)), (a_k, (oc5 a_h a_j a_pt z94 z95 z96 z97 z98 z99 z100 z101 z102 z103)), (a_h, (oc1 e_wa e_le e_st e_fo e_lc a_l a_g a_b a_s a_p a_w e_gb a_bb)), (a_g, (oc6 6 5 a_gn e_g)), (a_gn, (arI G 30 f_g)), (a_b, (oc6 5 24 a_bn e_b)), (a_bn, (arI G 120 f_b)), (a_p, (oc6 8 5 a_pn e_p)), (a_pn, (arI G 40 f_p)), (a_bb, (arJ G 24 f_bb)), (a_j, (oc2 a_as a_sk)), (a_as, (arI G 8 z105)), (a_sk, (arJ G 50 z106)), (a_l, (arW G 6 f_l)), (a_lo, (oc3 e_cl a_hd a_sr a_cd)), (a_sr, (arI G n_sr f_sr)), (a_cd, (arI G n_cd f_cd)), (a_hd, (arI G n_hd f_hd)), (a_pt, (arI G 200 z104))] hP hD (fun hP hD => ?_)
                      refine lv_iinc (v := (m_i + 1)) (lv' := [(11, .int (m_i + 1)), (9, .long m_x), (12, .int 0), (7, .int m_t), (5, .long k_x), (8, .int k_h), (0, .ref a_wk), (1, .int p_b), (2, .int p_c), (3, .int p_f), (4, .int p_e)]) hx hb dX9_firstSight_149 hl (k := 3) rfl rfl (by decide) rfl (fun ls hl => ?_)
                      have t_113 : (m_i + 1).toInt = m_i.toInt + 1 := g5_iadd (a := m_i.toInt) (b := 1) rfl (by decide) (by omega) (by omega)
                      refine lv_goto (tgt := 58) hx hb dX9_firstSight_152 (by decide) ?_
                      exact ih_58_70 (m_x, m_t, (m_i + 1), z95, z96, z97, z98, z99, z100, z101, z102, z103, z104, z105, z106, z94, (upd m_mt ((k_h * 64) + m_i).toNatClampNeg z99)) ls H locs (show Int.toNat (64 - (m_i + 1).toInt) < Int.toNat (64 - m_i.toInt) from g_up (show m_i.toInt < (m_i + 1).toInt by omega) (show m_i.toInt < 64 by omega)) ⟨lv_sub hl [3, 1, 0, 4, 5, 6, 7, 8, 9, 10] rfl, hP.sub [3, 5, 6, 9, 10, 11, 12, 13, 14, 15, 16, 17, 18, 19, 20, 0, 1, 4, 2, 7, 8] rfl, hD.sub [3, 5, 6, 9, 10, 11, 12, 13, 14, 15, 16, 17, 18, 19, 20, 0, 1, 4, 2, 7, 8] (by decide) rfl, hS, i_67, ⟨by omega, by omega⟩, i_92⟩
                  ·
                    exact absurd c_109 (by decide)
                ·
                  have n_108 : gNe (z93.toInt) (0) := by have z := g5_eqN (a := z93.toInt) (b := 0) (by rfl) (by decide) c_108; unfold gNe; omega
                  have i_108 : z93.toInt ≥ 1 := by have z := g5_eqN (a := z93.toInt) (b := 0) (by rfl) (by decide) c_108; omega
                  refine lv_iconst (v := 1) hx hb dX9_firstSight_95 (by decide) ?_
                  refine lv_goto (tgt := 100) hx hb dX9_firstSight_96 (by decide) ?_
                  refine lv_istore (lv' := [(12, .int 1), (7, .int m_t), (9, .long m_x), (11, .int m_i), (5, .long k_x), (8, .int k_h), (0, .ref a_wk), (1, .int p_b), (2, .int p_c), (3, .int p_f), (4, .int p_e)]) hx hb dX9_firstSight_100 hl (by decide) rfl (fun ls hl => ?_)
                  refine lv_lload hx hb dX9_firstSight_102 (lv_at hl 2 rfl) ?_
                  refine lv_iload hx hb dX9_firstSight_104 (lv_at hl 0 rfl) ?_
                  refine lv_if_eq (tgt := 116) hx hb dX9_firstSight_106 (by decide) (fun c_114 => ?_) (fun c_114 => ?_)
                  ·
                    exact absurd c_114 (by decide)
                  ·
                    refine lv_lconst (v := 1) hx hb dX9_firstSight_109 (by decide) ?_
                    refine lv_iload hx hb dX9_firstSight_110 (lv_at hl 3 rfl) ?_
                    refine lv_lshl (v := ((1 : Int64) <<< (m_i.toInt64 &&& 63))) hx hb dX9_firstSight_112 rfl ?_
                    refine lv_goto (tgt := 117) hx hb dX9_firstSight_113 (by decide) ?_
                    refine lv_lor hx hb dX9_firstSight_117 ?_
                    refine lv_lstore (lv' := [(9, .long (m_x ||| ((1 : Int64) <<< (m_i.toInt64 &&& 63)))), (12, .int 1), (7, .int m_t), (11, .int m_i), (5, .long k_x), (8, .int k_h), (0, .ref a_wk), (1, .int p_b), (2, .int p_c), (3, .int p_f), (4, .int p_e)]) hx hb dX9_firstSight_118 hl (by decide) rfl (fun ls hl => ?_)
                    refine lv_aload_n hx hb dX9_firstSight_120 rfl (lv_at hl 6 rfl) ?_
                    refine va_get (D := G.1) (ci := 9) (v := .ref a_mt) (C := RX9) (T := TX9) (N := 4) hx hb hts inG_X9 hown hK hP 2 rfl rfl 3 (by decide) (hts _ fl_X9_15) (fun _ h9 => h9) rfl dX9_firstSight_121 ?_
                    refine lv_iload hx hb dX9_firstSight_124 (lv_at hl 5 rfl) ?_
                    refine lv_bipush (v := 64) hx hb dX9_firstSight_126 (by decide) ?_
                    refine lv_imul hx hb dX9_firstSight_128 ?_
                    have t_115 : (k_h * 64).toInt = k_h.toInt * 64 := g5_imul (a := k_h.toInt) (b := 64) (by rfl) (by decide) (by omega) (by omega)
                    refine lv_iload hx hb dX9_firstSight_129 (lv_at hl 3 rfl) ?_
                    refine lv_iadd hx hb dX9_firstSight_131 ?_
                    have t_116 : ((k_h * 64) + m_i).toInt = (k_h * 64).toInt + m_i.toInt := g5_iadd (a := (k_h * 64).toInt) (b := m_i.toInt) (by rfl) (by rfl) (by omega) (by omega)
                    refine lv_iload hx hb dX9_firstSight_132 (lv_at hl 2 rfl) ?_
                    refine lv_if_eq (tgt := 147) hx hb dX9_firstSight_134 (by decide) (fun c_117 => ?_) (fun c_117 => ?_)
                    ·
                      have i_117 : m_t.toInt = 0 := by have z := g5_eq (a := m_t.toInt) (b := 0) (by rfl) (by decide) c_117; omega
                      omega
                    ·
                      have n_117 : gNe (m_t.toInt) (0) := by have z := g5_eqN (a := m_t.toInt) (b := 0) (by rfl) (by decide) c_117; unfold gNe; omega
                      refine lv_aload_n hx hb dX9_firstSight_137 rfl (lv_at hl 6 rfl) ?_
                      refine va_get (D := G.1) (ci := 9) (v := .ref a_k) (C := RX9) (T := TX9) (N := 4) hx hb hts inG_X9 hown hK hP 2 rfl rfl 1 (by decide) (hts _ fl_X9_23) (fun _ h9 => h9) rfl dX9_firstSight_138 ?_
                      refine va_get (D := G.1) (ci := 5) (v := .int z99) (C := RX5) (T := TX5) (N := 13) hx hb hts inG_X5 hown hK hP 3 rfl rfl 8 (by decide) (hts _ fl_X9_53) (fun _ h9 => h9) rfl dX9_firstSight_141 ?_
                      refine lv_goto (tgt := 148) hx hb dX9_firstSight_144 (by decide) ?_
                      refine va_iast hx hb hK hP hD hS 1 0 rfl rfl (i := ((k_h * 64) + m_i)) (x := z99) (vp_in_iff.mpr ⟨by omega, by omega⟩) dX9_firstSight_148 (fun H locs hP hD hS => ?_)
                      refine g5_rs [(a_go, (arJ G 24 k_go)), (a_mt, (arI G 1536 (upd m_mt ((k_h * 64) + m_i).toNatClampNeg z99))), (a_wk, (oc9 a_h a_k a_go a_mt)), (a_k, (oc5 a_h a_j a_pt z94 z95 z96 z97 z98 z99 z100 z101 z102 z103)), (a_h, (oc1 e_wa e_le e_st e_fo e_lc a_l a_g a_b a_s a_p a_w e_gb a_bb)), (a_g, (oc6 6 5 a_gn e_g)), (a_gn, (arI G 30 f_g)), (a_b, (oc6 5 24 a_bn e_b)), (a_bn, (arI G 120 f_b)), (a_p, (oc6 8 5 a_pn e_p)), (a_pn, (arI G 40 f_p)), (a_bb, (arJ G 24 f_bb)), (a_j, (oc2 a_as a_sk)), (a_as, (arI G 8 z105)), (a_sk, (arJ G 50 z106)), (a_l, (arW G 6 f_l)), (a_lo, (oc3 e_cl a_hd a_sr a_cd)), (a_sr, (arI G n_sr f_sr)), (a_cd, (arI G n_cd f_cd)), (a_hd, (arI G n_hd f_hd)), (a_pt, (arI G 200 z104))] hP hD (fun hP hD => ?_)
                      refine lv_iinc (v := (m_i + 1)) (lv' := [(11, .int (m_i + 1)), (9, .long (m_x ||| ((1 : Int64) <<< (m_i.toInt64 &&& 63)))), (12, .int 1), (7, .int m_t), (5, .long k_x), (8, .int k_h), (0, .ref a_wk), (1, .int p_b), (2, .int p_c), (3, .int p_f), (4, .int p_e)]) hx hb dX9_firstSight_149 hl (k := 3) rfl rfl (by decide) rfl (fun ls hl => ?_)
                      have t_118 : (m_i + 1).toInt = m_i.toInt + 1 := g5_iadd (a := m_i.toInt) (b := 1) rfl (by decide) (by omega) (by omega)
                      refine lv_goto (tgt := 58) hx hb dX9_firstSight_152 (by decide) ?_
                      exact ih_58_70 ((m_x ||| ((1 : Int64) <<< (m_i.toInt64 &&& 63))), m_t, (m_i + 1), z95, z96, z97, z98, z99, z100, z101, z102, z103, z104, z105, z106, z94, (upd m_mt ((k_h * 64) + m_i).toNatClampNeg z99)) ls H locs (show Int.toNat (64 - (m_i + 1).toInt) < Int.toNat (64 - m_i.toInt) from g_up (show m_i.toInt < (m_i + 1).toInt by omega) (show m_i.toInt < 64 by omega)) ⟨lv_sub hl [3, 1, 0, 4, 5, 6, 7, 8, 9, 10] rfl, hP.sub [3, 5, 6, 9, 10, 11, 12, 13, 14, 15, 16, 17, 18, 19, 20, 0, 1, 4, 2, 7, 8] rfl, hD.sub [3, 5, 6, 9, 10, 11, 12, 13, 14, 15, 16, 17, 18, 19, 20, 0, 1, 4, 2, 7, 8] (by decide) rfl, hS, i_67, ⟨by omega, by omega⟩, i_92⟩
      ·
        have n_66 : gNe (z64.toInt) ((-1)) := by have z := g5_eqN (a := z64.toInt) (b := (-1)) (by rfl) (by decide) c_66; unfold gNe; omega
        refine lv_iconst (v := 1) hx hb dX9_firstSight_45 (by decide) ?_
        refine lv_goto (tgt := 50) hx hb dX9_firstSight_46 (by decide) ?_
        refine lv_istore (lv' := [(7, .int 1), (5, .long k_x), (8, .int k_h), (0, .ref a_wk), (1, .int p_b), (2, .int p_c), (3, .int p_f), (4, .int p_e)]) hx hb dX9_firstSight_50 hl (by decide) rfl (fun ls hl => ?_)
        refine lv_lconst (v := 0) hx hb dX9_firstSight_52 (by decide) ?_
        refine lv_lstore (lv' := [(9, .long 0), (7, .int 1), (5, .long k_x), (8, .int k_h), (0, .ref a_wk), (1, .int p_b), (2, .int p_c), (3, .int p_f), (4, .int p_e)]) hx hb dX9_firstSight_53 hl (by decide) rfl (fun ls hl => ?_)
        refine lv_iconst (v := 0) hx hb dX9_firstSight_55 (by decide) ?_
        refine lv_istore (lv' := [(11, .int 0), (9, .long 0), (7, .int 1), (5, .long k_x), (8, .int k_h), (0, .ref a_wk), (1, .int p_b), (2, .int p_c), (3, .int p_f), (4, .int p_e)]) hx hb dX9_firstSight_56 hl (by decide) rfl (fun ls hl => ?_)
        refine g5_loop (α := (Int64) × (Int32) × (Int32) × (Int32) × (Int32) × (Int32) × (Int32) × (Int32) × (Int32) × (Int32) × (Int32) × (Int32) × (Nat → Int32) × (Nat → Int32) × (Nat → Int64) × (Int32) × (Nat → Int32)) (fun (q : (Int64) × (Int32) × (Int32) × (Int32) × (Int32) × (Int32) × (Int32) × (Int32) × (Int32) × (Int32) × (Int32) × (Int32) × (Nat → Int32) × (Nat → Int32) × (Nat → Int64) × (Int32) × (Nat → Int32)) (ls : Array Slot) (H : Heap) (locs : List Loc) => match q with | (m_x, m_t, m_i, m_se, m_lh, m_br, m_we, m_me, m_ce, m_wy, m_ho, m_ov, m_pt, m_as, m_sk, m_ln, m_mt) => lv_has ls 13 [(7, .int m_t), (9, .long m_x), (11, .int m_i), (5, .long k_x), (8, .int k_h), (0, .ref a_wk), (1, .int p_b), (2, .int p_c), (3, .int p_f), (4, .int p_e)] ∧ va_P G.1 vwCl [(a_k, (oc5 a_h a_j a_pt m_ln m_se m_lh m_br m_we m_me m_ce m_wy m_ho m_ov)), (a_g, (oc6 6 5 a_gn e_g)), (a_gn, (arI G 30 f_g)), (a_p, (oc6 8 5 a_pn e_p)), (a_pn, (arI G 40 f_p)), (a_bb, (arJ G 24 f_bb)), (a_j, (oc2 a_as a_sk)), (a_as, (arI G 8 m_as)), (a_sk, (arJ G 50 m_sk)), (a_l, (arW G 6 f_l)), (a_lo, (oc3 e_cl a_hd a_sr a_cd)), (a_sr, (arI G n_sr f_sr)), (a_cd, (arI G n_cd f_cd)), (a_hd, (arI G n_hd f_hd)), (a_pt, (arI G 200 m_pt)), (a_go, (arJ G 24 k_go)), (a_mt, (arI G 1536 m_mt)), (a_h, (oc1 e_wa e_le e_st e_fo e_lc a_l a_g a_b a_s a_p a_w e_gb a_bb)), (a_wk, (oc9 a_h a_k a_go a_mt)), (a_b, (oc6 5 24 a_bn e_b)), (a_bn, (arI G 120 f_b))] H ∧ va_D A [(a_k, (oc5 a_h a_j a_pt m_ln m_se m_lh m_br m_we m_me m_ce m_wy m_ho m_ov)), (a_g, (oc6 6 5 a_gn e_g)), (a_gn, (arI G 30 f_g)), (a_p, (oc6 8 5 a_pn e_p)), (a_pn, (arI G 40 f_p)), (a_bb, (arJ G 24 f_bb)), (a_j, (oc2 a_as a_sk)), (a_as, (arI G 8 m_as)), (a_sk, (arJ G 50 m_sk)), (a_l, (arW G 6 f_l)), (a_lo, (oc3 e_cl a_hd a_sr a_cd)), (a_sr, (arI G n_sr f_sr)), (a_cd, (arI G n_cd f_cd)), (a_hd, (arI G n_hd f_hd)), (a_pt, (arI G 200 m_pt)), (a_go, (arJ G 24 k_go)), (a_mt, (arI G 1536 m_mt)), (a_h, (oc1 e_wa e_le e_st e_fo e_lc a_l a_g a_b a_s a_p a_w e_gb a_bb)), (a_wk, (oc9 a_h a_k a_go a_mt)), (a_b, (oc6 5 24 a_bn e_b)), (a_bn, (arI G 120 f_b))] ∧ va_S A s.heap H locs ∧ (0 ≤ m_t.toInt ∧ m_t.toInt ≤ 1) ∧ (0 ≤ m_i.toInt ∧ m_i.toInt ≤ 64) ∧ (0 ≤ m_ov.toInt ∧ m_ov.toInt ≤ 1)) (fun (q : (Int64) × (Int32) × (Int32) × (Int32) × (Int32) × (Int32) × (Int32) × (Int32) × (Int32) × (Int32) × (Int32) × (Int32) × (Nat → Int32) × (Nat → Int32) × (Nat → Int64) × (Int32) × (Nat → Int32)) => match q with | (m_x, m_t, m_i, m_se, m_lh, m_br, m_we, m_me, m_ce, m_wy, m_ho, m_ov, m_pt, m_as, m_sk, m_ln, m_mt) => Int.toNat (64 - m_i.toInt)) (0, 1, 0, k_se, k_lh, k_br, k_we, k_me, k_ce, k_wy, k_ho, k_ov, k_pt, k_as, k_sk, k_ln, k_mt) ⟨lv_sub hl [2, 1, 0, 3, 4, 5, 6, 7, 8, 9] rfl, hP, hD, hS, ⟨by decide, by decide⟩, ⟨by decide, by decide⟩, i_6⟩ ?_
        rintro ⟨m_x, m_t, m_i, m_se, m_lh, m_br, m_we, m_me, m_ce, m_wy, m_ho, m_ov, m_pt, m_as, m_sk, m_ln, m_mt⟩ ls H locs ⟨hl, hP, hD, hS, i_119, i_120, i_121⟩ ih_58_122
        have hl : lv_has ls 13 [(7, .int m_t), (9, .long m_x), (11, .int m_i), (5, .long k_x), (8, .int k_h), (0, .ref a_wk), (1, .int p_b), (2, .int p_c), (3, .int p_f), (4, .int p_e)] := hl
        have i_119 : 0 ≤ m_t.toInt ∧ m_t.toInt ≤ 1 := i_119
        have i_120 : 0 ≤ m_i.toInt ∧ m_i.toInt ≤ 64 := i_120
        have i_121 : 0 ≤ m_ov.toInt ∧ m_ov.toInt ≤ 1 := i_121
        refine g5_rs [(a_k, (oc5 a_h a_j a_pt m_ln m_se m_lh m_br m_we m_me m_ce m_wy m_ho m_ov)), (a_g, (oc6 6 5 a_gn e_g)), (a_gn, (arI G 30 f_g)), (a_p, (oc6 8 5 a_pn e_p)), (a_pn, (arI G 40 f_p)), (a_bb, (arJ G 24 f_bb)), (a_j, (oc2 a_as a_sk)), (a_as, (arI G 8 m_as)), (a_sk, (arJ G 50 m_sk)), (a_l, (arW G 6 f_l)), (a_lo, (oc3 e_cl a_hd a_sr a_cd)), (a_sr, (arI G n_sr f_sr)), (a_cd, (arI G n_cd f_cd)), (a_hd, (arI G n_hd f_hd)), (a_pt, (arI G 200 m_pt)), (a_go, (arJ G 24 k_go)), (a_mt, (arI G 1536 m_mt)), (a_h, (oc1 e_wa e_le e_st e_fo e_lc a_l a_g a_b a_s a_p a_w e_gb a_bb)), (a_wk, (oc9 a_h a_k a_go a_mt)), (a_b, (oc6 5 24 a_bn e_b)), (a_bn, (arI G 120 f_b))] hP hD (fun hP hD => ?_)
        refine lv_iload hx hb dX9_firstSight_58 (lv_at hl 2 rfl) ?_
        refine lv_bipush (v := 64) hx hb dX9_firstSight_60 (by decide) ?_
        refine lv_icmp_ge (tgt := 155) hx hb dX9_firstSight_62 (by decide) (fun c_123 => ?_) (fun c_123 => ?_)
        ·
          have i_123 : m_i.toInt ≥ 64 := by have z := g5_ge (a := m_i.toInt) (b := 64) (by rfl) (by decide) c_123; omega
          refine lv_aload_n hx hb dX9_firstSight_155 rfl (lv_at hl 5 rfl) ?_
          refine va_get (D := G.1) (ci := 9) (v := .ref a_go) (C := RX9) (T := TX9) (N := 4) hx hb hts inG_X9 hown hK hP 18 rfl rfl 2 (by decide) (hts _ fl_X9_9) (fun _ h9 => h9) rfl dX9_firstSight_156 ?_
          refine lv_iload hx hb dX9_firstSight_159 (lv_at hl 4 rfl) ?_
          refine lv_lload hx hb dX9_firstSight_161 (lv_at hl 1 rfl) ?_
          refine va_last hx hb hK hP hD hS 15 1 rfl rfl (i := k_h) (x := m_x) (vp_in_iff.mpr ⟨by omega, by omega⟩) dX9_firstSight_163 (fun H locs hP hD hS => ?_)
          refine g5_rs [(a_k, (oc5 a_h a_j a_pt m_ln m_se m_lh m_br m_we m_me m_ce m_wy m_ho m_ov)), (a_g, (oc6 6 5 a_gn e_g)), (a_gn, (arI G 30 f_g)), (a_p, (oc6 8 5 a_pn e_p)), (a_pn, (arI G 40 f_p)), (a_bb, (arJ G 24 f_bb)), (a_j, (oc2 a_as a_sk)), (a_as, (arI G 8 m_as)), (a_sk, (arJ G 50 m_sk)), (a_l, (arW G 6 f_l)), (a_lo, (oc3 e_cl a_hd a_sr a_cd)), (a_sr, (arI G n_sr f_sr)), (a_cd, (arI G n_cd f_cd)), (a_hd, (arI G n_hd f_hd)), (a_pt, (arI G 200 m_pt)), (a_go, (arJ G 24 (vp_updL k_go k_h.toNatClampNeg m_x))), (a_mt, (arI G 1536 m_mt)), (a_h, (oc1 e_wa e_le e_st e_fo e_lc a_l a_g a_b a_s a_p a_w e_gb a_bb)), (a_wk, (oc9 a_h a_k a_go a_mt)), (a_b, (oc6 5 24 a_bn e_b)), (a_bn, (arI G 120 f_b))] hP hD (fun hP hD => ?_)
          refine lv_lload hx hb dX9_firstSight_164 (lv_at hl 1 rfl) ?_
          refine lv_lconst (v := 0) hx hb dX9_firstSight_166 (by decide) ?_
          refine W.lcmp hx hb dX9_firstSight_167 ?_
          refine lv_if_eq (tgt := 174) hx hb dX9_firstSight_168 (by decide) (fun c_124 => ?_) (fun c_124 => ?_)
          ·
            have i_124 : (lg_cmp m_x 0).toInt = 0 := by have z := g5_eq (a := (lg_cmp m_x 0).toInt) (b := 0) (by rfl) (by decide) c_124; omega
            refine lv_aload_n hx hb dX9_firstSight_174 rfl (lv_at hl 5 rfl) ?_
            refine lv_lload hx hb dX9_firstSight_175 (lv_at hl 3 rfl) ?_
            obtain ⟨hPc, hDc, hFc⟩ := g5_sub3 (wc := [(a_h, (oc1 e_wa e_le e_st e_fo e_lc a_l a_g a_b a_s a_p a_w e_gb a_bb)), (a_wk, (oc9 a_h a_k a_go a_mt))]) hP hD hS hA [17, 18] (by decide) rfl
            refine va_calll (va_runV (As := [.long k_x]) (rest := []) ⟨hx, hb, hml, hown, hts⟩ (a_spread l G a_h a_wk a_l a_g a_b a_s a_p a_w a_bb a_k a_go a_mt H.size e_le e_st e_fo e_lc e_wa e_gb k_x) (cwV 1 hts gV_X9_56 rfl rfl rfl hv_X9_spread ⟨Nat.le_of_ble_eq_true rfl, Nat.le_of_ble_eq_true rfl⟩) (g5_preV hPc hK hDc hN hT hS hFc (ci := 9) (q0 := 1) rfl rfl) rfl rfl hl.1 rfl (lv_room (Nat.le_of_ble_eq_true rfl)) dX9_firstSight_177 ⟨Nat.le_of_ble_eq_true rfl, Nat.le_of_ble_eq_true rfl⟩) hS (fun q _ h => hFc q h) hFc (fun r u t H1 locs ht hvm hw hB hz1 hk1 hS => ?_)
            obtain ⟨hP1, hD1⟩ := hB
            rw [ht] at hP1
            obtain ⟨z125, y126, rfl⟩ := hw
            obtain ⟨hP, hD⟩ := va_join (wr := [(a_k, (oc5 a_h a_j a_pt m_ln m_se m_lh m_br m_we m_me m_ce m_wy m_ho m_ov)), (a_g, (oc6 6 5 a_gn e_g)), (a_gn, (arI G 30 f_g)), (a_p, (oc6 8 5 a_pn e_p)), (a_pn, (arI G 40 f_p)), (a_bb, (arJ G 24 f_bb)), (a_j, (oc2 a_as a_sk)), (a_as, (arI G 8 m_as)), (a_sk, (arJ G 50 m_sk)), (a_l, (arW G 6 f_l)), (a_lo, (oc3 e_cl a_hd a_sr a_cd)), (a_sr, (arI G n_sr f_sr)), (a_cd, (arI G n_cd f_cd)), (a_hd, (arI G n_hd f_hd)), (a_pt, (arI G 200 m_pt)), (a_go, (arJ G 24 (vp_updL k_go k_h.toNatClampNeg m_x))), (a_mt, (arI G 1536 m_mt)), (a_b, (oc6 5 24 a_bn e_b)), (a_bn, (arI G 120 f_b))]) hP hD [17, 18] [0, 1, 2, 3, 4, 5, 6, 7, 8, 9, 10, 11, 12, 13, 14, 15, 16, 19, 20] rfl rfl (by decide) (by decide) hk1 hFc hP1 hD1
            generalize H1 = H at hP hS ⊢
            refine g5_rs [(a_k, (oc5 a_h a_j a_pt m_ln m_se m_lh m_br m_we m_me m_ce m_wy m_ho m_ov)), (a_g, (oc6 6 5 a_gn e_g)), (a_gn, (arI G 30 f_g)), (a_p, (oc6 8 5 a_pn e_p)), (a_pn, (arI G 40 f_p)), (a_bb, (arJ G 24 f_bb)), (a_j, (oc2 a_as a_sk)), (a_as, (arI G 8 m_as)), (a_sk, (arJ G 50 m_sk)), (a_l, (arW G 6 f_l)), (a_lo, (oc3 e_cl a_hd a_sr a_cd)), (a_sr, (arI G n_sr f_sr)), (a_cd, (arI G n_cd f_cd)), (a_hd, (arI G n_hd f_hd)), (a_pt, (arI G 200 m_pt)), (a_go, (arJ G 24 (vp_updL k_go k_h.toNatClampNeg m_x))), (a_mt, (arI G 1536 m_mt)), (a_b, (oc6 5 24 a_bn e_b)), (a_bn, (arI G 120 f_b)), (a_h, (oc1 e_wa e_le e_st e_fo e_lc a_l a_g a_b a_s a_p a_w e_gb a_bb)), (a_wk, (oc9 a_h a_k a_go a_mt))] hP hD (fun hP hD => ?_)
            refine g5_tl (v := z125) y126 ?_
            refine lv_lstore (lv' := [(5, .long z125), (7, .int m_t), (9, .long m_x), (11, .int m_i), (8, .int k_h), (0, .ref a_wk), (1, .int p_b), (2, .int p_c), (3, .int p_f), (4, .int p_e)]) hx hb dX9_firstSight_180 hl (by decide) rfl (fun ls hl => ?_)
            refine lv_iinc (v := (k_h + 1)) (lv' := [(8, .int (k_h + 1)), (5, .long z125), (7, .int m_t), (9, .long m_x), (11, .int m_i), (0, .ref a_wk), (1, .int p_b), (2, .int p_c), (3, .int p_f), (4, .int p_e)]) hx hb dX9_firstSight_182 hl (k := 4) rfl rfl (by decide) rfl (fun ls hl => ?_)
            have t_127 : (k_h + 1).toInt = k_h.toInt + 1 := g5_iadd (a := k_h.toInt) (b := 1) rfl (by decide) (by omega) (by omega)
            refine lv_goto (tgt := 16) hx hb dX9_firstSight_185 (by decide) ?_
            exact ih_16_8 (z125, m_t, (k_h + 1), m_se, m_lh, m_br, m_we, m_me, m_ce, m_wy, m_ho, m_ov, m_pt, m_as, m_sk, m_ln, (vp_updL k_go k_h.toNatClampNeg m_x), m_mt) ls H locs (show Int.toNat (24 - (k_h + 1).toInt) < Int.toNat (24 - k_h.toInt) from g_up (show k_h.toInt < (k_h + 1).toInt by omega) (show k_h.toInt < 24 by omega)) ⟨lv_sub hl [1, 2, 0, 5, 6, 7, 8, 9] rfl, hP.sub [0, 1, 2, 3, 4, 5, 6, 7, 8, 9, 10, 11, 12, 13, 14, 15, 16, 19, 17, 18, 20] rfl, hD.sub [0, 1, 2, 3, 4, 5, 6, 7, 8, 9, 10, 11, 12, 13, 14, 15, 16, 19, 17, 18, 20] (by decide) rfl, hS, i_119, ⟨by omega, by omega⟩, i_121, by omega⟩
          ·
            have n_124 : gNe ((lg_cmp m_x 0).toInt) (0) := by have z := g5_eqN (a := (lg_cmp m_x 0).toInt) (b := 0) (by rfl) (by decide) c_124; unfold gNe; omega
            refine lv_iload hx hb dX9_firstSight_171 (lv_at hl 4 rfl) ?_
            exact W.iret (v := k_h) hx hb hr (fun t ht hW => ⟨⟨k_h, [(a_k, (oc5 a_h a_j a_pt m_ln m_se m_lh m_br m_we m_me m_ce m_wy m_ho m_ov)), (a_h, (oc1 e_wa e_le e_st e_fo e_lc a_l a_g a_b a_s a_p a_w e_gb a_bb)), (a_g, (oc6 6 5 a_gn e_g)), (a_gn, (arI G 30 f_g)), (a_b, (oc6 5 24 a_bn e_b)), (a_bn, (arI G 120 f_b)), (a_p, (oc6 8 5 a_pn e_p)), (a_pn, (arI G 40 f_p)), (a_bb, (arJ G 24 f_bb)), (a_j, (oc2 a_as a_sk)), (a_as, (arI G 8 m_as)), (a_sk, (arJ G 50 m_sk)), (a_l, (arW G 6 f_l)), (a_lo, (oc3 e_cl a_hd a_sr a_cd)), (a_sr, (arI G n_sr f_sr)), (a_cd, (arI G n_cd f_cd)), (a_hd, (arI G n_hd f_hd)), (a_pt, (arI G 200 m_pt)), (a_wk, (oc9 a_h a_k a_go a_mt)), (a_go, (arJ G 24 (vp_updL k_go k_h.toNatClampNeg m_x))), (a_mt, (arI G 1536 m_mt))], rfl, ⟨k_h, m_ln, m_se, m_lh, m_br, m_we, m_me, m_ce, m_wy, m_ho, m_ov, m_pt, m_as, m_sk, (vp_updL k_go k_h.toNatClampNeg m_x), m_mt, i_121, ⟨by omega, by omega⟩, Or.inr ⟨by omega, by omega⟩, rfl, rfl⟩, by rw [ht]; exact hP.sub [0, 17, 1, 2, 19, 20, 3, 4, 5, 6, 7, 8, 9, 10, 11, 12, 13, 14, 18, 15, 16] rfl, hD.sub [0, 17, 1, 2, 19, 20, 3, 4, 5, 6, 7, 8, 9, 10, 11, 12, 13, 14, 18, 15, 16] (by decide) rfl⟩, hS.F ht⟩) hS.2.2 dX9_firstSight_173
        ·
          have i_123 : m_i.toInt < 64 := by have z := g5_geN (a := m_i.toInt) (b := 64) (by rfl) (by decide) c_123; omega
          refine lv_iload hx hb dX9_firstSight_65 (lv_at hl 0 rfl) ?_
          refine lv_if_eq (tgt := 99) hx hb dX9_firstSight_67 (by decide) (fun c_128 => ?_) (fun c_128 => ?_)
          ·
            have i_128 : m_t.toInt = 0 := by have z := g5_eq (a := m_t.toInt) (b := 0) (by rfl) (by decide) c_128; omega
            refine lv_iconst (v := 0) hx hb dX9_firstSight_99 (by decide) ?_
            refine lv_istore (lv' := [(12, .int 0), (7, .int m_t), (9, .long m_x), (11, .int m_i), (5, .long k_x), (8, .int k_h), (0, .ref a_wk), (1, .int p_b), (2, .int p_c), (3, .int p_f), (4, .int p_e)]) hx hb dX9_firstSight_100 hl (by decide) rfl (fun ls hl => ?_)
            refine lv_lload hx hb dX9_firstSight_102 (lv_at hl 2 rfl) ?_
            refine lv_iload hx hb dX9_firstSight_104 (lv_at hl 0 rfl) ?_
            refine lv_if_eq (tgt := 116) hx hb dX9_firstSight_106 (by decide) (fun c_129 => ?_) (fun c_129 => ?_)
            ·
              refine lv_lconst (v := 0) hx hb dX9_firstSight_116 (by decide) ?_
              refine lv_lor hx hb dX9_firstSight_117 ?_
              refine g5_tl (v := m_x) (by simp) ?_
              refine lv_lstore (lv' := [(9, .long m_x), (12, .int 0), (7, .int m_t), (11, .int m_i), (5, .long k_x), (8, .int k_h), (0, .ref a_wk), (1, .int p_b), (2, .int p_c), (3, .int p_f), (4, .int p_e)]) hx hb dX9_firstSight_118 hl (by decide) rfl (fun ls hl => ?_)
              refine lv_aload_n hx hb dX9_firstSight_120 rfl (lv_at hl 6 rfl) ?_
              refine va_get (D := G.1) (ci := 9) (v := .ref a_mt) (C := RX9) (T := TX9) (N := 4) hx hb hts inG_X9 hown hK hP 18 rfl rfl 3 (by decide) (hts _ fl_X9_15) (fun _ h9 => h9) rfl dX9_firstSight_121 ?_
              refine lv_iload hx hb dX9_firstSight_124 (lv_at hl 5 rfl) ?_
              refine lv_bipush (v := 64) hx hb dX9_firstSight_126 (by decide) ?_
              refine lv_imul hx hb dX9_firstSight_128 ?_
              have t_130 : (k_h * 64).toInt = k_h.toInt * 64 := g5_imul (a := k_h.toInt) (b := 64) (by rfl) (by decide) (by omega) (by omega)
              refine lv_iload hx hb dX9_firstSight_129 (lv_at hl 3 rfl) ?_
              refine lv_iadd hx hb dX9_firstSight_131 ?_
              have t_131 : ((k_h * 64) + m_i).toInt = (k_h * 64).toInt + m_i.toInt := g5_iadd (a := (k_h * 64).toInt) (b := m_i.toInt) (by rfl) (by rfl) (by omega) (by omega)
              refine lv_iload hx hb dX9_firstSight_132 (lv_at hl 2 rfl) ?_
              refine lv_if_eq (tgt := 147) hx hb dX9_firstSight_134 (by decide) (fun c_132 => ?_) (fun c_132 => ?_)
              ·
                have i_132 : m_t.toInt = 0 := by have z := g5_eq (a := m_t.toInt) (b := 0) (by rfl) (by decide) c_132; omega
                refine lv_iconst (v := 0) hx hb dX9_firstSight_147 (by decide) ?_
                refine va_iast hx hb hK hP hD hS 16 0 rfl rfl (i := ((k_h * 64) + m_i)) (x := 0) (vp_in_iff.mpr ⟨by omega, by omega⟩) dX9_firstSight_148 (fun H locs hP hD hS => ?_)
                refine g5_rs [(a_k, (oc5 a_h a_j a_pt m_ln m_se m_lh m_br m_we m_me m_ce m_wy m_ho m_ov)), (a_g, (oc6 6 5 a_gn e_g)), (a_gn, (arI G 30 f_g)), (a_p, (oc6 8 5 a_pn e_p)), (a_pn, (arI G 40 f_p)), (a_bb, (arJ G 24 f_bb)), (a_j, (oc2 a_as a_sk)), (a_as, (arI G 8 m_as)), (a_sk, (arJ G 50 m_sk)), (a_l, (arW G 6 f_l)), (a_lo, (oc3 e_cl a_hd a_sr a_cd)), (a_sr, (arI G n_sr f_sr)), (a_cd, (arI G n_cd f_cd)), (a_hd, (arI G n_hd f_hd)), (a_pt, (arI G 200 m_pt)), (a_go, (arJ G 24 k_go)), (a_mt, (arI G 1536 (upd m_mt ((k_h * 64) + m_i).toNatClampNeg 0))), (a_h, (oc1 e_wa e_le e_st e_fo e_lc a_l a_g a_b a_s a_p a_w e_gb a_bb)), (a_wk, (oc9 a_h a_k a_go a_mt)), (a_b, (oc6 5 24 a_bn e_b)), (a_bn, (arI G 120 f_b))] hP hD (fun hP hD => ?_)
                refine lv_iinc (v := (m_i + 1)) (lv' := [(11, .int (m_i + 1)), (9, .long m_x), (12, .int 0), (7, .int m_t), (5, .long k_x), (8, .int k_h), (0, .ref a_wk), (1, .int p_b), (2, .int p_c), (3, .int p_f), (4, .int p_e)]) hx hb dX9_firstSight_149 hl (k := 3) rfl rfl (by decide) rfl (fun ls hl => ?_)
                have t_133 : (m_i + 1).toInt = m_i.toInt + 1 := g5_iadd (a := m_i.toInt) (b := 1) rfl (by decide) (by omega) (by omega)
                refine lv_goto (tgt := 58) hx hb dX9_firstSight_152 (by decide) ?_
                exact ih_58_122 (m_x, m_t, (m_i + 1), m_se, m_lh, m_br, m_we, m_me, m_ce, m_wy, m_ho, m_ov, m_pt, m_as, m_sk, m_ln, (upd m_mt ((k_h * 64) + m_i).toNatClampNeg 0)) ls H locs (show Int.toNat (64 - (m_i + 1).toInt) < Int.toNat (64 - m_i.toInt) from g_up (show m_i.toInt < (m_i + 1).toInt by omega) (show m_i.toInt < 64 by omega)) ⟨lv_sub hl [3, 1, 0, 4, 5, 6, 7, 8, 9, 10] rfl, hP, hD, hS, i_119, ⟨by omega, by omega⟩, i_121⟩
              ·
                have i_132 : m_t.toInt ≠ 0 := by have z := g5_eqN (a := m_t.toInt) (b := 0) (by rfl) (by decide) c_132; omega
                omega
            ·
              exact absurd c_129 (by decide)
          ·
            have n_128 : gNe (m_t.toInt) (0) := by have z := g5_eqN (a := m_t.toInt) (b := 0) (by rfl) (by decide) c_128; unfold gNe; omega
            have i_128 : m_t.toInt ≥ 1 := by have z := g5_eqN (a := m_t.toInt) (b := 0) (by rfl) (by decide) c_128; omega
            refine lv_lload hx hb dX9_firstSight_70 (lv_at hl 3 rfl) ?_
            refine lv_iload hx hb dX9_firstSight_72 (lv_at hl 2 rfl) ?_
            obtain ⟨hPc, hDc, hFc⟩ := g5_sub3 (wc := []) hP hD hS hA [] (by decide) rfl
            refine va_calli (va_runSN (As := [.long k_x, .int m_i]) (rest := []) ⟨hx, hb, hml, hown, hts⟩ (k_isOn l G H.size m_i k_x ⟨by omega, by omega⟩) ⟨va_cnB 2 hts gW_X11_isOn rfl rfl rfl (hN.1 _ g5_nw_X9_43) (hts _ ini_X11) hs_X11_isOn ⟨Nat.le_of_ble_eq_true rfl, Nat.le_of_ble_eq_true rfl⟩, hts _ st_X11_isOn, trivial⟩ (g5_preS hPc hK hDc hN hT hS hFc) rfl rfl hl.1 rfl (lv_room (Nat.le_of_ble_eq_true rfl)) dX9_firstSight_74 ⟨Nat.le_of_ble_eq_true rfl, Nat.le_of_ble_eq_true rfl⟩) hS (fun q _ h => hFc q h) hFc (fun r u t H1 locs ht hvm hw hB hz1 hk1 hS => ?_)
            obtain ⟨hP1, hD1⟩ := hB
            rw [ht] at hP1
            rcases hw with ⟨i_134, rfl, rfl⟩ | ⟨i_135, rfl, rfl⟩
            ·
              have i_134 : onB k_x m_i.toInt = false := i_134
              have hP := g5_same hP hk1
              generalize H1 = H at hP hS ⊢
              refine lv_if_eq (tgt := 99) hx hb dX9_firstSight_77 (by decide) (fun c_136 => ?_) (fun c_136 => ?_)
              ·
                refine lv_iconst (v := 0) hx hb dX9_firstSight_99 (by decide) ?_
                refine lv_istore (lv' := [(12, .int 0), (7, .int m_t), (9, .long m_x), (11, .int m_i), (5, .long k_x), (8, .int k_h), (0, .ref a_wk), (1, .int p_b), (2, .int p_c), (3, .int p_f), (4, .int p_e)]) hx hb dX9_firstSight_100 hl (by decide) rfl (fun ls hl => ?_)
                refine lv_lload hx hb dX9_firstSight_102 (lv_at hl 2 rfl) ?_
                refine lv_iload hx hb dX9_firstSight_104 (lv_at hl 0 rfl) ?_
                refine lv_if_eq (tgt := 116) hx hb dX9_firstSight_106 (by decide) (fun c_137 => ?_) (fun c_137 => ?_)
                ·
                  refine lv_lconst (v := 0) hx hb dX9_firstSight_116 (by decide) ?_
                  refine lv_lor hx hb dX9_firstSight_117 ?_
                  refine g5_tl (v := m_x) (by simp) ?_
                  refine lv_lstore (lv' := [(9, .long m_x), (12, .int 0), (7, .int m_t), (11, .int m_i), (5, .long k_x), (8, .int k_h), (0, .ref a_wk), (1, .int p_b), (2, .int p_c), (3, .int p_f), (4, .int p_e)]) hx hb dX9_firstSight_118 hl (by decide) rfl (fun ls hl => ?_)
                  refine lv_aload_n hx hb dX9_firstSight_120 rfl (lv_at hl 6 rfl) ?_
                  refine va_get (D := G.1) (ci := 9) (v := .ref a_mt) (C := RX9) (T := TX9) (N := 4) hx hb hts inG_X9 hown hK hP 18 rfl rfl 3 (by decide) (hts _ fl_X9_15) (fun _ h9 => h9) rfl dX9_firstSight_121 ?_
                  refine lv_iload hx hb dX9_firstSight_124 (lv_at hl 5 rfl) ?_
                  refine lv_bipush (v := 64) hx hb dX9_firstSight_126 (by decide) ?_
                  refine lv_imul hx hb dX9_firstSight_128 ?_
                  have t_138 : (k_h * 64).toInt = k_h.toInt * 64 := g5_imul (a := k_h.toInt) (b := 64) (by rfl) (by decide) (by omega) (by omega)
                  refine lv_iload hx hb dX9_firstSight_129 (lv_at hl 3 rfl) ?_
                  refine lv_iadd hx hb dX9_firstSight_131 ?_
                  have t_139 : ((k_h * 64) + m_i).toInt = (k_h * 64).toInt + m_i.toInt := g5_iadd (a := (k_h * 64).toInt) (b := m_i.toInt) (by rfl) (by rfl) (by omega) (by omega)
                  refine lv_iload hx hb dX9_firstSight_132 (lv_at hl 2 rfl) ?_
                  refine lv_if_eq (tgt := 147) hx hb dX9_firstSight_134 (by decide) (fun c_140 => ?_) (fun c_140 => ?_)
                  ·
                    have i_140 : m_t.toInt = 0 := by have z := g5_eq (a := m_t.toInt) (b := 0) (by rfl) (by decide) c_140; omega
                    omega
                  ·
                    have n_140 : gNe (m_t.toInt) (0) := by have z := g5_eqN (a := m_t.toInt) (b := 0) (by rfl) (by decide) c_140; unfold gNe; omega
                    refine lv_aload_n hx hb dX9_firstSight_137 rfl (lv_at hl 6 rfl) ?_
                    refine va_get (D := G.1) (ci := 9) (v := .ref a_k) (C := RX9) (T := TX9) (N := 4) hx hb hts inG_X9 hown hK hP 18 rfl rfl 1 (by decide) (hts _ fl_X9_23) (fun _ h9 => h9) rfl dX9_firstSight_138 ?_
                    refine va_get (D := G.1) (ci := 5) (v := .int m_me) (C := RX5) (T := TX5) (N := 13) hx hb hts inG_X5 hown hK hP 0 rfl rfl 8 (by decide) (hts _ fl_X9_53) (fun _ h9 => h9) rfl dX9_firstSight_141 ?_
                    refine lv_goto (tgt := 148) hx hb dX9_firstSight_144 (by decide) ?_
                    refine va_iast hx hb hK hP hD hS 16 0 rfl rfl (i := ((k_h * 64) + m_i)) (x := m_me) (vp_in_iff.mpr ⟨by omega, by omega⟩) dX9_firstSight_148 (fun H locs hP hD hS => ?_)
                    refine g5_rs [(a_k, (oc5 a_h a_j a_pt m_ln m_se m_lh m_br m_we m_me m_ce m_wy m_ho m_ov)), (a_g, (oc6 6 5 a_gn e_g)), (a_gn, (arI G 30 f_g)), (a_p, (oc6 8 5 a_pn e_p)), (a_pn, (arI G 40 f_p)), (a_bb, (arJ G 24 f_bb)), (a_j, (oc2 a_as a_sk)), (a_as, (arI G 8 m_as)), (a_sk, (arJ G 50 m_sk)), (a_l, (arW G 6 f_l)), (a_lo, (oc3 e_cl a_hd a_sr a_cd)), (a_sr, (arI G n_sr f_sr)), (a_cd, (arI G n_cd f_cd)), (a_hd, (arI G n_hd f_hd)), (a_pt, (arI G 200 m_pt)), (a_go, (arJ G 24 k_go)), (a_mt, (arI G 1536 (upd m_mt ((k_h * 64) + m_i).toNatClampNeg m_me))), (a_h, (oc1 e_wa e_le e_st e_fo e_lc a_l a_g a_b a_s a_p a_w e_gb a_bb)), (a_wk, (oc9 a_h a_k a_go a_mt)), (a_b, (oc6 5 24 a_bn e_b)), (a_bn, (arI G 120 f_b))] hP hD (fun hP hD => ?_)
                    refine lv_iinc (v := (m_i + 1)) (lv' := [(11, .int (m_i + 1)), (9, .long m_x), (12, .int 0), (7, .int m_t), (5, .long k_x), (8, .int k_h), (0, .ref a_wk), (1, .int p_b), (2, .int p_c), (3, .int p_f), (4, .int p_e)]) hx hb dX9_firstSight_149 hl (k := 3) rfl rfl (by decide) rfl (fun ls hl => ?_)
                    have t_141 : (m_i + 1).toInt = m_i.toInt + 1 := g5_iadd (a := m_i.toInt) (b := 1) rfl (by decide) (by omega) (by omega)
                    refine lv_goto (tgt := 58) hx hb dX9_firstSight_152 (by decide) ?_
                    exact ih_58_122 (m_x, m_t, (m_i + 1), m_se, m_lh, m_br, m_we, m_me, m_ce, m_wy, m_ho, m_ov, m_pt, m_as, m_sk, m_ln, (upd m_mt ((k_h * 64) + m_i).toNatClampNeg m_me)) ls H locs (show Int.toNat (64 - (m_i + 1).toInt) < Int.toNat (64 - m_i.toInt) from g_up (show m_i.toInt < (m_i + 1).toInt by omega) (show m_i.toInt < 64 by omega)) ⟨lv_sub hl [3, 1, 0, 4, 5, 6, 7, 8, 9, 10] rfl, hP, hD, hS, i_119, ⟨by omega, by omega⟩, i_121⟩
                ·
                  exact absurd c_137 (by decide)
              ·
                exact absurd c_136 (by decide)
            ·
              have i_135 : onB k_x m_i.toInt = true := i_135
              have hP := g5_same hP hk1
              generalize H1 = H at hP hS ⊢
              refine lv_if_eq (tgt := 99) hx hb dX9_firstSight_77 (by decide) (fun c_142 => ?_) (fun c_142 => ?_)
              ·
                exact absurd c_142 (by decide)
              ·
                refine lv_aload_n hx hb dX9_firstSight_80 rfl (lv_at hl 5 rfl) ?_
                refine va_get (D := G.1) (ci := 9) (v := .ref a_k) (C := RX9) (T := TX9) (N := 4) hx hb hts inG_X9 hown hK hP 18 rfl rfl 1 (by decide) (hts _ fl_X9_23) (fun _ h9 => h9) rfl dX9_firstSight_81 ?_
                refine lv_iload_n hx hb dX9_firstSight_84 rfl (lv_at hl 6 rfl) ?_
                refine lv_iload hx hb dX9_firstSight_85 (lv_at hl 2 rfl) ?_
                refine lv_iload hx hb dX9_firstSight_87 (lv_at hl 4 rfl) ?_
                obtain ⟨hPc, hDc, hFc⟩ := g5_sub3 (wc := [(a_k, (oc5 a_h a_j a_pt m_ln m_se m_lh m_br m_we m_me m_ce m_wy m_ho m_ov)), (a_h, (oc1 e_wa e_le e_st e_fo e_lc a_l a_g a_b a_s a_p a_w e_gb a_bb)), (a_g, (oc6 6 5 a_gn e_g)), (a_gn, (arI G 30 f_g)), (a_b, (oc6 5 24 a_bn e_b)), (a_bn, (arI G 120 f_b)), (a_p, (oc6 8 5 a_pn e_p)), (a_pn, (arI G 40 f_p)), (a_bb, (arJ G 24 f_bb)), (a_j, (oc2 a_as a_sk)), (a_as, (arI G 8 m_as)), (a_sk, (arJ G 50 m_sk)), (a_l, (arW G 6 f_l)), (a_lo, (oc3 e_cl a_hd a_sr a_cd)), (a_sr, (arI G n_sr f_sr)), (a_cd, (arI G n_cd f_cd)), (a_hd, (arI G n_hd f_hd)), (a_pt, (arI G 200 m_pt))]) hP hD hS hA [0, 17, 1, 2, 19, 20, 3, 4, 5, 6, 7, 8, 9, 10, 11, 12, 13, 14] (by decide) rfl
                refine va_calli (va_runV (As := [.int p_b, .int m_i, .int k_h]) (rest := []) ⟨hx, hb, hml, hown, hts⟩ (s_findsBodyL l G a_k a_h a_g a_gn a_b a_bn a_p a_pn a_bb a_j a_as a_sk a_l a_lo a_sr a_cd a_hd a_pt a_s a_w H.size e_le e_st e_fo e_lc e_g e_b e_p e_cl m_ln m_se m_lh m_br m_we m_me m_ce m_wy m_ho m_ov m_i k_h p_b e_wa e_gb f_g f_b f_p f_bb m_as m_sk f_l f_sr f_cd f_hd m_pt n_sr n_cd n_hd h_e_g h_e_b h_e_p h_e_cl i_121 (e_gk) (e_pk) (e_gi) (e_f) (e_a) (e_hn) (e_hs) (e_hk) (e_c)) (cwV 3 hts gV_X9_47 rfl rfl rfl hv_X5_findsBody ⟨Nat.le_of_ble_eq_true rfl, Nat.le_of_ble_eq_true rfl⟩) (g5_preV hPc hK hDc hN hT hS hFc (ci := 5) (q0 := 0) rfl rfl) rfl rfl hl.1 rfl (lv_room (Nat.le_of_ble_eq_true rfl)) dX9_firstSight_89 ⟨Nat.le_of_ble_eq_true rfl, Nat.le_of_ble_eq_true rfl⟩) hS (fun q _ h => hFc q h) hFc (fun r u t H1 locs ht hvm hw hB hz1 hk1 hS => ?_)
                obtain ⟨hP1, hD1⟩ := hB
                rw [ht] at hP1
                obtain ⟨z145, z146, z147, z148, z149, z150, z151, z152, z153, z154, z155, z156, z157, z158, i_143, i_144, y159, rfl⟩ := hw
                have i_143 : 0 ≤ z145.toInt ∧ z145.toInt ≤ 1 := i_143
                have i_144 : 0 ≤ z155.toInt ∧ z155.toInt ≤ 1 := i_144
                obtain ⟨hP, hD⟩ := va_join (wr := [(a_go, (arJ G 24 k_go)), (a_mt, (arI G 1536 m_mt)), (a_wk, (oc9 a_h a_k a_go a_mt))]) hP hD [0, 17, 1, 2, 19, 20, 3, 4, 5, 6, 7, 8, 9, 10, 11, 12, 13, 14] [15, 16, 18] rfl rfl (by decide) (by decide) hk1 hFc hP1 hD1
                generalize H1 = H at hP hS ⊢
                refine g5_rs [(a_go, (arJ G 24 k_go)), (a_mt, (arI G 1536 m_mt)), (a_wk, (oc9 a_h a_k a_go a_mt)), (a_k, (oc5 a_h a_j a_pt z146 z147 z148 z149 z150 z151 z152 z153 z154 z155)), (a_h, (oc1 e_wa e_le e_st e_fo e_lc a_l a_g a_b a_s a_p a_w e_gb a_bb)), (a_g, (oc6 6 5 a_gn e_g)), (a_gn, (arI G 30 f_g)), (a_b, (oc6 5 24 a_bn e_b)), (a_bn, (arI G 120 f_b)), (a_p, (oc6 8 5 a_pn e_p)), (a_pn, (arI G 40 f_p)), (a_bb, (arJ G 24 f_bb)), (a_j, (oc2 a_as a_sk)), (a_as, (arI G 8 z157)), (a_sk, (arJ G 50 z158)), (a_l, (arW G 6 f_l)), (a_lo, (oc3 e_cl a_hd a_sr a_cd)), (a_sr, (arI G n_sr f_sr)), (a_cd, (arI G n_cd f_cd)), (a_hd, (arI G n_hd f_hd)), (a_pt, (arI G 200 z156))] hP hD (fun hP hD => ?_)
                refine g5_ti (v := z145) y159 ?_
                refine lv_if_eq (tgt := 99) hx hb dX9_firstSight_92 (by decide) (fun c_160 => ?_) (fun c_160 => ?_)
                ·
                  have i_160 : z145.toInt = 0 := by have z := g5_eq (a := z145.toInt) (b := 0) (by rfl) (by decide) c_160; omega
                  refine lv_iconst (v := 0) hx hb dX9_firstSight_99 (by decide) ?_
                  refine lv_istore (lv' := [(12, .int 0), (7, .int m_t), (9, .long m_x), (11, .int m_i), (5, .long k_x), (8, .int k_h), (0, .ref a_wk), (1, .int p_b), (2, .int p_c), (3, .int p_f), (4, .int p_e)]) hx hb dX9_firstSight_100 hl (by decide) rfl (fun ls hl => ?_)
                  refine lv_lload hx hb dX9_firstSight_102 (lv_at hl 2 rfl) ?_
                  refine lv_iload hx hb dX9_firstSight_104 (lv_at hl 0 rfl) ?_
                  refine lv_if_eq (tgt := 116) hx hb dX9_firstSight_106 (by decide) (fun c_161 => ?_) (fun c_161 => ?_)
                  ·
                    refine lv_lconst (v := 0) hx hb dX9_firstSight_116 (by decide) ?_
                    refine lv_lor hx hb dX9_firstSight_117 ?_
                    refine g5_tl (v := m_x) (by simp) ?_
                    refine lv_lstore (lv' := [(9, .long m_x), (12, .int 0), (7, .int m_t), (11, .int m_i), (5, .long k_x), (8, .int k_h), (0, .ref a_wk), (1, .int p_b), (2, .int p_c), (3, .int p_f), (4, .int p_e)]) hx hb dX9_firstSight_118 hl (by decide) rfl (fun ls hl => ?_)
                    refine lv_aload_n hx hb dX9_firstSight_120 rfl (lv_at hl 6 rfl) ?_
                    refine va_get (D := G.1) (ci := 9) (v := .ref a_mt) (C := RX9) (T := TX9) (N := 4) hx hb hts inG_X9 hown hK hP 2 rfl rfl 3 (by decide) (hts _ fl_X9_15) (fun _ h9 => h9) rfl dX9_firstSight_121 ?_
                    refine lv_iload hx hb dX9_firstSight_124 (lv_at hl 5 rfl) ?_
                    refine lv_bipush (v := 64) hx hb dX9_firstSight_126 (by decide) ?_
                    refine lv_imul hx hb dX9_firstSight_128 ?_
                    have t_162 : (k_h * 64).toInt = k_h.toInt * 64 := g5_imul (a := k_h.toInt) (b := 64) (by rfl) (by decide) (by omega) (by omega)
                    refine lv_iload hx hb dX9_firstSight_129 (lv_at hl 3 rfl) ?_
                    refine lv_iadd hx hb dX9_firstSight_131 ?_
                    have t_163 : ((k_h * 64) + m_i).toInt = (k_h * 64).toInt + m_i.toInt := g5_iadd (a := (k_h * 64).toInt) (b := m_i.toInt) (by rfl) (by rfl) (by omega) (by omega)
                    refine lv_iload hx hb dX9_firstSight_132 (lv_at hl 2 rfl) ?_
                    refine lv_if_eq (tgt := 147) hx hb dX9_firstSight_134 (by decide) (fun c_164 => ?_) (fun c_164 => ?_)
                    ·
                      have i_164 : m_t.toInt = 0 := by have z := g5_eq (a := m_t.toInt) (b := 0) (by rfl) (by decide) c_164; omega
                      omega
                    ·
                      have n_164 : gNe (m_t.toInt) (0) := by have z := g5_eqN (a := m_t.toInt) (b := 0) (by rfl) (by decide) c_164; unfold gNe; omega
                      refine lv_aload_n hx hb dX9_firstSight_137 rfl (lv_at hl 6 rfl) ?_
                      refine va_get (D := G.1) (ci := 9) (v := .ref a_k) (C := RX9) (T := TX9) (N := 4) hx hb hts inG_X9 hown hK hP 2 rfl rfl 1 (by decide) (hts _ fl_X9_23) (fun _ h9 => h9) rfl dX9_firstSight_138 ?_
                      refine va_get (D := G.1) (ci := 5) (v := .int z151) (C := RX5) (T := TX5) (N := 13) hx hb hts inG_X5 hown hK hP 3 rfl rfl 8 (by decide) (hts _ fl_X9_53) (fun _ h9 => h9) rfl dX9_firstSight_141 ?_
                      refine lv_goto (tgt := 148) hx hb dX9_firstSight_144 (by decide) ?_
                      refine va_iast hx hb hK hP hD hS 1 0 rfl rfl (i := ((k_h * 64) + m_i)) (x := z151) (vp_in_iff.mpr ⟨by omega, by omega⟩) dX9_firstSight_148 (fun H locs hP hD hS => ?_)
                      refine g5_rs [(a_go, (arJ G 24 k_go)), (a_mt, (arI G 1536 (upd m_mt ((k_h * 64) + m_i).toNatClampNeg z151))), (a_wk, (oc9 a_h a_k a_go a_mt)), (a_k, (oc5 a_h a_j a_pt z146 z147 z148 z149 z150 z151 z152 z153 z154 z155)), (a_h, (oc1 e_wa e_le e_st e_fo e_lc a_l a_g a_b a_s a_p a_w e_gb a_bb)), (a_g, (oc6 6 5 a_gn e_g)), (a_gn, (arI G 30 f_g)), (a_b, (oc6 5 24 a_bn e_b)), (a_bn, (arI G 120 f_b)), (a_p, (oc6 8 5 a_pn e_p)), (a_pn, (arI G 40 f_p)), (a_bb, (arJ G 24 f_bb)), (a_j, (oc2 a_as a_sk)), (a_as, (arI G 8 z157)), (a_sk, (arJ G 50 z158)), (a_l, (arW G 6 f_l)), (a_lo, (oc3 e_cl a_hd a_sr a_cd)), (a_sr, (arI G n_sr f_sr)), (a_cd, (arI G n_cd f_cd)), (a_hd, (arI G n_hd f_hd)), (a_pt, (arI G 200 z156))] hP hD (fun hP hD => ?_)
                      refine lv_iinc (v := (m_i + 1)) (lv' := [(11, .int (m_i + 1)), (9, .long m_x), (12, .int 0), (7, .int m_t), (5, .long k_x), (8, .int k_h), (0, .ref a_wk), (1, .int p_b), (2, .int p_c), (3, .int p_f), (4, .int p_e)]) hx hb dX9_firstSight_149 hl (k := 3) rfl rfl (by decide) rfl (fun ls hl => ?_)
                      have t_165 : (m_i + 1).toInt = m_i.toInt + 1 := g5_iadd (a := m_i.toInt) (b := 1) rfl (by decide) (by omega) (by omega)
                      refine lv_goto (tgt := 58) hx hb dX9_firstSight_152 (by decide) ?_
                      exact ih_58_122 (m_x, m_t, (m_i + 1), z147, z148, z149, z150, z151, z152, z153, z154, z155, z156, z157, z158, z146, (upd m_mt ((k_h * 64) + m_i).toNatClampNeg z151)) ls H locs (show Int.toNat (64 - (m_i + 1).toInt) < Int.toNat (64 - m_i.toInt) from g_up (show m_i.toInt < (m_i + 1).toInt by omega) (show m_i.toInt < 64 by omega)) ⟨lv_sub hl [3, 1, 0, 4, 5, 6, 7, 8, 9, 10] rfl, hP.sub [3, 5, 6, 9, 10, 11, 12, 13, 14, 15, 16, 17, 18, 19, 20, 0, 1, 4, 2, 7, 8] rfl, hD.sub [3, 5, 6, 9, 10, 11, 12, 13, 14, 15, 16, 17, 18, 19, 20, 0, 1, 4, 2, 7, 8] (by decide) rfl, hS, i_119, ⟨by omega, by omega⟩, i_144⟩
                  ·
                    exact absurd c_161 (by decide)
                ·
                  have n_160 : gNe (z145.toInt) (0) := by have z := g5_eqN (a := z145.toInt) (b := 0) (by rfl) (by decide) c_160; unfold gNe; omega
                  have i_160 : z145.toInt ≥ 1 := by have z := g5_eqN (a := z145.toInt) (b := 0) (by rfl) (by decide) c_160; omega
                  refine lv_iconst (v := 1) hx hb dX9_firstSight_95 (by decide) ?_
                  refine lv_goto (tgt := 100) hx hb dX9_firstSight_96 (by decide) ?_
                  refine lv_istore (lv' := [(12, .int 1), (7, .int m_t), (9, .long m_x), (11, .int m_i), (5, .long k_x), (8, .int k_h), (0, .ref a_wk), (1, .int p_b), (2, .int p_c), (3, .int p_f), (4, .int p_e)]) hx hb dX9_firstSight_100 hl (by decide) rfl (fun ls hl => ?_)
                  refine lv_lload hx hb dX9_firstSight_102 (lv_at hl 2 rfl) ?_
                  refine lv_iload hx hb dX9_firstSight_104 (lv_at hl 0 rfl) ?_
                  refine lv_if_eq (tgt := 116) hx hb dX9_firstSight_106 (by decide) (fun c_166 => ?_) (fun c_166 => ?_)
                  ·
                    exact absurd c_166 (by decide)
                  ·
                    refine lv_lconst (v := 1) hx hb dX9_firstSight_109 (by decide) ?_
                    refine lv_iload hx hb dX9_firstSight_110 (lv_at hl 3 rfl) ?_
                    refine lv_lshl (v := ((1 : Int64) <<< (m_i.toInt64 &&& 63))) hx hb dX9_firstSight_112 rfl ?_
                    refine lv_goto (tgt := 117) hx hb dX9_firstSight_113 (by decide) ?_
                    refine lv_lor hx hb dX9_firstSight_117 ?_
                    refine lv_lstore (lv' := [(9, .long (m_x ||| ((1 : Int64) <<< (m_i.toInt64 &&& 63)))), (12, .int 1), (7, .int m_t), (11, .int m_i), (5, .long k_x), (8, .int k_h), (0, .ref a_wk), (1, .int p_b), (2, .int p_c), (3, .int p_f), (4, .int p_e)]) hx hb dX9_firstSight_118 hl (by decide) rfl (fun ls hl => ?_)
                    refine lv_aload_n hx hb dX9_firstSight_120 rfl (lv_at hl 6 rfl) ?_
                    refine va_get (D := G.1) (ci := 9) (v := .ref a_mt) (C := RX9) (T := TX9) (N := 4) hx hb hts inG_X9 hown hK hP 2 rfl rfl 3 (by decide) (hts _ fl_X9_15) (fun _ h9 => h9) rfl dX9_firstSight_121 ?_
                    refine lv_iload hx hb dX9_firstSight_124 (lv_at hl 5 rfl) ?_
                    refine lv_bipush (v := 64) hx hb dX9_firstSight_126 (by decide) ?_
                    refine lv_imul hx hb dX9_firstSight_128 ?_
                    have t_167 : (k_h * 64).toInt = k_h.toInt * 64 := g5_imul (a := k_h.toInt) (b := 64) (by rfl) (by decide) (by omega) (by omega)
                    refine lv_iload hx hb dX9_firstSight_129 (lv_at hl 3 rfl) ?_
                    refine lv_iadd hx hb dX9_firstSight_131 ?_
                    have t_168 : ((k_h * 64) + m_i).toInt = (k_h * 64).toInt + m_i.toInt := g5_iadd (a := (k_h * 64).toInt) (b := m_i.toInt) (by rfl) (by rfl) (by omega) (by omega)
                    refine lv_iload hx hb dX9_firstSight_132 (lv_at hl 2 rfl) ?_
                    refine lv_if_eq (tgt := 147) hx hb dX9_firstSight_134 (by decide) (fun c_169 => ?_) (fun c_169 => ?_)
                    ·
                      have i_169 : m_t.toInt = 0 := by have z := g5_eq (a := m_t.toInt) (b := 0) (by rfl) (by decide) c_169; omega
                      omega
                    ·
                      have n_169 : gNe (m_t.toInt) (0) := by have z := g5_eqN (a := m_t.toInt) (b := 0) (by rfl) (by decide) c_169; unfold gNe; omega
                      refine lv_aload_n hx hb dX9_firstSight_137 rfl (lv_at hl 6 rfl) ?_
                      refine va_get (D := G.1) (ci := 9) (v := .ref a_k) (C := RX9) (T := TX9) (N := 4) hx hb hts inG_X9 hown hK hP 2 rfl rfl 1 (by decide) (hts _ fl_X9_23) (fun _ h9 => h9) rfl dX9_firstSight_138 ?_
                      refine va_get (D := G.1) (ci := 5) (v := .int z151) (C := RX5) (T := TX5) (N := 13) hx hb hts inG_X5 hown hK hP 3 rfl rfl 8 (by decide) (hts _ fl_X9_53) (fun _ h9 => h9) rfl dX9_firstSight_141 ?_
                      refine lv_goto (tgt := 148) hx hb dX9_firstSight_144 (by decide) ?_
                      refine va_iast hx hb hK hP hD hS 1 0 rfl rfl (i := ((k_h * 64) + m_i)) (x := z151) (vp_in_iff.mpr ⟨by omega, by omega⟩) dX9_firstSight_148 (fun H locs hP hD hS => ?_)
                      refine g5_rs [(a_go, (arJ G 24 k_go)), (a_mt, (arI G 1536 (upd m_mt ((k_h * 64) + m_i).toNatClampNeg z151))), (a_wk, (oc9 a_h a_k a_go a_mt)), (a_k, (oc5 a_h a_j a_pt z146 z147 z148 z149 z150 z151 z152 z153 z154 z155)), (a_h, (oc1 e_wa e_le e_st e_fo e_lc a_l a_g a_b a_s a_p a_w e_gb a_bb)), (a_g, (oc6 6 5 a_gn e_g)), (a_gn, (arI G 30 f_g)), (a_b, (oc6 5 24 a_bn e_b)), (a_bn, (arI G 120 f_b)), (a_p, (oc6 8 5 a_pn e_p)), (a_pn, (arI G 40 f_p)), (a_bb, (arJ G 24 f_bb)), (a_j, (oc2 a_as a_sk)), (a_as, (arI G 8 z157)), (a_sk, (arJ G 50 z158)), (a_l, (arW G 6 f_l)), (a_lo, (oc3 e_cl a_hd a_sr a_cd)), (a_sr, (arI G n_sr f_sr)), (a_cd, (arI G n_cd f_cd)), (a_hd, (arI G n_hd f_hd)), (a_pt, (arI G 200 z156))] hP hD (fun hP hD => ?_)
                      refine lv_iinc (v := (m_i + 1)) (lv' := [(11, .int (m_i + 1)), (9, .long (m_x ||| ((1 : Int64) <<< (m_i.toInt64 &&& 63)))), (12, .int 1), (7, .int m_t), (5, .long k_x), (8, .int k_h), (0, .ref a_wk), (1, .int p_b), (2, .int p_c), (3, .int p_f), (4, .int p_e)]) hx hb dX9_firstSight_149 hl (k := 3) rfl rfl (by decide) rfl (fun ls hl => ?_)
                      have t_170 : (m_i + 1).toInt = m_i.toInt + 1 := g5_iadd (a := m_i.toInt) (b := 1) rfl (by decide) (by omega) (by omega)
                      refine lv_goto (tgt := 58) hx hb dX9_firstSight_152 (by decide) ?_
                      exact ih_58_122 ((m_x ||| ((1 : Int64) <<< (m_i.toInt64 &&& 63))), m_t, (m_i + 1), z147, z148, z149, z150, z151, z152, z153, z154, z155, z156, z157, z158, z146, (upd m_mt ((k_h * 64) + m_i).toNatClampNeg z151)) ls H locs (show Int.toNat (64 - (m_i + 1).toInt) < Int.toNat (64 - m_i.toInt) from g_up (show m_i.toInt < (m_i + 1).toInt by omega) (show m_i.toInt < 64 by omega)) ⟨lv_sub hl [3, 1, 0, 4, 5, 6, 7, 8, 9, 10] rfl, hP.sub [3, 5, 6, 9, 10, 11, 12, 13, 14, 15, 16, 17, 18, 19, 20, 0, 1, 4, 2, 7, 8] rfl, hD.sub [3, 5, 6, 9, 10, 11, 12, 13, 14, 15, 16, 17, 18, 19, 20, 0, 1, 4, 2, 7, 8] (by decide) rfl, hS, i_119, ⟨by omega, by omega⟩, i_144⟩
theorem dgX9_sightBy_0 : ∀ r ∈ ([(0, (.lconst 1, 1)), (1, (.iload_n 3, 1)), (2, (.lshl, 1)), (3, (.lstore 6, 2)), (5, (.iload 4, 2)), (7, (.istore 8, 2)), (9, (.iload 8, 2)), (11, (.iload 5, 2)), (13, (.if_icmp .ge 93, 3)), (16, (.iconst 0, 1)), (17, (.istore 9, 2)), (19, (.iload 9, 2)), (21, (.bipush 64, 2)), (23, (.if_icmp .ge 69, 3)), (26, (.lload 6, 2)), (28, (.iload 9, 2)), (30, (.invokestatic 43, 3)), (33, (.ifCond .eq 27, 3)), (36, (.aload_n 0, 1)), (37, (.getfield 15, 3)), (40, (.iload 8, 2)), (42, (.bipush 64, 2)), (44, (.imul, 1)), (45, (.iload 9, 2)), (47, (.iadd, 1)), (48, (.iaload, 1)), (49, (.iload_n 1, 1)), (50, (.ishr, 1)), (51, (.iconst 1, 1)), (52, (.iand, 1)), (53, (.ifCond .eq 7, 3)), (56, (.iconst 1, 1)), (57, (.goto 4, 3)), (60, (.iconst 0, 1)), (61, (.istore 10, 2)), (63, (.iload 10, 2)), (65, (.ifCond .eq 21, 3)), (68, (.aload_n 0, 1)), (69, (.getfield 23, 3)), (72, (.iload_n 2, 1))] : List (Nat × (Instr × Nat))), decode cX9_sightBy r.1 = .ok r.2 := by decide +kernel
theorem dX9_sightBy_0 : decode cX9_sightBy 0 = .ok (.lconst 1, 1) := dgX9_sightBy_0 (0, (.lconst 1, 1)) (List.mem_of_getElem? (i := 0) rfl)
theorem dX9_sightBy_1 : decode cX9_sightBy 1 = .ok (.iload_n 3, 1) := dgX9_sightBy_0 (1, (.iload_n 3, 1)) (List.mem_of_getElem? (i := 1) rfl)
theorem dX9_sightBy_2 : decode cX9_sightBy 2 = .ok (.lshl, 1) := dgX9_sightBy_0 (2, (.lshl, 1)) (List.mem_of_getElem? (i := 2) rfl)
theorem dX9_sightBy_3 : decode cX9_sightBy 3 = .ok (.lstore 6, 2) := dgX9_sightBy_0 (3, (.lstore 6, 2)) (List.mem_of_getElem? (i := 3) rfl)
theorem dX9_sightBy_5 : decode cX9_sightBy 5 = .ok (.iload 4, 2) := dgX9_sightBy_0 (5, (.iload 4, 2)) (List.mem_of_getElem? (i := 4) rfl)
theorem dX9_sightBy_7 : decode cX9_sightBy 7 = .ok (.istore 8, 2) := dgX9_sightBy_0 (7, (.istore 8, 2)) (List.mem_of_getElem? (i := 5) rfl)
theorem dX9_sightBy_9 : decode cX9_sightBy 9 = .ok (.iload 8, 2) := dgX9_sightBy_0 (9, (.iload 8, 2)) (List.mem_of_getElem? (i := 6) rfl)
theorem dX9_sightBy_11 : decode cX9_sightBy 11 = .ok (.iload 5, 2) := dgX9_sightBy_0 (11, (.iload 5, 2)) (List.mem_of_getElem? (i := 7) rfl)
theorem dX9_sightBy_13 : decode cX9_sightBy 13 = .ok (.if_icmp .ge 93, 3) := dgX9_sightBy_0 (13, (.if_icmp .ge 93, 3)) (List.mem_of_getElem? (i := 8) rfl)
theorem dX9_sightBy_16 : decode cX9_sightBy 16 = .ok (.iconst 0, 1) := dgX9_sightBy_0 (16, (.iconst 0, 1)) (List.mem_of_getElem? (i := 9) rfl)
theorem dX9_sightBy_17 : decode cX9_sightBy 17 = .ok (.istore 9, 2) := dgX9_sightBy_0 (17, (.istore 9, 2)) (List.mem_of_getElem? (i := 10) rfl)
theorem dX9_sightBy_19 : decode cX9_sightBy 19 = .ok (.iload 9, 2) := dgX9_sightBy_0 (19, (.iload 9, 2)) (List.mem_of_getElem? (i := 11) rfl)
theorem dX9_sightBy_21 : decode cX9_sightBy 21 = .ok (.bipush 64, 2) := dgX9_sightBy_0 (21, (.bipush 64, 2)) (List.mem_of_getElem? (i := 12) rfl)
theorem dX9_sightBy_23 : decode cX9_sightBy 23 = .ok (.if_icmp .ge 69, 3) := dgX9_sightBy_0 (23, (.if_icmp .ge 69, 3)) (List.mem_of_getElem? (i := 13) rfl)
theorem dX9_sightBy_26 : decode cX9_sightBy 26 = .ok (.lload 6, 2) := dgX9_sightBy_0 (26, (.lload 6, 2)) (List.mem_of_getElem? (i := 14) rfl)
theorem dX9_sightBy_28 : decode cX9_sightBy 28 = .ok (.iload 9, 2) := dgX9_sightBy_0 (28, (.iload 9, 2)) (List.mem_of_getElem? (i := 15) rfl)
theorem dX9_sightBy_30 : decode cX9_sightBy 30 = .ok (.invokestatic 43, 3) := dgX9_sightBy_0 (30, (.invokestatic 43, 3)) (List.mem_of_getElem? (i := 16) rfl)
theorem dX9_sightBy_33 : decode cX9_sightBy 33 = .ok (.ifCond .eq 27, 3) := dgX9_sightBy_0 (33, (.ifCond .eq 27, 3)) (List.mem_of_getElem? (i := 17) rfl)
theorem dX9_sightBy_36 : decode cX9_sightBy 36 = .ok (.aload_n 0, 1) := dgX9_sightBy_0 (36, (.aload_n 0, 1)) (List.mem_of_getElem? (i := 18) rfl)
theorem dX9_sightBy_37 : decode cX9_sightBy 37 = .ok (.getfield 15, 3) := dgX9_sightBy_0 (37, (.getfield 15, 3)) (List.mem_of_getElem? (i := 19) rfl)
theorem dX9_sightBy_40 : decode cX9_sightBy 40 = .ok (.iload 8, 2) := dgX9_sightBy_0 (40, (.iload 8, 2)) (List.mem_of_getElem? (i := 20) rfl)
theorem dX9_sightBy_42 : decode cX9_sightBy 42 = .ok (.bipush 64, 2) := dgX9_sightBy_0 (42, (.bipush 64, 2)) (List.mem_of_getElem? (i := 21) rfl)
theorem dX9_sightBy_44 : decode cX9_sightBy 44 = .ok (.imul, 1) := dgX9_sightBy_0 (44, (.imul, 1)) (List.mem_of_getElem? (i := 22) rfl)
theorem dX9_sightBy_45 : decode cX9_sightBy 45 = .ok (.iload 9, 2) := dgX9_sightBy_0 (45, (.iload 9, 2)) (List.mem_of_getElem? (i := 23) rfl)
theorem dX9_sightBy_47 : decode cX9_sightBy 47 = .ok (.iadd, 1) := dgX9_sightBy_0 (47, (.iadd, 1)) (List.mem_of_getElem? (i := 24) rfl)
theorem dX9_sightBy_48 : decode cX9_sightBy 48 = .ok (.iaload, 1) := dgX9_sightBy_0 (48, (.iaload, 1)) (List.mem_of_getElem? (i := 25) rfl)
theorem dX9_sightBy_49 : decode cX9_sightBy 49 = .ok (.iload_n 1, 1) := dgX9_sightBy_0 (49, (.iload_n 1, 1)) (List.mem_of_getElem? (i := 26) rfl)
theorem dX9_sightBy_50 : decode cX9_sightBy 50 = .ok (.ishr, 1) := dgX9_sightBy_0 (50, (.ishr, 1)) (List.mem_of_getElem? (i := 27) rfl)
theorem dX9_sightBy_51 : decode cX9_sightBy 51 = .ok (.iconst 1, 1) := dgX9_sightBy_0 (51, (.iconst 1, 1)) (List.mem_of_getElem? (i := 28) rfl)
theorem dX9_sightBy_52 : decode cX9_sightBy 52 = .ok (.iand, 1) := dgX9_sightBy_0 (52, (.iand, 1)) (List.mem_of_getElem? (i := 29) rfl)
theorem dX9_sightBy_53 : decode cX9_sightBy 53 = .ok (.ifCond .eq 7, 3) := dgX9_sightBy_0 (53, (.ifCond .eq 7, 3)) (List.mem_of_getElem? (i := 30) rfl)
theorem dX9_sightBy_56 : decode cX9_sightBy 56 = .ok (.iconst 1, 1) := dgX9_sightBy_0 (56, (.iconst 1, 1)) (List.mem_of_getElem? (i := 31) rfl)
theorem dX9_sightBy_57 : decode cX9_sightBy 57 = .ok (.goto 4, 3) := dgX9_sightBy_0 (57, (.goto 4, 3)) (List.mem_of_getElem? (i := 32) rfl)
theorem dX9_sightBy_60 : decode cX9_sightBy 60 = .ok (.iconst 0, 1) := dgX9_sightBy_0 (60, (.iconst 0, 1)) (List.mem_of_getElem? (i := 33) rfl)
theorem dX9_sightBy_61 : decode cX9_sightBy 61 = .ok (.istore 10, 2) := dgX9_sightBy_0 (61, (.istore 10, 2)) (List.mem_of_getElem? (i := 34) rfl)
theorem dX9_sightBy_63 : decode cX9_sightBy 63 = .ok (.iload 10, 2) := dgX9_sightBy_0 (63, (.iload 10, 2)) (List.mem_of_getElem? (i := 35) rfl)
theorem dX9_sightBy_65 : decode cX9_sightBy 65 = .ok (.ifCond .eq 21, 3) := dgX9_sightBy_0 (65, (.ifCond .eq 21, 3)) (List.mem_of_getElem? (i := 36) rfl)
theorem dX9_sightBy_68 : decode cX9_sightBy 68 = .ok (.aload_n 0, 1) := dgX9_sightBy_0 (68, (.aload_n 0, 1)) (List.mem_of_getElem? (i := 37) rfl)
theorem dX9_sightBy_69 : decode cX9_sightBy 69 = .ok (.getfield 23, 3) := dgX9_sightBy_0 (69, (.getfield 23, 3)) (List.mem_of_getElem? (i := 38) rfl)
theorem dX9_sightBy_72 : decode cX9_sightBy 72 = .ok (.iload_n 2, 1) := dgX9_sightBy_0 (72, (.iload_n 2, 1)) (List.mem_of_getElem? (i := 39) rfl)
theorem dgX9_sightBy_1 : ∀ r ∈ ([(73, (.iload 9, 2)), (75, (.iload 8, 2)), (77, (.invokevirtual 47, 3)), (80, (.ifCond .eq 6, 3)), (83, (.iload 8, 2)), (85, (.ireturn, 1)), (86, (.iinc 9 1, 3)), (89, (.goto (-70), 3)), (92, (.aload_n 0, 1)), (93, (.lload 6, 2)), (95, (.invokevirtual 56, 3)), (98, (.lstore 6, 2)), (100, (.iinc 8 1, 3)), (103, (.goto (-94), 3)), (106, (.iconst (-1), 1)), (107, (.ireturn, 1))] : List (Nat × (Instr × Nat))), decode cX9_sightBy r.1 = .ok r.2 := by decide +kernel
theorem dX9_sightBy_73 : decode cX9_sightBy 73 = .ok (.iload 9, 2) := dgX9_sightBy_1 (73, (.iload 9, 2)) (List.mem_of_getElem? (i := 0) rfl)
theorem dX9_sightBy_75 : decode cX9_sightBy 75 = .ok (.iload 8, 2) := dgX9_sightBy_1 (75, (.iload 8, 2)) (List.mem_of_getElem? (i := 1) rfl)
theorem dX9_sightBy_77 : decode cX9_sightBy 77 = .ok (.invokevirtual 47, 3) := dgX9_sightBy_1 (77, (.invokevirtual 47, 3)) (List.mem_of_getElem? (i := 2) rfl)
theorem dX9_sightBy_80 : decode cX9_sightBy 80 = .ok (.ifCond .eq 6, 3) := dgX9_sightBy_1 (80, (.ifCond .eq 6, 3)) (List.mem_of_getElem? (i := 3) rfl)
theorem dX9_sightBy_83 : decode cX9_sightBy 83 = .ok (.iload 8, 2) := dgX9_sightBy_1 (83, (.iload 8, 2)) (List.mem_of_getElem? (i := 4) rfl)
theorem dX9_sightBy_85 : decode cX9_sightBy 85 = .ok (.ireturn, 1) := dgX9_sightBy_1 (85, (.ireturn, 1)) (List.mem_of_getElem? (i := 5) rfl)
theorem dX9_sightBy_86 : decode cX9_sightBy 86 = .ok (.iinc 9 1, 3) := dgX9_sightBy_1 (86, (.iinc 9 1, 3)) (List.mem_of_getElem? (i := 6) rfl)
theorem dX9_sightBy_89 : decode cX9_sightBy 89 = .ok (.goto (-70), 3) := dgX9_sightBy_1 (89, (.goto (-70), 3)) (List.mem_of_getElem? (i := 7) rfl)
theorem dX9_sightBy_92 : decode cX9_sightBy 92 = .ok (.aload_n 0, 1) := dgX9_sightBy_1 (92, (.aload_n 0, 1)) (List.mem_of_getElem? (i := 8) rfl)
theorem dX9_sightBy_93 : decode cX9_sightBy 93 = .ok (.lload 6, 2) := dgX9_sightBy_1 (93, (.lload 6, 2)) (List.mem_of_getElem? (i := 9) rfl)
theorem dX9_sightBy_95 : decode cX9_sightBy 95 = .ok (.invokevirtual 56, 3) := dgX9_sightBy_1 (95, (.invokevirtual 56, 3)) (List.mem_of_getElem? (i := 10) rfl)
theorem dX9_sightBy_98 : decode cX9_sightBy 98 = .ok (.lstore 6, 2) := dgX9_sightBy_1 (98, (.lstore 6, 2)) (List.mem_of_getElem? (i := 11) rfl)
theorem dX9_sightBy_100 : decode cX9_sightBy 100 = .ok (.iinc 8 1, 3) := dgX9_sightBy_1 (100, (.iinc 8 1, 3)) (List.mem_of_getElem? (i := 12) rfl)
theorem dX9_sightBy_103 : decode cX9_sightBy 103 = .ok (.goto (-94), 3) := dgX9_sightBy_1 (103, (.goto (-94), 3)) (List.mem_of_getElem? (i := 13) rfl)
theorem dX9_sightBy_106 : decode cX9_sightBy 106 = .ok (.iconst (-1), 1) := dgX9_sightBy_1 (106, (.iconst (-1), 1)) (List.mem_of_getElem? (i := 14) rfl)
theorem dX9_sightBy_107 : decode cX9_sightBy 107 = .ok (.ireturn, 1) := dgX9_sightBy_1 (107, (.ireturn, 1)) (List.mem_of_getElem? (i := 15) rfl)
set_option maxHeartbeats 4000000 in
set_option maxRecDepth 100000 in
theorem a_byN (l : Launch) (G : g5_G) (a_k a_h a_g a_gn a_b a_bn a_p a_pn a_bb a_j a_as a_sk a_l a_pt a_wk a_go a_mt a_s a_w : Nat) (sz : Nat) (e_le : Int32) (e_st : Int32) (e_fo : Int32) (e_lc : Int32) (e_g : Int32) (e_b : Int32) (e_p : Int32) (e_ln : Int32) (e_se : Int32) (e_lh : Int32) (e_br : Int32) (e_we : Int32) (e_me : Int32) (e_ce : Int32) (e_wy : Int32) (e_ho : Int32) (e_ov : Int32) (p_g : Int32) (p_b : Int32) (p_c : Int32) (p_f : Int32) (p_e : Int32) (e_wa : Int64) (e_gb : Int64) (f_g : Nat → Int32) (f_b : Nat → Int32) (f_p : Nat → Int32) (f_bb : Nat → Int64) (f_as : Nat → Int32) (f_sk : Nat → Int64) (f_l : Nat → Option Nat) (f_pt : Nat → Int32) (f_go : Nat → Int64) (f_mt : Nat → Int32) (h_e_g : 0 ≤ e_g.toInt ∧ e_g.toInt ≤ 6) (h_e_b : 0 ≤ e_b.toInt ∧ e_b.toInt ≤ 5) (h_e_p : 0 ≤ e_p.toInt ∧ e_p.toInt ≤ 8) (h_e_ov : 0 ≤ e_ov.toInt ∧ e_ov.toInt ≤ 1) (h_p_c : 0 ≤ p_c.toInt ∧ p_c.toInt ≤ 63) (h_p_f : 0 ≤ p_f.toInt ∧ p_f.toInt ≤ 23) (h_p_e : 0 ≤ p_e.toInt ∧ p_e.toInt ≤ 24) (e_gk : gOK f_g e_g.toInt) (e_pk : gOK f_p e_p.toInt) (e_gi : inT e_gb f_g e_g.toInt) (e_f : e_fo.toInt < 0 ∨ e_lc.toInt ≤ e_fo.toInt) : Met l yX9_sightBy (wsG yX9_sightBy cX9_sightBy 11 (some .int)) ({ frames := 15, cells := 0, slots := 0, locals := 580 }) (va_Pc [.ref a_wk, .int p_g, .int p_b, .int p_c, .int p_f, .int p_e] (g5_P G [(a_k, (oc5 a_h a_j a_pt e_ln e_se e_lh e_br e_we e_me e_ce e_wy e_ho e_ov)), (a_h, (oc1 e_wa e_le e_st e_fo e_lc a_l a_g a_b a_s a_p a_w e_gb a_bb)), (a_g, (oc6 6 5 a_gn e_g)), (a_gn, (arI G 30 f_g)), (a_b, (oc6 5 24 a_bn e_b)), (a_bn, (arI G 120 f_b)), (a_p, (oc6 8 5 a_pn e_p)), (a_pn, (arI G 40 f_p)), (a_bb, (arJ G 24 f_bb)), (a_j, (oc2 a_as a_sk)), (a_as, (arI G 8 f_as)), (a_sk, (arJ G 50 f_sk)), (a_l, (arW G 6 f_l)), (a_pt, (arI G 200 f_pt)), (a_wk, (oc9 a_h a_k a_go a_mt)), (a_go, (arJ G 24 f_go)), (a_mt, (arI G 1536 f_mt))] sz)) (va_Qi (fun (r : Int32) (u : va_W) => (∃ (o_r : Int32) (o_ln : Int32) (o_se : Int32) (o_lh : Int32) (o_br : Int32) (o_we : Int32) (o_me : Int32) (o_ce : Int32) (o_wy : Int32) (o_ho : Int32) (o_ov : Int32) (o_pt : Nat → Int32) (o_as : Nat → Int32) (o_sk : Nat → Int64), (0 ≤ o_ov.toInt ∧ o_ov.toInt ≤ 1) ∧ (-1 ≤ o_r.toInt ∧ o_r.toInt ≤ 23) ∧ (o_r.toInt = -1 ∨ (p_f.toInt ≤ o_r.toInt ∧ o_r.toInt < p_e.toInt)) ∧ (r = o_r) ∧ (u = [(a_k, (oc5 a_h a_j a_pt o_ln o_se o_lh o_br o_we o_me o_ce o_wy o_ho o_ov)), (a_h, (oc1 e_wa e_le e_st e_fo e_lc a_l a_g a_b a_s a_p a_w e_gb a_bb)), (a_g, (oc6 6 5 a_gn e_g)), (a_gn, (arI G 30 f_g)), (a_b, (oc6 5 24 a_bn e_b)), (a_bn, (arI G 120 f_b)), (a_p, (oc6 8 5 a_pn e_p)), (a_pn, (arI G 40 f_p)), (a_bb, (arJ G 24 f_bb)), (a_j, (oc2 a_as a_sk)), (a_as, (arI G 8 o_as)), (a_sk, (arJ G 50 o_sk)), (a_l, (arW G 6 f_l)), (a_pt, (arI G 200 o_pt)), (a_wk, (oc9 a_h a_k a_go a_mt)), (a_go, (arJ G 24 f_go)), (a_mt, (arI G 1536 f_mt))]))) (g5_B G (va_A [(a_k, (oc5 a_h a_j a_pt e_ln e_se e_lh e_br e_we e_me e_ce e_wy e_ho e_ov)), (a_h, (oc1 e_wa e_le e_st e_fo e_lc a_l a_g a_b a_s a_p a_w e_gb a_bb)), (a_g, (oc6 6 5 a_gn e_g)), (a_gn, (arI G 30 f_g)), (a_b, (oc6 5 24 a_bn e_b)), (a_bn, (arI G 120 f_b)), (a_p, (oc6 8 5 a_pn e_p)), (a_pn, (arI G 40 f_p)), (a_bb, (arJ G 24 f_bb)), (a_j, (oc2 a_as a_sk)), (a_as, (arI G 8 f_as)), (a_sk, (arJ G 50 f_sk)), (a_l, (arW G 6 f_l)), (a_pt, (arI G 200 f_pt)), (a_wk, (oc9 a_h a_k a_go a_mt)), (a_go, (arJ G 24 f_go)), (a_mt, (arI G 1536 f_mt))] sz)) (va_A [(a_k, (oc5 a_h a_j a_pt e_ln e_se e_lh e_br e_we e_me e_ce e_wy e_ho e_ov)), (a_h, (oc1 e_wa e_le e_st e_fo e_lc a_l a_g a_b a_s a_p a_w e_gb a_bb)), (a_g, (oc6 6 5 a_gn e_g)), (a_gn, (arI G 30 f_g)), (a_b, (oc6 5 24 a_bn e_b)), (a_bn, (arI G 120 f_b)), (a_p, (oc6 8 5 a_pn e_p)), (a_pn, (arI G 40 f_p)), (a_bb, (arJ G 24 f_bb)), (a_j, (oc2 a_as a_sk)), (a_as, (arI G 8 f_as)), (a_sk, (arJ G 50 f_sk)), (a_l, (arW G 6 f_l)), (a_pt, (arI G 200 f_pt)), (a_wk, (oc9 a_h a_k a_go a_mt)), (a_go, (arJ G 24 f_go)), (a_mt, (arI G 1536 f_mt))] sz)) 0 0 (va_A [(a_k, (oc5 a_h a_j a_pt e_ln e_se e_lh e_br e_we e_me e_ce e_wy e_ho e_ov)), (a_h, (oc1 e_wa e_le e_st e_fo e_lc a_l a_g a_b a_s a_p a_w e_gb a_bb)), (a_g, (oc6 6 5 a_gn e_g)), (a_gn, (arI G 30 f_g)), (a_b, (oc6 5 24 a_bn e_b)), (a_bn, (arI G 120 f_b)), (a_p, (oc6 8 5 a_pn e_p)), (a_pn, (arI G 40 f_p)), (a_bb, (arJ G 24 f_bb)), (a_j, (oc2 a_as a_sk)), (a_as, (arI G 8 f_as)), (a_sk, (arJ G 50 f_sk)), (a_l, (arW G 6 f_l)), (a_pt, (arI G 200 f_pt)), (a_wk, (oc9 a_h a_k a_go a_mt)), (a_go, (arJ G 24 f_go)), (a_mt, (arI G 1536 f_mt))] sz) := by
  refine Met.ofW (cc := cX9_sightBy) (maxL := 11) (ret := (some .int)) (by decide) rfl ?_
  intro p e s m args below meth c s₁ B hml hv
  obtain ⟨rfl, hsz, hP, hK, hD0, hN, hT⟩ := hv
  have hx := B.exec
  have hb := B.bytes
  have hr := B.returns
  have hts : ∀ w ∈ tblG, w.before _ s = true := fun w h => atoms_spec (ws := (wsG yX9_sightBy cX9_sightBy 11 (some .int))) B.pre w (List.mem_cons_of_mem _ h)
  have hown : s.vm.findClass RX9 = some m.cls := findClass_of_methodNamed B.named
  have hlocks := B.notSynchronized
  subst hsz
  have hD := hD0.self (sz := s.heap.size)
  generalize hAe : va_A [(a_k, (oc5 a_h a_j a_pt e_ln e_se e_lh e_br e_we e_me e_ce e_wy e_ho e_ov)), (a_h, (oc1 e_wa e_le e_st e_fo e_lc a_l a_g a_b a_s a_p a_w e_gb a_bb)), (a_g, (oc6 6 5 a_gn e_g)), (a_gn, (arI G 30 f_g)), (a_b, (oc6 5 24 a_bn e_b)), (a_bn, (arI G 120 f_b)), (a_p, (oc6 8 5 a_pn e_p)), (a_pn, (arI G 40 f_p)), (a_bb, (arJ G 24 f_bb)), (a_j, (oc2 a_as a_sk)), (a_as, (arI G 8 f_as)), (a_sk, (arJ G 50 f_sk)), (a_l, (arW G 6 f_l)), (a_pt, (arI G 200 f_pt)), (a_wk, (oc9 a_h a_k a_go a_mt)), (a_go, (arJ G 24 f_go)), (a_mt, (arI G 1536 f_mt))] s.heap.size = A at hD hT ⊢
  have hA : ∀ q : Nat, s.heap.size ≤ q → A q := fun q h => by rw [← hAe]; exact Or.inr h
  have hS : va_S A s.heap s.heap [] := va_S.rf
  have hP : va_P G.1 vwCl [(a_k, (oc5 a_h a_j a_pt e_ln e_se e_lh e_br e_we e_me e_ce e_wy e_ho e_ov)), (a_h, (oc1 e_wa e_le e_st e_fo e_lc a_l a_g a_b a_s a_p a_w e_gb a_bb)), (a_g, (oc6 6 5 a_gn e_g)), (a_gn, (arI G 30 f_g)), (a_b, (oc6 5 24 a_bn e_b)), (a_bn, (arI G 120 f_b)), (a_p, (oc6 8 5 a_pn e_p)), (a_pn, (arI G 40 f_p)), (a_bb, (arJ G 24 f_bb)), (a_j, (oc2 a_as a_sk)), (a_as, (arI G 8 f_as)), (a_sk, (arJ G 50 f_sk)), (a_l, (arW G 6 f_l)), (a_pt, (arI G 200 f_pt)), (a_wk, (oc9 a_h a_k a_go a_mt)), (a_go, (arJ G 24 f_go)), (a_mt, (arI G 1536 f_mt))] s.heap := hP
  have hl := lv_entry ([.ref a_wk, .int p_g, .int p_b, .int p_c, .int p_f, .int p_e]) (n := 11) (Nat.le_of_ble_eq_true rfl)
  rw [lg_entry_eq]
  generalize (lg_sl ([.ref a_wk, .int p_g, .int p_b, .int p_c, .int p_f, .int p_e]) ++ List.replicate (11 - (lg_sl ([.ref a_wk, .int p_g, .int p_b, .int p_c, .int p_f, .int p_e])).length) Slot.unset).toArray = ls at hl ⊢
  have hl : lv_has ls 11 [(0, .ref a_wk), (1, .int p_g), (2, .int p_b), (3, .int p_c), (4, .int p_f), (5, .int p_e)] := hl
  refine lv_lconst (v := 1) hx hb dX9_sightBy_0 (by decide) ?_
  refine lv_iload_n hx hb dX9_sightBy_1 rfl (lv_at hl 3 rfl) ?_
  refine lv_lshl (v := ((1 : Int64) <<< (p_c.toInt64 &&& 63))) hx hb dX9_sightBy_2 rfl ?_
  refine lv_lstore (lv' := [(6, .long ((1 : Int64) <<< (p_c.toInt64 &&& 63))), (0, .ref a_wk), (1, .int p_g), (2, .int p_b), (3, .int p_c), (4, .int p_f), (5, .int p_e)]) hx hb dX9_sightBy_3 hl (by decide) rfl (fun ls hl => ?_)
  refine lv_iload hx hb dX9_sightBy_5 (lv_at hl 5 rfl) ?_
  refine lv_istore (lv' := [(8, .int p_f), (6, .long ((1 : Int64) <<< (p_c.toInt64 &&& 63))), (0, .ref a_wk), (1, .int p_g), (2, .int p_b), (3, .int p_c), (4, .int p_f), (5, .int p_e)]) hx hb dX9_sightBy_7 hl (by decide) rfl (fun ls hl => ?_)
  refine g5_loop (α := (Int64) × (Int32) × (Int32) × (Int32) × (Int32) × (Int32) × (Int32) × (Int32) × (Int32) × (Int32) × (Int32) × (Nat → Int32) × (Nat → Int32) × (Nat → Int64) × (Int32)) (fun (q : (Int64) × (Int32) × (Int32) × (Int32) × (Int32) × (Int32) × (Int32) × (Int32) × (Int32) × (Int32) × (Int32) × (Nat → Int32) × (Nat → Int32) × (Nat → Int64) × (Int32)) (ls : Array Slot) (H : Heap) (locs : List Loc) => match q with | (k_x, k_h, k_se, k_lh, k_br, k_we, k_me, k_ce, k_wy, k_ho, k_ov, k_pt, k_as, k_sk, k_ln) => lv_has ls 11 [(6, .long k_x), (8, .int k_h), (0, .ref a_wk), (1, .int p_g), (2, .int p_b), (3, .int p_c), (4, .int p_f), (5, .int p_e)] ∧ va_P G.1 vwCl [(a_k, (oc5 a_h a_j a_pt k_ln k_se k_lh k_br k_we k_me k_ce k_wy k_ho k_ov)), (a_h, (oc1 e_wa e_le e_st e_fo e_lc a_l a_g a_b a_s a_p a_w e_gb a_bb)), (a_g, (oc6 6 5 a_gn e_g)), (a_gn, (arI G 30 f_g)), (a_b, (oc6 5 24 a_bn e_b)), (a_bn, (arI G 120 f_b)), (a_p, (oc6 8 5 a_pn e_p)), (a_pn, (arI G 40 f_p)), (a_bb, (arJ G 24 f_bb)), (a_j, (oc2 a_as a_sk)), (a_as, (arI G 8 k_as)), (a_sk, (arJ G 50 k_sk)), (a_l, (arW G 6 f_l)), (a_pt, (arI G 200 k_pt)), (a_wk, (oc9 a_h a_k a_go a_mt)), (a_go, (arJ G 24 f_go)), (a_mt, (arI G 1536 f_mt))] H ∧ va_D A [(a_k, (oc5 a_h a_j a_pt k_ln k_se k_lh k_br k_we k_me k_ce k_wy k_ho k_ov)), (a_h, (oc1 e_wa e_le e_st e_fo e_lc a_l a_g a_b a_s a_p a_w e_gb a_bb)), (a_g, (oc6 6 5 a_gn e_g)), (a_gn, (arI G 30 f_g)), (a_b, (oc6 5 24 a_bn e_b)), (a_bn, (arI G 120 f_b)), (a_p, (oc6 8 5 a_pn e_p)), (a_pn, (arI G 40 f_p)), (a_bb, (arJ G 24 f_bb)), (a_j, (oc2 a_as a_sk)), (a_as, (arI G 8 k_as)), (a_sk, (arJ G 50 k_sk)), (a_l, (arW G 6 f_l)), (a_pt, (arI G 200 k_pt)), (a_wk, (oc9 a_h a_k a_go a_mt)), (a_go, (arJ G 24 f_go)), (a_mt, (arI G 1536 f_mt))] ∧ va_S A s.heap H locs ∧ (0 ≤ k_h.toInt ∧ k_h.toInt ≤ 24) ∧ (0 ≤ k_ov.toInt ∧ k_ov.toInt ≤ 1) ∧ (p_f.toInt ≤ k_h.toInt)) (fun (q : (Int64) × (Int32) × (Int32) × (Int32) × (Int32) × (Int32) × (Int32) × (Int32) × (Int32) × (Int32) × (Int32) × (Nat → Int32) × (Nat → Int32) × (Nat → Int64) × (Int32)) => match q with | (k_x, k_h, k_se, k_lh, k_br, k_we, k_me, k_ce, k_wy, k_ho, k_ov, k_pt, k_as, k_sk, k_ln) => Int.toNat (24 - k_h.toInt)) (((1 : Int64) <<< (p_c.toInt64 &&& 63)), p_f, e_se, e_lh, e_br, e_we, e_me, e_ce, e_wy, e_ho, e_ov, f_pt, f_as, f_sk, e_ln) ⟨lv_sub hl [1, 0, 2, 3, 4, 5, 6, 7] rfl, hP, hD, hS, ⟨by omega, by omega⟩, h_e_ov, by omega⟩ ?_
  rintro ⟨k_x, k_h, k_se, k_lh, k_br, k_we, k_me, k_ce, k_wy, k_ho, k_ov, k_pt, k_as, k_sk, k_ln⟩ ls H locs ⟨hl, hP, hD, hS, i_1, i_2, i_3⟩ ih_9_4
  have hl : lv_has ls 11 [(6, .long k_x), (8, .int k_h), (0, .ref a_wk), (1, .int p_g), (2, .int p_b), (3, .int p_c), (4, .int p_f), (5, .int p_e)] := hl
  have i_1 : 0 ≤ k_h.toInt ∧ k_h.toInt ≤ 24 := i_1
  have i_2 : 0 ≤ k_ov.toInt ∧ k_ov.toInt ≤ 1 := i_2
  have i_3 : p_f.toInt ≤ k_h.toInt := i_3
  refine g5_rs [(a_k, (oc5 a_h a_j a_pt k_ln k_se k_lh k_br k_we k_me k_ce k_wy k_ho k_ov)), (a_h, (oc1 e_wa e_le e_st e_fo e_lc a_l a_g a_b a_s a_p a_w e_gb a_bb)), (a_g, (oc6 6 5 a_gn e_g)), (a_gn, (arI G 30 f_g)), (a_b, (oc6 5 24 a_bn e_b)), (a_bn, (arI G 120 f_b)), (a_p, (oc6 8 5 a_pn e_p)), (a_pn, (arI G 40 f_p)), (a_bb, (arJ G 24 f_bb)), (a_j, (oc2 a_as a_sk)), (a_as, (arI G 8 k_as)), (a_sk, (arJ G 50 k_sk)), (a_l, (arW G 6 f_l)), (a_pt, (arI G 200 k_pt)), (a_wk, (oc9 a_h a_k a_go a_mt)), (a_go, (arJ G 24 f_go)), (a_mt, (arI G 1536 f_mt))] hP hD (fun hP hD => ?_)
  refine lv_iload hx hb dX9_sightBy_9 (lv_at hl 1 rfl) ?_
  refine lv_iload hx hb dX9_sightBy_11 (lv_at hl 7 rfl) ?_
  refine lv_icmp_ge (tgt := 106) hx hb dX9_sightBy_13 (by decide) (fun c_5 => ?_) (fun c_5 => ?_)
  ·
    have i_5 : k_h.toInt ≥ p_e.toInt := by have z := g5_ge (a := k_h.toInt) (b := p_e.toInt) (by rfl) (by rfl) c_5; omega
    refine lv_iconst (v := (-1)) hx hb dX9_sightBy_106 (by decide) ?_
    exact W.iret (v := (-1)) hx hb hr (fun t ht hW => ⟨⟨(-1), [(a_k, (oc5 a_h a_j a_pt k_ln k_se k_lh k_br k_we k_me k_ce k_wy k_ho k_ov)), (a_h, (oc1 e_wa e_le e_st e_fo e_lc a_l a_g a_b a_s a_p a_w e_gb a_bb)), (a_g, (oc6 6 5 a_gn e_g)), (a_gn, (arI G 30 f_g)), (a_b, (oc6 5 24 a_bn e_b)), (a_bn, (arI G 120 f_b)), (a_p, (oc6 8 5 a_pn e_p)), (a_pn, (arI G 40 f_p)), (a_bb, (arJ G 24 f_bb)), (a_j, (oc2 a_as a_sk)), (a_as, (arI G 8 k_as)), (a_sk, (arJ G 50 k_sk)), (a_l, (arW G 6 f_l)), (a_pt, (arI G 200 k_pt)), (a_wk, (oc9 a_h a_k a_go a_mt)), (a_go, (arJ G 24 f_go)), (a_mt, (arI G 1536 f_mt))], rfl, ⟨(-1), k_ln, k_se, k_lh, k_br, k_we, k_me, k_ce, k_wy, k_ho, k_ov, k_pt, k_as, k_sk, i_2, ⟨by have zc_o_r : ((-1) : Int32).toInt = (-1) := (by decide); omega, by have zc_o_r : ((-1) : Int32).toInt = (-1) := (by decide); omega⟩, Or.inl (by decide), rfl, rfl⟩, by rw [ht]; exact hP.sub [0, 1, 2, 3, 4, 5, 6, 7, 8, 9, 10, 11, 12, 13, 14, 15, 16] rfl, hD.sub [0, 1, 2, 3, 4, 5, 6, 7, 8, 9, 10, 11, 12, 13, 14, 15, 16] (by decide) rfl⟩, hS.F ht⟩) hS.2.2 dX9_sightBy_107
  ·
    have i_5 : k_h.toInt < p_e.toInt := by have z := g5_geN (a := k_h.toInt) (b := p_e.toInt) (by rfl) (by rfl) c_5; omega
    refine lv_iconst (v := 0) hx hb dX9_sightBy_16 (by decide) ?_
    refine lv_istore (lv' := [(9, .int 0), (6, .long k_x), (8, .int k_h), (0, .ref a_wk), (1, .int p_g), (2, .int p_b), (3, .int p_c), (4, .int p_f), (5, .int p_e)]) hx hb dX9_sightBy_17 hl (by decide) rfl (fun ls hl => ?_)
    refine g5_loop (α := (Int32) × (Int32) × (Int32) × (Int32) × (Int32) × (Int32) × (Int32) × (Int32) × (Int32) × (Int32) × (Nat → Int32) × (Nat → Int32) × (Nat → Int64) × (Int32)) (fun (q : (Int32) × (Int32) × (Int32) × (Int32) × (Int32) × (Int32) × (Int32) × (Int32) × (Int32) × (Int32) × (Nat → Int32) × (Nat → Int32) × (Nat → Int64) × (Int32)) (ls : Array Slot) (H : Heap) (locs : List Loc) => match q with | (m_i, m_se, m_lh, m_br, m_we, m_me, m_ce, m_wy, m_ho, m_ov, m_pt, m_as, m_sk, m_ln) => lv_has ls 11 [(9, .int m_i), (6, .long k_x), (8, .int k_h), (0, .ref a_wk), (1, .int p_g), (2, .int p_b), (3, .int p_c), (4, .int p_f), (5, .int p_e)] ∧ va_P G.1 vwCl [(a_k, (oc5 a_h a_j a_pt m_ln m_se m_lh m_br m_we m_me m_ce m_wy m_ho m_ov)), (a_h, (oc1 e_wa e_le e_st e_fo e_lc a_l a_g a_b a_s a_p a_w e_gb a_bb)), (a_g, (oc6 6 5 a_gn e_g)), (a_gn, (arI G 30 f_g)), (a_b, (oc6 5 24 a_bn e_b)), (a_bn, (arI G 120 f_b)), (a_p, (oc6 8 5 a_pn e_p)), (a_pn, (arI G 40 f_p)), (a_bb, (arJ G 24 f_bb)), (a_j, (oc2 a_as a_sk)), (a_as, (arI G 8 m_as)), (a_sk, (arJ G 50 m_sk)), (a_l, (arW G 6 f_l)), (a_pt, (arI G 200 m_pt)), (a_wk, (oc9 a_h a_k a_go a_mt)), (a_go, (arJ G 24 f_go)), (a_mt, (arI G 1536 f_mt))] H ∧ va_D A [(a_k, (oc5 a_h a_j a_pt m_ln m_se m_lh m_br m_we m_me m_ce m_wy m_ho m_ov)), (a_h, (oc1 e_wa e_le e_st e_fo e_lc a_l a_g a_b a_s a_p a_w e_gb a_bb)), (a_g, (oc6 6 5 a_gn e_g)), (a_gn, (arI G 30 f_g)), (a_b, (oc6 5 24 a_bn e_b)), (a_bn, (arI G 120 f_b)), (a_p, (oc6 8 5 a_pn e_p)), (a_pn, (arI G 40 f_p)), (a_bb, (arJ G 24 f_bb)), (a_j, (oc2 a_as a_sk)), (a_as, (arI G 8 m_as)), (a_sk, (arJ G 50 m_sk)), (a_l, (arW G 6 f_l)), (a_pt, (arI G 200 m_pt)), (a_wk, (oc9 a_h a_k a_go a_mt)), (a_go, (arJ G 24 f_go)), (a_mt, (arI G 1536 f_mt))] ∧ va_S A s.heap H locs ∧ (0 ≤ m_i.toInt ∧ m_i.toInt ≤ 64) ∧ (0 ≤ m_ov.toInt ∧ m_ov.toInt ≤ 1)) (fun (q : (Int32) × (Int32) × (Int32) × (Int32) × (Int32) × (Int32) × (Int32) × (Int32) × (Int32) × (Int32) × (Nat → Int32) × (Nat → Int32) × (Nat → Int64) × (Int32)) => match q with | (m_i, m_se, m_lh, m_br, m_we, m_me, m_ce, m_wy, m_ho, m_ov, m_pt, m_as, m_sk, m_ln) => Int.toNat (64 - m_i.toInt)) (0, k_se, k_lh, k_br, k_we, k_me, k_ce, k_wy, k_ho, k_ov, k_pt, k_as, k_sk, k_ln) ⟨lv_sub hl [0, 1, 2, 3, 4, 5, 6, 7, 8] rfl, hP, hD, hS, ⟨by decide, by decide⟩, i_2⟩ ?_
    rintro ⟨m_i, m_se, m_lh, m_br, m_we, m_me, m_ce, m_wy, m_ho, m_ov, m_pt, m_as, m_sk, m_ln⟩ ls H locs ⟨hl, hP, hD, hS, i_6, i_7⟩ ih_19_8
    have hl : lv_has ls 11 [(9, .int m_i), (6, .long k_x), (8, .int k_h), (0, .ref a_wk), (1, .int p_g), (2, .int p_b), (3, .int p_c), (4, .int p_f), (5, .int p_e)] := hl
    have i_6 : 0 ≤ m_i.toInt ∧ m_i.toInt ≤ 64 := i_6
    have i_7 : 0 ≤ m_ov.toInt ∧ m_ov.toInt ≤ 1 := i_7
    refine g5_rs [(a_k, (oc5 a_h a_j a_pt m_ln m_se m_lh m_br m_we m_me m_ce m_wy m_ho m_ov)), (a_h, (oc1 e_wa e_le e_st e_fo e_lc a_l a_g a_b a_s a_p a_w e_gb a_bb)), (a_g, (oc6 6 5 a_gn e_g)), (a_gn, (arI G 30 f_g)), (a_b, (oc6 5 24 a_bn e_b)), (a_bn, (arI G 120 f_b)), (a_p, (oc6 8 5 a_pn e_p)), (a_pn, (arI G 40 f_p)), (a_bb, (arJ G 24 f_bb)), (a_j, (oc2 a_as a_sk)), (a_as, (arI G 8 m_as)), (a_sk, (arJ G 50 m_sk)), (a_l, (arW G 6 f_l)), (a_pt, (arI G 200 m_pt)), (a_wk, (oc9 a_h a_k a_go a_mt)), (a_go, (arJ G 24 f_go)), (a_mt, (arI G 1536 f_mt))] hP hD (fun hP hD => ?_)
    refine lv_iload hx hb dX9_sightBy_19 (lv_at hl 0 rfl) ?_
    refine lv_bipush (v := 64) hx hb dX9_sightBy_21 (by decide) ?_
    refine lv_icmp_ge (tgt := 92) hx hb dX9_sightBy_23 (by decide) (fun c_9 => ?_) (fun c_9 => ?_)
    ·
      have i_9 : m_i.toInt ≥ 64 := by have z := g5_ge (a := m_i.toInt) (b := 64) (by rfl) (by decide) c_9; omega
      refine lv_aload_n hx hb dX9_sightBy_92 rfl (lv_at hl 3 rfl) ?_
      refine lv_lload hx hb dX9_sightBy_93 (lv_at hl 1 rfl) ?_
      obtain ⟨hPc, hDc, hFc⟩ := g5_sub3 (wc := [(a_h, (oc1 e_wa e_le e_st e_fo e_lc a_l a_g a_b a_s a_p a_w e_gb a_bb)), (a_wk, (oc9 a_h a_k a_go a_mt))]) hP hD hS hA [1, 14] (by decide) rfl
      refine va_calll (va_runV (As := [.long k_x]) (rest := []) ⟨hx, hb, hml, hown, hts⟩ (a_spread l G a_h a_wk a_l a_g a_b a_s a_p a_w a_bb a_k a_go a_mt H.size e_le e_st e_fo e_lc e_wa e_gb k_x) (cwV 1 hts gV_X9_56 rfl rfl rfl hv_X9_spread ⟨Nat.le_of_ble_eq_true rfl, Nat.le_of_ble_eq_true rfl⟩) (g5_preV hPc hK hDc hN hT hS hFc (ci := 9) (q0 := 1) rfl rfl) rfl rfl hl.1 rfl (lv_room (Nat.le_of_ble_eq_true rfl)) dX9_sightBy_95 ⟨Nat.le_of_ble_eq_true rfl, Nat.le_of_ble_eq_true rfl⟩) hS (fun q _ h => hFc q h) hFc (fun r u t H1 locs ht hvm hw hB hz1 hk1 hS => ?_)
      obtain ⟨hP1, hD1⟩ := hB
      rw [ht] at hP1
      obtain ⟨z10, y11, rfl⟩ := hw
      obtain ⟨hP, hD⟩ := va_join (wr := [(a_k, (oc5 a_h a_j a_pt m_ln m_se m_lh m_br m_we m_me m_ce m_wy m_ho m_ov)), (a_g, (oc6 6 5 a_gn e_g)), (a_gn, (arI G 30 f_g)), (a_b, (oc6 5 24 a_bn e_b)), (a_bn, (arI G 120 f_b)), (a_p, (oc6 8 5 a_pn e_p)), (a_pn, (arI G 40 f_p)), (a_bb, (arJ G 24 f_bb)), (a_j, (oc2 a_as a_sk)), (a_as, (arI G 8 m_as)), (a_sk, (arJ G 50 m_sk)), (a_l, (arW G 6 f_l)), (a_pt, (arI G 200 m_pt)), (a_go, (arJ G 24 f_go)), (a_mt, (arI G 1536 f_mt))]) hP hD [1, 14] [0, 2, 3, 4, 5, 6, 7, 8, 9, 10, 11, 12, 13, 15, 16] rfl rfl (by decide) (by decide) hk1 hFc hP1 hD1
      generalize H1 = H at hP hS ⊢
      refine g5_rs [(a_k, (oc5 a_h a_j a_pt m_ln m_se m_lh m_br m_we m_me m_ce m_wy m_ho m_ov)), (a_g, (oc6 6 5 a_gn e_g)), (a_gn, (arI G 30 f_g)), (a_b, (oc6 5 24 a_bn e_b)), (a_bn, (arI G 120 f_b)), (a_p, (oc6 8 5 a_pn e_p)), (a_pn, (arI G 40 f_p)), (a_bb, (arJ G 24 f_bb)), (a_j, (oc2 a_as a_sk)), (a_as, (arI G 8 m_as)), (a_sk, (arJ G 50 m_sk)), (a_l, (arW G 6 f_l)), (a_pt, (arI G 200 m_pt)), (a_go, (arJ G 24 f_go)), (a_mt, (arI G 1536 f_mt)), (a_h, (oc1 e_wa e_le e_st e_fo e_lc a_l a_g a_b a_s a_p a_w e_gb a_bb)), (a_wk, (oc9 a_h a_k a_go a_mt))] hP hD (fun hP hD => ?_)
      refine g5_tl (v := z10) y11 ?_
      refine lv_lstore (lv' := [(6, .long z10), (9, .int m_i), (8, .int k_h), (0, .ref a_wk), (1, .int p_g), (2, .int p_b), (3, .int p_c), (4, .int p_f), (5, .int p_e)]) hx hb dX9_sightBy_98 hl (by decide) rfl (fun ls hl => ?_)
      refine lv_iinc (v := (k_h + 1)) (lv' := [(8, .int (k_h + 1)), (6, .long z10), (9, .int m_i), (0, .ref a_wk), (1, .int p_g), (2, .int p_b), (3, .int p_c), (4, .int p_f), (5, .int p_e)]) hx hb dX9_sightBy_100 hl (k := 2) rfl rfl (by decide) rfl (fun ls hl => ?_)
      have t_12 : (k_h + 1).toInt = k_h.toInt + 1 := g5_iadd (a := k_h.toInt) (b := 1) rfl (by decide) (by omega) (by omega)
      refine lv_goto (tgt := 9) hx hb dX9_sightBy_103 (by decide) ?_
      exact ih_9_4 (z10, (k_h + 1), m_se, m_lh, m_br, m_we, m_me, m_ce, m_wy, m_ho, m_ov, m_pt, m_as, m_sk, m_ln) ls H locs (show Int.toNat (24 - (k_h + 1).toInt) < Int.toNat (24 - k_h.toInt) from g_up (show k_h.toInt < (k_h + 1).toInt by omega) (show k_h.toInt < 24 by omega)) ⟨lv_sub hl [1, 0, 3, 4, 5, 6, 7, 8] rfl, hP.sub [0, 15, 1, 2, 3, 4, 5, 6, 7, 8, 9, 10, 11, 12, 16, 13, 14] rfl, hD.sub [0, 15, 1, 2, 3, 4, 5, 6, 7, 8, 9, 10, 11, 12, 16, 13, 14] (by decide) rfl, hS, ⟨by omega, by omega⟩, i_7, by omega⟩
    ·
      have i_9 : m_i.toInt < 64 := by have z := g5_geN (a := m_i.toInt) (b := 64) (by rfl) (by decide) c_9; omega
      refine lv_lload hx hb dX9_sightBy_26 (lv_at hl 1 rfl) ?_
      refine lv_iload hx hb dX9_sightBy_28 (lv_at hl 0 rfl) ?_
      obtain ⟨hPc, hDc, hFc⟩ := g5_sub3 (wc := []) hP hD hS hA [] (by decide) rfl
      refine va_calli (va_runSN (As := [.long k_x, .int m_i]) (rest := []) ⟨hx, hb, hml, hown, hts⟩ (k_isOn l G H.size m_i k_x ⟨by omega, by omega⟩) ⟨va_cnB 2 hts gW_X11_isOn rfl rfl rfl (hN.1 _ g5_nw_X9_43) (hts _ ini_X11) hs_X11_isOn ⟨Nat.le_of_ble_eq_true rfl, Nat.le_of_ble_eq_true rfl⟩, hts _ st_X11_isOn, trivial⟩ (g5_preS hPc hK hDc hN hT hS hFc) rfl rfl hl.1 rfl (lv_room (Nat.le_of_ble_eq_true rfl)) dX9_sightBy_30 ⟨Nat.le_of_ble_eq_true rfl, Nat.le_of_ble_eq_true rfl⟩) hS (fun q _ h => hFc q h) hFc (fun r u t H1 locs ht hvm hw hB hz1 hk1 hS => ?_)
      obtain ⟨hP1, hD1⟩ := hB
      rw [ht] at hP1
      rcases hw with ⟨i_13, rfl, rfl⟩ | ⟨i_14, rfl, rfl⟩
      ·
        have i_13 : onB k_x m_i.toInt = false := i_13
        have hP := g5_same hP hk1
        generalize H1 = H at hP hS ⊢
        refine lv_if_eq (tgt := 60) hx hb dX9_sightBy_33 (by decide) (fun c_15 => ?_) (fun c_15 => ?_)
        ·
          refine lv_iconst (v := 0) hx hb dX9_sightBy_60 (by decide) ?_
          refine lv_istore (lv' := [(10, .int 0), (9, .int m_i), (6, .long k_x), (8, .int k_h), (0, .ref a_wk), (1, .int p_g), (2, .int p_b), (3, .int p_c), (4, .int p_f), (5, .int p_e)]) hx hb dX9_sightBy_61 hl (by decide) rfl (fun ls hl => ?_)
          refine lv_iload hx hb dX9_sightBy_63 (lv_at hl 0 rfl) ?_
          refine lv_if_eq (tgt := 86) hx hb dX9_sightBy_65 (by decide) (fun c_16 => ?_) (fun c_16 => ?_)
          ·
            refine lv_iinc (v := (m_i + 1)) (lv' := [(9, .int (m_i + 1)), (10, .int 0), (6, .long k_x), (8, .int k_h), (0, .ref a_wk), (1, .int p_g), (2, .int p_b), (3, .int p_c), (4, .int p_f), (5, .int p_e)]) hx hb dX9_sightBy_86 hl (k := 1) rfl rfl (by decide) rfl (fun ls hl => ?_)
            have t_17 : (m_i + 1).toInt = m_i.toInt + 1 := g5_iadd (a := m_i.toInt) (b := 1) rfl (by decide) (by omega) (by omega)
            refine lv_goto (tgt := 19) hx hb dX9_sightBy_89 (by decide) ?_
            exact ih_19_8 ((m_i + 1), m_se, m_lh, m_br, m_we, m_me, m_ce, m_wy, m_ho, m_ov, m_pt, m_as, m_sk, m_ln) ls H locs (show Int.toNat (64 - (m_i + 1).toInt) < Int.toNat (64 - m_i.toInt) from g_up (show m_i.toInt < (m_i + 1).toInt by omega) (show m_i.toInt < 64 by omega)) ⟨lv_sub hl [0, 2, 3, 4, 5, 6, 7, 8, 9] rfl, hP, hD, hS, ⟨by omega, by omega⟩, i_7⟩
          ·
            exact absurd c_16 (by decide)
        ·
          exact absurd c_15 (by decide)
      ·
        have i_14 : onB k_x m_i.toInt = true := i_14
        have hP := g5_same hP hk1
        generalize H1 = H at hP hS ⊢
        refine lv_if_eq (tgt := 60) hx hb dX9_sightBy_33 (by decide) (fun c_18 => ?_) (fun c_18 => ?_)
        ·
          exact absurd c_18 (by decide)
        ·
          refine lv_aload_n hx hb dX9_sightBy_36 rfl (lv_at hl 3 rfl) ?_
          refine va_get (D := G.1) (ci := 9) (v := .ref a_mt) (C := RX9) (T := TX9) (N := 4) hx hb hts inG_X9 hown hK hP 14 rfl rfl 3 (by decide) (hts _ fl_X9_15) (fun _ h9 => h9) rfl dX9_sightBy_37 ?_
          refine lv_iload hx hb dX9_sightBy_40 (lv_at hl 2 rfl) ?_
          refine lv_bipush (v := 64) hx hb dX9_sightBy_42 (by decide) ?_
          refine lv_imul hx hb dX9_sightBy_44 ?_
          have t_19 : (k_h * 64).toInt = k_h.toInt * 64 := g5_imul (a := k_h.toInt) (b := 64) (by rfl) (by decide) (by omega) (by omega)
          refine lv_iload hx hb dX9_sightBy_45 (lv_at hl 0 rfl) ?_
          refine lv_iadd hx hb dX9_sightBy_47 ?_
          have t_20 : ((k_h * 64) + m_i).toInt = (k_h * 64).toInt + m_i.toInt := g5_iadd (a := (k_h * 64).toInt) (b := m_i.toInt) (by rfl) (by rfl) (by omega) (by omega)
          refine va_iald hx hb hK hP 16 0 rfl rfl (i := ((k_h * 64) + m_i)) (vp_in_iff.mpr ⟨by omega, by omega⟩) dX9_sightBy_48 ?_
          refine lv_iload_n hx hb dX9_sightBy_49 rfl (lv_at hl 4 rfl) ?_
          refine lv_ishr hx hb dX9_sightBy_50 ?_
          refine lv_iconst (v := 1) hx hb dX9_sightBy_51 (by decide) ?_
          refine lv_iand hx hb dX9_sightBy_52 ?_
          refine lv_if_eq (tgt := 60) hx hb dX9_sightBy_53 (by decide) (fun c_21 => ?_) (fun c_21 => ?_)
          ·
            have i_21 : (((f_mt ((k_h * 64) + m_i).toNatClampNeg) >>> (p_g &&& 31)) &&& 1).toInt = 0 := by have z := g5_eq (a := (((f_mt ((k_h * 64) + m_i).toNatClampNeg) >>> (p_g &&& 31)) &&& 1).toInt) (b := 0) (by rfl) (by decide) c_21; omega
            refine lv_iconst (v := 0) hx hb dX9_sightBy_60 (by decide) ?_
            refine lv_istore (lv' := [(10, .int 0), (9, .int m_i), (6, .long k_x), (8, .int k_h), (0, .ref a_wk), (1, .int p_g), (2, .int p_b), (3, .int p_c), (4, .int p_f), (5, .int p_e)]) hx hb dX9_sightBy_61 hl (by decide) rfl (fun ls hl => ?_)
            refine lv_iload hx hb dX9_sightBy_63 (lv_at hl 0 rfl) ?_
            refine lv_if_eq (tgt := 86) hx hb dX9_sightBy_65 (by decide) (fun c_22 => ?_) (fun c_22 => ?_)
            ·
              refine lv_iinc (v := (m_i + 1)) (lv' := [(9, .int (m_i + 1)), (10, .int 0), (6, .long k_x), (8, .int k_h), (0, .ref a_wk), (1, .int p_g), (2, .int p_b), (3, .int p_c), (4, .int p_f), (5, .int p_e)]) hx hb dX9_sightBy_86 hl (k := 1) rfl rfl (by decide) rfl (fun ls hl => ?_)
              have t_23 : (m_i + 1).toInt = m_i.toInt + 1 := g5_iadd (a := m_i.toInt) (b := 1) rfl (by decide) (by omega) (by omega)
              refine lv_goto (tgt := 19) hx hb dX9_sightBy_89 (by decide) ?_
              exact ih_19_8 ((m_i + 1), m_se, m_lh, m_br, m_we, m_me, m_ce, m_wy, m_ho, m_ov, m_pt, m_as, m_sk, m_ln) ls H locs (show Int.toNat (64 - (m_i + 1).toInt) < Int.toNat (64 - m_i.toInt) from g_up (show m_i.toInt < (m_i + 1).toInt by omega) (show m_i.toInt < 64 by omega)) ⟨lv_sub hl [0, 2, 3, 4, 5, 6, 7, 8, 9] rfl, hP, hD, hS, ⟨by omega, by omega⟩, i_7⟩
            ·
              exact absurd c_22 (by decide)
          ·
            have n_21 : gNe ((((f_mt ((k_h * 64) + m_i).toNatClampNeg) >>> (p_g &&& 31)) &&& 1).toInt) (0) := by have z := g5_eqN (a := (((f_mt ((k_h * 64) + m_i).toNatClampNeg) >>> (p_g &&& 31)) &&& 1).toInt) (b := 0) (by rfl) (by decide) c_21; unfold gNe; omega
            refine lv_iconst (v := 1) hx hb dX9_sightBy_56 (by decide) ?_
            refine lv_goto (tgt := 61) hx hb dX9_sightBy_57 (by decide) ?_
            refine lv_istore (lv' := [(10, .int 1), (9, .int m_i), (6, .long k_x), (8, .int k_h), (0, .ref a_wk), (1, .int p_g), (2, .int p_b), (3, .int p_c), (4, .int p_f), (5, .int p_e)]) hx hb dX9_sightBy_61 hl (by decide) rfl (fun ls hl => ?_)
            refine lv_iload hx hb dX9_sightBy_63 (lv_at hl 0 rfl) ?_
            refine lv_if_eq (tgt := 86) hx hb dX9_sightBy_65 (by decide) (fun c_24 => ?_) (fun c_24 => ?_)
            ·
              exact absurd c_24 (by decide)
            ·
              refine lv_aload_n hx hb dX9_sightBy_68 rfl (lv_at hl 4 rfl) ?_
              refine va_get (D := G.1) (ci := 9) (v := .ref a_k) (C := RX9) (T := TX9) (N := 4) hx hb hts inG_X9 hown hK hP 14 rfl rfl 1 (by decide) (hts _ fl_X9_23) (fun _ h9 => h9) rfl dX9_sightBy_69 ?_
              refine lv_iload_n hx hb dX9_sightBy_72 rfl (lv_at hl 6 rfl) ?_
              refine lv_iload hx hb dX9_sightBy_73 (lv_at hl 1 rfl) ?_
              refine lv_iload hx hb dX9_sightBy_75 (lv_at hl 3 rfl) ?_
              obtain ⟨hPc, hDc, hFc⟩ := g5_sub3 (wc := [(a_k, (oc5 a_h a_j a_pt m_ln m_se m_lh m_br m_we m_me m_ce m_wy m_ho m_ov)), (a_h, (oc1 e_wa e_le e_st e_fo e_lc a_l a_g a_b a_s a_p a_w e_gb a_bb)), (a_g, (oc6 6 5 a_gn e_g)), (a_gn, (arI G 30 f_g)), (a_b, (oc6 5 24 a_bn e_b)), (a_bn, (arI G 120 f_b)), (a_p, (oc6 8 5 a_pn e_p)), (a_pn, (arI G 40 f_p)), (a_bb, (arJ G 24 f_bb)), (a_j, (oc2 a_as a_sk)), (a_as, (arI G 8 m_as)), (a_sk, (arJ G 50 m_sk)), (a_l, (arW G 6 f_l)), (a_pt, (arI G 200 m_pt))]) hP hD hS hA [0, 1, 2, 3, 4, 5, 6, 7, 8, 9, 10, 11, 12, 13] (by decide) rfl
              refine va_calli (va_runV (As := [.int p_b, .int m_i, .int k_h]) (rest := []) ⟨hx, hb, hml, hown, hts⟩ (s_findsBodyN l G a_k a_h a_g a_gn a_b a_bn a_p a_pn a_bb a_j a_as a_sk a_l a_pt a_s a_w H.size e_le e_st e_fo e_lc e_g e_b e_p m_ln m_se m_lh m_br m_we m_me m_ce m_wy m_ho m_ov m_i k_h p_b e_wa e_gb f_g f_b f_p f_bb m_as m_sk f_l m_pt h_e_g h_e_b h_e_p i_7 (e_gk) (e_pk) (e_gi) (e_f)) (cwV 3 hts gV_X9_47 rfl rfl rfl hv_X5_findsBody ⟨Nat.le_of_ble_eq_true rfl, Nat.le_of_ble_eq_true rfl⟩) (g5_preV hPc hK hDc hN hT hS hFc (ci := 5) (q0 := 0) rfl rfl) rfl rfl hl.1 rfl (lv_room (Nat.le_of_ble_eq_true rfl)) dX9_sightBy_77 ⟨Nat.le_of_ble_eq_true rfl, Nat.le_of_ble_eq_true rfl⟩) hS (fun q _ h => hFc q h) hFc (fun r u t H1 locs ht hvm hw hB hz1 hk1 hS => ?_)
              obtain ⟨hP1, hD1⟩ := hB
              rw [ht] at hP1
              obtain ⟨z27, z28, z29, z30, z31, z32, z33, z34, z35, z36, z37, z38, z39, z40, i_25, i_26, y41, rfl⟩ := hw
              have i_25 : 0 ≤ z27.toInt ∧ z27.toInt ≤ 1 := i_25
              have i_26 : 0 ≤ z37.toInt ∧ z37.toInt ≤ 1 := i_26
              obtain ⟨hP, hD⟩ := va_join (wr := [(a_wk, (oc9 a_h a_k a_go a_mt)), (a_go, (arJ G 24 f_go)), (a_mt, (arI G 1536 f_mt))]) hP hD [0, 1, 2, 3, 4, 5, 6, 7, 8, 9, 10, 11, 12, 13] [14, 15, 16] rfl rfl (by decide) (by decide) hk1 hFc hP1 hD1
              generalize H1 = H at hP hS ⊢
              refine g5_rs [(a_wk, (oc9 a_h a_k a_go a_mt)), (a_go, (arJ G 24 f_go)), (a_mt, (arI G 1536 f_mt)), (a_k, (oc5 a_h a_j a_pt z28 z29 z30 z31 z32 z33 z34 z35 z36 z37)), (a_h, (oc1 e_wa e_le e_st e_fo e_lc a_l a_g a_b a_s a_p a_w e_gb a_bb)), (a_g, (oc6 6 5 a_gn e_g)), (a_gn, (arI G 30 f_g)), (a_b, (oc6 5 24 a_bn e_b)), (a_bn, (arI G 120 f_b)), (a_p, (oc6 8 5 a_pn e_p)), (a_pn, (arI G 40 f_p)), (a_bb, (arJ G 24 f_bb)), (a_j, (oc2 a_as a_sk)), (a_as, (arI G 8 z39)), (a_sk, (arJ G 50 z40)), (a_l, (arW G 6 f_l)), (a_pt, (arI G 200 z38))] hP hD (fun hP hD => ?_)
              refine g5_ti (v := z27) y41 ?_
              refine lv_if_eq (tgt := 86) hx hb dX9_sightBy_80 (by decide) (fun c_42 => ?_) (fun c_42 => ?_)
              ·
                have i_42 : z27.toInt = 0 := by have z := g5_eq (a := z27.toInt) (b := 0) (by rfl) (by decide) c_42; omega
                refine lv_iinc (v := (m_i + 1)) (lv' := [(9, .int (m_i + 1)), (10, .int 1), (6, .long k_x), (8, .int k_h), (0, .ref a_wk), (1, .int p_g), (2, .int p_b), (3, .int p_c), (4, .int p_f), (5, .int p_e)]) hx hb dX9_sightBy_86 hl (k := 1) rfl rfl (by decide) rfl (fun ls hl => ?_)
                have t_43 : (m_i + 1).toInt = m_i.toInt + 1 := g5_iadd (a := m_i.toInt) (b := 1) rfl (by decide) (by omega) (by omega)
                refine lv_goto (tgt := 19) hx hb dX9_sightBy_89 (by decide) ?_
                exact ih_19_8 ((m_i + 1), z29, z30, z31, z32, z33, z34, z35, z36, z37, z38, z39, z40, z28) ls H locs (show Int.toNat (64 - (m_i + 1).toInt) < Int.toNat (64 - m_i.toInt) from g_up (show m_i.toInt < (m_i + 1).toInt by omega) (show m_i.toInt < 64 by omega)) ⟨lv_sub hl [0, 2, 3, 4, 5, 6, 7, 8, 9] rfl, hP.sub [3, 4, 5, 6, 7, 8, 9, 10, 11, 12, 13, 14, 15, 16, 0, 1, 2] rfl, hD.sub [3, 4, 5, 6, 7, 8, 9, 10, 11, 12, 13, 14, 15, 16, 0, 1, 2] (by decide) rfl, hS, ⟨by omega, by omega⟩, i_26⟩
              ·
                have n_42 : gNe (z27.toInt) (0) := by have z := g5_eqN (a := z27.toInt) (b := 0) (by rfl) (by decide) c_42; unfold gNe; omega
                have i_42 : z27.toInt ≥ 1 := by have z := g5_eqN (a := z27.toInt) (b := 0) (by rfl) (by decide) c_42; omega
                refine lv_iload hx hb dX9_sightBy_83 (lv_at hl 3 rfl) ?_
                exact W.iret (v := k_h) hx hb hr (fun t ht hW => ⟨⟨k_h, [(a_k, (oc5 a_h a_j a_pt z28 z29 z30 z31 z32 z33 z34 z35 z36 z37)), (a_h, (oc1 e_wa e_le e_st e_fo e_lc a_l a_g a_b a_s a_p a_w e_gb a_bb)), (a_g, (oc6 6 5 a_gn e_g)), (a_gn, (arI G 30 f_g)), (a_b, (oc6 5 24 a_bn e_b)), (a_bn, (arI G 120 f_b)), (a_p, (oc6 8 5 a_pn e_p)), (a_pn, (arI G 40 f_p)), (a_bb, (arJ G 24 f_bb)), (a_j, (oc2 a_as a_sk)), (a_as, (arI G 8 z39)), (a_sk, (arJ G 50 z40)), (a_l, (arW G 6 f_l)), (a_pt, (arI G 200 z38)), (a_wk, (oc9 a_h a_k a_go a_mt)), (a_go, (arJ G 24 f_go)), (a_mt, (arI G 1536 f_mt))], rfl, ⟨k_h, z28, z29, z30, z31, z32, z33, z34, z35, z36, z37, z38, z39, z40, i_26, ⟨by omega, by omega⟩, Or.inr ⟨by omega, by omega⟩, rfl, rfl⟩, by rw [ht]; exact hP.sub [3, 4, 5, 6, 7, 8, 9, 10, 11, 12, 13, 14, 15, 16, 0, 1, 2] rfl, hD.sub [3, 4, 5, 6, 7, 8, 9, 10, 11, 12, 13, 14, 15, 16, 0, 1, 2] (by decide) rfl⟩, hS.F ht⟩) hS.2.2 dX9_sightBy_85
set_option maxHeartbeats 4000000 in
set_option maxRecDepth 100000 in
theorem a_byL (l : Launch) (G : g5_G) (a_k a_h a_g a_gn a_b a_bn a_p a_pn a_bb a_j a_as a_sk a_l a_lo a_sr a_cd a_hd a_pt a_wk a_go a_mt a_s a_w : Nat) (sz : Nat) (e_le : Int32) (e_st : Int32) (e_fo : Int32) (e_lc : Int32) (e_g : Int32) (e_b : Int32) (e_p : Int32) (e_cl : Int32) (e_ln : Int32) (e_se : Int32) (e_lh : Int32) (e_br : Int32) (e_we : Int32) (e_me : Int32) (e_ce : Int32) (e_wy : Int32) (e_ho : Int32) (e_ov : Int32) (p_g : Int32) (p_b : Int32) (p_c : Int32) (p_f : Int32) (p_e : Int32) (e_wa : Int64) (e_gb : Int64) (f_g : Nat → Int32) (f_b : Nat → Int32) (f_p : Nat → Int32) (f_bb : Nat → Int64) (f_as : Nat → Int32) (f_sk : Nat → Int64) (f_l : Nat → Option Nat) (f_sr : Nat → Int32) (f_cd : Nat → Int32) (f_hd : Nat → Int32) (f_pt : Nat → Int32) (f_go : Nat → Int64) (f_mt : Nat → Int32) (n_sr : Nat) (n_cd : Nat) (n_hd : Nat) (h_e_g : 0 ≤ e_g.toInt ∧ e_g.toInt ≤ 6) (h_e_b : 0 ≤ e_b.toInt ∧ e_b.toInt ≤ 5) (h_e_p : 0 ≤ e_p.toInt ∧ e_p.toInt ≤ 8) (h_e_cl : 0 ≤ e_cl.toInt ∧ e_cl.toInt ≤ 12) (h_e_ov : 0 ≤ e_ov.toInt ∧ e_ov.toInt ≤ 1) (h_p_c : 0 ≤ p_c.toInt ∧ p_c.toInt ≤ 63) (h_p_f : 0 ≤ p_f.toInt ∧ p_f.toInt ≤ 23) (h_p_e : 0 ≤ p_e.toInt ∧ p_e.toInt ≤ 24) (e_gk : gOK f_g e_g.toInt) (e_pk : gOK f_p e_p.toInt) (e_gi : inT e_gb f_g e_g.toInt) (e_f : 0 ≤ e_fo.toInt ∧ e_fo.toInt < e_lc.toInt ∧ e_lc.toInt ≤ 6) (e_a : f_l e_fo.toNatClampNeg = some a_lo) (e_hn : n_cd ≤ 400) (e_hs : ∀ j : Nat, j < n_sr → 0 ≤ (f_sr j).toInt ∧ (f_sr j).toInt ≤ (n_cd : Int)) (e_hk : ∀ j : Nat, j < n_cd → (f_cd j >>> (12 &&& 31)).toInt = 1 → (f_cd j &&& 4095).toInt < 8) (e_c : (e_cl.toInt : Int) ≤ (n_hd : Int) ∧ (e_cl.toInt + 1 : Int) ≤ (n_sr : Int)) : Met l yX9_sightBy (wsG yX9_sightBy cX9_sightBy 11 (some .int)) ({ frames := 15, cells := 0, slots := 0, locals := 580 }) (va_Pc [.ref a_wk, .int p_g, .int p_b, .int p_c, .int p_f, .int p_e] (g5_P G [(a_k, (oc5 a_h a_j a_pt e_ln e_se e_lh e_br e_we e_me e_ce e_wy e_ho e_ov)), (a_h, (oc1 e_wa e_le e_st e_fo e_lc a_l a_g a_b a_s a_p a_w e_gb a_bb)), (a_g, (oc6 6 5 a_gn e_g)), (a_gn, (arI G 30 f_g)), (a_b, (oc6 5 24 a_bn e_b)), (a_bn, (arI G 120 f_b)), (a_p, (oc6 8 5 a_pn e_p)), (a_pn, (arI G 40 f_p)), (a_bb, (arJ G 24 f_bb)), (a_j, (oc2 a_as a_sk)), (a_as, (arI G 8 f_as)), (a_sk, (arJ G 50 f_sk)), (a_l, (arW G 6 f_l)), (a_lo, (oc3 e_cl a_hd a_sr a_cd)), (a_sr, (arI G n_sr f_sr)), (a_cd, (arI G n_cd f_cd)), (a_hd, (arI G n_hd f_hd)), (a_pt, (arI G 200 f_pt)), (a_wk, (oc9 a_h a_k a_go a_mt)), (a_go, (arJ G 24 f_go)), (a_mt, (arI G 1536 f_mt))] sz)) (va_Qi (fun (r : Int32) (u : va_W) => (∃ (o_r : Int32) (o_ln : Int32) (o_se : Int32) (o_lh : Int32) (o_br : Int32) (o_we : Int32) (o_me : Int32) (o_ce : Int32) (o_wy : Int32) (o_ho : Int32) (o_ov : Int32) (o_pt : Nat → Int32) (o_as : Nat → Int32) (o_sk : Nat → Int64), (0 ≤ o_ov.toInt ∧ o_ov.toInt ≤ 1) ∧ (-1 ≤ o_r.toInt ∧ o_r.toInt ≤ 23) ∧ (o_r.toInt = -1 ∨ (p_f.toInt ≤ o_r.toInt ∧ o_r.toInt < p_e.toInt)) ∧ (r = o_r) ∧ (u = [(a_k, (oc5 a_h a_j a_pt o_ln o_se o_lh o_br o_we o_me o_ce o_wy o_ho o_ov)), (a_h, (oc1 e_wa e_le e_st e_fo e_lc a_l a_g a_b a_s a_p a_w e_gb a_bb)), (a_g, (oc6 6 5 a_gn e_g)), (a_gn, (arI G 30 f_g)), (a_b, (oc6 5 24 a_bn e_b)), (a_bn, (arI G 120 f_b)), (a_p, (oc6 8 5 a_pn e_p)), (a_pn, (arI G 40 f_p)), (a_bb, (arJ G 24 f_bb)), (a_j, (oc2 a_as a_sk)), (a_as, (arI G 8 o_as)), (a_sk, (arJ G 50 o_sk)), (a_l, (arW G 6 f_l)), (a_lo, (oc3 e_cl a_hd a_sr a_cd)), (a_sr, (arI G n_sr f_sr)), (a_cd, (arI G n_cd f_cd)), (a_hd, (arI G n_hd f_hd)), (a_pt, (arI G 200 o_pt)), (a_wk, (oc9 a_h a_k a_go a_mt)), (a_go, (arJ G 24 f_go)), (a_mt, (arI G 1536 f_mt))]))) (g5_B G (va_A [(a_k, (oc5 a_h a_j a_pt e_ln e_se e_lh e_br e_we e_me e_ce e_wy e_ho e_ov)), (a_h, (oc1 e_wa e_le e_st e_fo e_lc a_l a_g a_b a_s a_p a_w e_gb a_bb)), (a_g, (oc6 6 5 a_gn e_g)), (a_gn, (arI G 30 f_g)), (a_b, (oc6 5 24 a_bn e_b)), (a_bn, (arI G 120 f_b)), (a_p, (oc6 8 5 a_pn e_p)), (a_pn, (arI G 40 f_p)), (a_bb, (arJ G 24 f_bb)), (a_j, (oc2 a_as a_sk)), (a_as, (arI G 8 f_as)), (a_sk, (arJ G 50 f_sk)), (a_l, (arW G 6 f_l)), (a_lo, (oc3 e_cl a_hd a_sr a_cd)), (a_sr, (arI G n_sr f_sr)), (a_cd, (arI G n_cd f_cd)), (a_hd, (arI G n_hd f_hd)), (a_pt, (arI G 200 f_pt)), (a_wk, (oc9 a_h a_k a_go a_mt)), (a_go, (arJ G 24 f_go)), (a_mt, (arI G 1536 f_mt))] sz)) (va_A [(a_k, (oc5 a_h a_j a_pt e_ln e_se e_lh e_br e_we e_me e_ce e_wy e_ho e_ov)), (a_h, (oc1 e_wa e_le e_st e_fo e_lc a_l a_g a_b a_s a_p a_w e_gb a_bb)), (a_g, (oc6 6 5 a_gn e_g)), (a_gn, (arI G 30 f_g)), (a_b, (oc6 5 24 a_bn e_b)), (a_bn, (arI G 120 f_b)), (a_p, (oc6 8 5 a_pn e_p)), (a_pn, (arI G 40 f_p)), (a_bb, (arJ G 24 f_bb)), (a_j, (oc2 a_as a_sk)), (a_as, (arI G 8 f_as)), (a_sk, (arJ G 50 f_sk)), (a_l, (arW G 6 f_l)), (a_lo, (oc3 e_cl a_hd a_sr a_cd)), (a_sr, (arI G n_sr f_sr)), (a_cd, (arI G n_cd f_cd)), (a_hd, (arI G n_hd f_hd)), (a_pt, (arI G 200 f_pt)), (a_wk, (oc9 a_h a_k a_go a_mt)), (a_go, (arJ G 24 f_go)), (a_mt, (arI G 1536 f_mt))] sz)) 0 0 (va_A [(a_k, (oc5 a_h a_j a_pt e_ln e_se e_lh e_br e_we e_me e_ce e_wy e_ho e_ov)), (a_h, (oc1 e_wa e_le e_st e_fo e_lc a_l a_g a_b a_s a_p a_w e_gb a_bb)), (a_g, (oc6 6 5 a_gn e_g)), (a_gn, (arI G 30 f_g)), (a_b, (oc6 5 24 a_bn e_b)), (a_bn, (arI G 120 f_b)), (a_p, (oc6 8 5 a_pn e_p)), (a_pn, (arI G 40 f_p)), (a_bb, (arJ G 24 f_bb)), (a_j, (oc2 a_as a_sk)), (a_as, (arI G 8 f_as)), (a_sk, (arJ G 50 f_sk)), (a_l, (arW G 6 f_l)), (a_lo, (oc3 e_cl a_hd a_sr a_cd)), (a_sr, (arI G n_sr f_sr)), (a_cd, (arI G n_cd f_cd)), (a_hd, (arI G n_hd f_hd)), (a_pt, (arI G 200 f_pt)), (a_wk, (oc9 a_h a_k a_go a_mt)), (a_go, (arJ G 24 f_go)), (a_mt, (arI G 1536 f_mt))] sz) := by
  refine Met.ofW (cc := cX9_sightBy) (maxL := 11) (ret := (some .int)) (by decide) rfl ?_
  intro p e s m args below meth c s₁ B hml hv
  obtain ⟨rfl, hsz, hP, hK, hD0, hN, hT⟩ := hv
  have hx := B.exec
  have hb := B.bytes
  have hr := B.returns
  have hts : ∀ w ∈ tblG, w.before _ s = true := fun w h => atoms_spec (ws := (wsG yX9_sightBy cX9_sightBy 11 (some .int))) B.pre w (List.mem_cons_of_mem _ h)
  have hown : s.vm.findClass RX9 = some m.cls := findClass_of_methodNamed B.named
  have hlocks := B.notSynchronized
  subst hsz
  have hD := hD0.self (sz := s.heap.size)
  generalize hAe : va_A [(a_k, (oc5 a_h a_j a_pt e_ln e_se e_lh e_br e_we e_me e_ce e_wy e_ho e_ov)), (a_h, (oc1 e_wa e_le e_st e_fo e_lc a_l a_g a_b a_s a_p a_w e_gb a_bb)), (a_g, (oc6 6 5 a_gn e_g)), (a_gn, (arI G 30 f_g)), (a_b, (oc6 5 24 a_bn e_b)), (a_bn, (arI G 120 f_b)), (a_p, (oc6 8 5 a_pn e_p)), (a_pn, (arI G 40 f_p)), (a_bb, (arJ G 24 f_bb)), (a_j, (oc2 a_as a_sk)), (a_as, (arI G 8 f_as)), (a_sk, (arJ G 50 f_sk)), (a_l, (arW G 6 f_l)), (a_lo, (oc3 e_cl a_hd a_sr a_cd)), (a_sr, (arI G n_sr f_sr)), (a_cd, (arI G n_cd f_cd)), (a_hd, (arI G n_hd f_hd)), (a_pt, (arI G 200 f_pt)), (a_wk, (oc9 a_h a_k a_go a_mt)), (a_go, (arJ G 24 f_go)), (a_mt, (arI G 1536 f_mt))] s.heap.size = A at hD hT ⊢
  have hA : ∀ q : Nat, s.heap.size ≤ q → A q := fun q h => by rw [← hAe]; exact Or.inr h
  have hS : va_S A s.heap s.heap [] := va_S.rf
  have hP : va_P G.1 vwCl [(a_k, (oc5 a_h a_j a_pt e_ln e_se e_lh e_br e_we e_me e_ce e_wy e_ho e_ov)), (a_h, (oc1 e_wa e_le e_st e_fo e_lc a_l a_g a_b a_s a_p a_w e_gb a_bb)), (a_g, (oc6 6 5 a_gn e_g)), (a_gn, (arI G 30 f_g)), (a_b, (oc6 5 24 a_bn e_b)), (a_bn, (arI G 120 f_b)), (a_p, (oc6 8 5 a_pn e_p)), (a_pn, (arI G 40 f_p)), (a_bb, (arJ G 24 f_bb)), (a_j, (oc2 a_as a_sk)), (a_as, (arI G 8 f_as)), (a_sk, (arJ G 50 f_sk)), (a_l, (arW G 6 f_l)), (a_lo, (oc3 e_cl a_hd a_sr a_cd)), (a_sr, (arI G n_sr f_sr)), (a_cd, (arI G n_cd f_cd)), (a_hd, (arI G n_hd f_hd)), (a_pt, (arI G 200 f_pt)), (a_wk, (oc9 a_h a_k a_go a_mt)), (a_go, (arJ G 24 f_go)), (a_mt, (arI G 1536 f_mt))] s.heap := hP
  have hl := lv_entry ([.ref a_wk, .int p_g, .int p_b, .int p_c, .int p_f, .int p_e]) (n := 11) (Nat.le_of_ble_eq_true rfl)
  rw [lg_entry_eq]
  generalize (lg_sl ([.ref a_wk, .int p_g, .int p_b, .int p_c, .int p_f, .int p_e]) ++ List.replicate (11 - (lg_sl ([.ref a_wk, .int p_g, .int p_b, .int p_c, .int p_f, .int p_e])).length) Slot.unset).toArray = ls at hl ⊢
  have hl : lv_has ls 11 [(0, .ref a_wk), (1, .int p_g), (2, .int p_b), (3, .int p_c), (4, .int p_f), (5, .int p_e)] := hl
  refine lv_lconst (v := 1) hx hb dX9_sightBy_0 (by decide) ?_
  refine lv_iload_n hx hb dX9_sightBy_1 rfl (lv_at hl 3 rfl) ?_
  refine lv_lshl (v := ((1 : Int64) <<< (p_c.toInt64 &&& 63))) hx hb dX9_sightBy_2 rfl ?_
  refine lv_lstore (lv' := [(6, .long ((1 : Int64) <<< (p_c.toInt64 &&& 63))), (0, .ref a_wk), (1, .int p_g), (2, .int p_b), (3, .int p_c), (4, .int p_f), (5, .int p_e)]) hx hb dX9_sightBy_3 hl (by decide) rfl (fun ls hl => ?_)
  refine lv_iload hx hb dX9_sightBy_5 (lv_at hl 5 rfl) ?_
  refine lv_istore (lv' := [(8, .int p_f), (6, .long ((1 : Int64) <<< (p_c.toInt64 &&& 63))), (0, .ref a_wk), (1, .int p_g), (2, .int p_b), (3, .int p_c), (4, .int p_f), (5, .int p_e)]) hx hb dX9_sightBy_7 hl (by decide) rfl (fun ls hl => ?_)
  refine g5_loop (α := (Int64) × (Int32) × (Int32) × (Int32) × (Int32) × (Int32) × (Int32) × (Int32) × (Int32) × (Int32) × (Int32) × (Nat → Int32) × (Nat → Int32) × (Nat → Int64) × (Int32)) (fun (q : (Int64) × (Int32) × (Int32) × (Int32) × (Int32) × (Int32) × (Int32) × (Int32) × (Int32) × (Int32) × (Int32) × (Nat → Int32) × (Nat → Int32) × (Nat → Int64) × (Int32)) (ls : Array Slot) (H : Heap) (locs : List Loc) => match q with | (k_x, k_h, k_se, k_lh, k_br, k_we, k_me, k_ce, k_wy, k_ho, k_ov, k_pt, k_as, k_sk, k_ln) => lv_has ls 11 [(6, .long k_x), (8, .int k_h), (0, .ref a_wk), (1, .int p_g), (2, .int p_b), (3, .int p_c), (4, .int p_f), (5, .int p_e)] ∧ va_P G.1 vwCl [(a_k, (oc5 a_h a_j a_pt k_ln k_se k_lh k_br k_we k_me k_ce k_wy k_ho k_ov)), (a_h, (oc1 e_wa e_le e_st e_fo e_lc a_l a_g a_b a_s a_p a_w e_gb a_bb)), (a_g, (oc6 6 5 a_gn e_g)), (a_gn, (arI G 30 f_g)), (a_b, (oc6 5 24 a_bn e_b)), (a_bn, (arI G 120 f_b)), (a_p, (oc6 8 5 a_pn e_p)), (a_pn, (arI G 40 f_p)), (a_bb, (arJ G 24 f_bb)), (a_j, (oc2 a_as a_sk)), (a_as, (arI G 8 k_as)), (a_sk, (arJ G 50 k_sk)), (a_l, (arW G 6 f_l)), (a_lo, (oc3 e_cl a_hd a_sr a_cd)), (a_sr, (arI G n_sr f_sr)), (a_cd, (arI G n_cd f_cd)), (a_hd, (arI G n_hd f_hd)), (a_pt, (arI G 200 k_pt)), (a_wk, (oc9 a_h a_k a_go a_mt)), (a_go, (arJ G 24 f_go)), (a_mt, (arI G 1536 f_mt))] H ∧ va_D A [(a_k, (oc5 a_h a_j a_pt k_ln k_se k_lh k_br k_we k_me k_ce k_wy k_ho k_ov)), (a_h, (oc1 e_wa e_le e_st e_fo e_lc a_l a_g a_b a_s a_p a_w e_gb a_bb)), (a_g, (oc6 6 5 a_gn e_g)), (a_gn, (arI G 30 f_g)), (a_b, (oc6 5 24 a_bn e_b)), (a_bn, (arI G 120 f_b)), (a_p, (oc6 8 5 a_pn e_p)), (a_pn, (arI G 40 f_p)), (a_bb, (arJ G 24 f_bb)), (a_j, (oc2 a_as a_sk)), (a_as, (arI G 8 k_as)), (a_sk, (arJ G 50 k_sk)), (a_l, (arW G 6 f_l)), (a_lo, (oc3 e_cl a_hd a_sr a_cd)), (a_sr, (arI G n_sr f_sr)), (a_cd, (arI G n_cd f_cd)), (a_hd, (arI G n_hd f_hd)), (a_pt, (arI G 200 k_pt)), (a_wk, (oc9 a_h a_k a_go a_mt)), (a_go, (arJ G 24 f_go)), (a_mt, (arI G 1536 f_mt))] ∧ va_S A s.heap H locs ∧ (0 ≤ k_h.toInt ∧ k_h.toInt ≤ 24) ∧ (0 ≤ k_ov.toInt ∧ k_ov.toInt ≤ 1) ∧ (p_f.toInt ≤ k_h.toInt)) (fun (q : (Int64) × (Int32) × (Int32) × (Int32) × (Int32) × (Int32) × (Int32) × (Int32) × (Int32) × (Int32) × (Int32) × (Nat → Int32) × (Nat → Int32) × (Nat → Int64) × (Int32)) => match q with | (k_x, k_h, k_se, k_lh, k_br, k_we, k_me, k_ce, k_wy, k_ho, k_ov, k_pt, k_as, k_sk, k_ln) => Int.toNat (24 - k_h.toInt)) (((1 : Int64) <<< (p_c.toInt64 &&& 63)), p_f, e_se, e_lh, e_br, e_we, e_me, e_ce, e_wy, e_ho, e_ov, f_pt, f_as, f_sk, e_ln) ⟨lv_sub hl [1, 0, 2, 3, 4, 5, 6, 7] rfl, hP, hD, hS, ⟨by omega, by omega⟩, h_e_ov, by omega⟩ ?_
  rintro ⟨k_x, k_h, k_se, k_lh, k_br, k_we, k_me, k_ce, k_wy, k_ho, k_ov, k_pt, k_as, k_sk, k_ln⟩ ls H locs ⟨hl, hP, hD, hS, i_1, i_2, i_3⟩ ih_9_4
  have hl : lv_has ls 11 [(6, .long k_x), (8, .int k_h), (0, .ref a_wk), (1, .int p_g), (2, .int p_b), (3, .int p_c), (4, .int p_f), (5, .int p_e)] := hl
  have i_1 : 0 ≤ k_h.toInt ∧ k_h.toInt ≤ 24 := i_1
  have i_2 : 0 ≤ k_ov.toInt ∧ k_ov.toInt ≤ 1 := i_2
  have i_3 : p_f.toInt ≤ k_h.toInt := i_3
  refine g5_rs [(a_k, (oc5 a_h a_j a_pt k_ln k_se k_lh k_br k_we k_me k_ce k_wy k_ho k_ov)), (a_h, (oc1 e_wa e_le e_st e_fo e_lc a_l a_g a_b a_s a_p a_w e_gb a_bb)), (a_g, (oc6 6 5 a_gn e_g)), (a_gn, (arI G 30 f_g)), (a_b, (oc6 5 24 a_bn e_b)), (a_bn, (arI G 120 f_b)), (a_p, (oc6 8 5 a_pn e_p)), (a_pn, (arI G 40 f_p)), (a_bb, (arJ G 24 f_bb)), (a_j, (oc2 a_as a_sk)), (a_as, (arI G 8 k_as)), (a_sk, (arJ G 50 k_sk)), (a_l, (arW G 6 f_l)), (a_lo, (oc3 e_cl a_hd a_sr a_cd)), (a_sr, (arI G n_sr f_sr)), (a_cd, (arI G n_cd f_cd)), (a_hd, (arI G n_hd f_hd)), (a_pt, (arI G 200 k_pt)), (a_wk, (oc9 a_h a_k a_go a_mt)), (a_go, (arJ G 24 f_go)), (a_mt, (arI G 1536 f_mt))] hP hD (fun hP hD => ?_)
  refine lv_iload hx hb dX9_sightBy_9 (lv_at hl 1 rfl) ?_
  refine lv_iload hx hb dX9_sightBy_11 (lv_at hl 7 rfl) ?_
  refine lv_icmp_ge (tgt := 106) hx hb dX9_sightBy_13 (by decide) (fun c_5 => ?_) (fun c_5 => ?_)
  ·
    have i_5 : k_h.toInt ≥ p_e.toInt := by have z := g5_ge (a := k_h.toInt) (b := p_e.toInt) (by rfl) (by rfl) c_5; omega
    refine lv_iconst (v := (-1)) hx hb dX9_sightBy_106 (by decide) ?_
    exact W.iret (v := (-1)) hx hb hr (fun t ht hW => ⟨⟨(-1), [(a_k, (oc5 a_h a_j a_pt k_ln k_se k_lh k_br k_we k_me k_ce k_wy k_ho k_ov)), (a_h, (oc1 e_wa e_le e_st e_fo e_lc a_l a_g a_b a_s a_p a_w e_gb a_bb)), (a_g, (oc6 6 5 a_gn e_g)), (a_gn, (arI G 30 f_g)), (a_b, (oc6 5 24 a_bn e_b)), (a_bn, (arI G 120 f_b)), (a_p, (oc6 8 5 a_pn e_p)), (a_pn, (arI G 40 f_p)), (a_bb, (arJ G 24 f_bb)), (a_j, (oc2 a_as a_sk)), (a_as, (arI G 8 k_as)), (a_sk, (arJ G 50 k_sk)), (a_l, (arW G 6 f_l)), (a_lo, (oc3 e_cl a_hd a_sr a_cd)), (a_sr, (arI G n_sr f_sr)), (a_cd, (arI G n_cd f_cd)), (a_hd, (arI G n_hd f_hd)), (a_pt, (arI G 200 k_pt)), (a_wk, (oc9 a_h a_k a_go a_mt)), (a_go, (arJ G 24 f_go)), (a_mt, (arI G 1536 f_mt))], rfl, ⟨(-1), k_ln, k_se, k_lh, k_br, k_we, k_me, k_ce, k_wy, k_ho, k_ov, k_pt, k_as, k_sk, i_2, ⟨by have zc_o_r : ((-1) : Int32).toInt = (-1) := (by decide); omega, by have zc_o_r : ((-1) : Int32).toInt = (-1) := (by decide); omega⟩, Or.inl (by decide), rfl, rfl⟩, by rw [ht]; exact hP.sub [0, 1, 2, 3, 4, 5, 6, 7, 8, 9, 10, 11, 12, 13, 14, 15, 16, 17, 18, 19, 20] rfl, hD.sub [0, 1, 2, 3, 4, 5, 6, 7, 8, 9, 10, 11, 12, 13, 14, 15, 16, 17, 18, 19, 20] (by decide) rfl⟩, hS.F ht⟩) hS.2.2 dX9_sightBy_107
  ·
    have i_5 : k_h.toInt < p_e.toInt := by have z := g5_geN (a := k_h.toInt) (b := p_e.toInt) (by rfl) (by rfl) c_5; omega
    refine lv_iconst (v := 0) hx hb dX9_sightBy_16 (by decide) ?_
    refine lv_istore (lv' := [(9, .int 0), (6, .long k_x), (8, .int k_h), (0, .ref a_wk), (1, .int p_g), (2, .int p_b), (3, .int p_c), (4, .int p_f), (5, .int p_e)]) hx hb dX9_sightBy_17 hl (by decide) rfl (fun ls hl => ?_)
    refine g5_loop (α := (Int32) × (Int32) × (Int32) × (Int32) × (Int32) × (Int32) × (Int32) × (Int32) × (Int32) × (Int32) × (Nat → Int32) × (Nat → Int32) × (Nat → Int64) × (Int32)) (fun (q : (Int32) × (Int32) × (Int32) × (Int32) × (Int32) × (Int32) × (Int32) × (Int32) × (Int32) × (Int32) × (Nat → Int32) × (Nat → Int32) × (Nat → Int64) × (Int32)) (ls : Array Slot) (H : Heap) (locs : List Loc) => match q with | (m_i, m_se, m_lh, m_br, m_we, m_me, m_ce, m_wy, m_ho, m_ov, m_pt, m_as, m_sk, m_ln) => lv_has ls 11 [(9, .int m_i), (6, .long k_x), (8, .int k_h), (0, .ref a_wk), (1, .int p_g), (2, .int p_b), (3, .int p_c), (4, .int p_f), (5, .int p_e)] ∧ va_P G.1 vwCl [(a_k, (oc5 a_h a_j a_pt m_ln m_se m_lh m_br m_we m_me m_ce m_wy m_ho m_ov)), (a_h, (oc1 e_wa e_le e_st e_fo e_lc a_l a_g a_b a_s a_p a_w e_gb a_bb)), (a_g, (oc6 6 5 a_gn e_g)), (a_gn, (arI G 30 f_g)), (a_b, (oc6 5 24 a_bn e_b)), (a_bn, (arI G 120 f_b)), (a_p, (oc6 8 5 a_pn e_p)), (a_pn, (arI G 40 f_p)), (a_bb, (arJ G 24 f_bb)), (a_j, (oc2 a_as a_sk)), (a_as, (arI G 8 m_as)), (a_sk, (arJ G 50 m_sk)), (a_l, (arW G 6 f_l)), (a_lo, (oc3 e_cl a_hd a_sr a_cd)), (a_sr, (arI G n_sr f_sr)), (a_cd, (arI G n_cd f_cd)), (a_hd, (arI G n_hd f_hd)), (a_pt, (arI G 200 m_pt)), (a_wk, (oc9 a_h a_k a_go a_mt)), (a_go, (arJ G 24 f_go)), (a_mt, (arI G 1536 f_mt))] H ∧ va_D A [(a_k, (oc5 a_h a_j a_pt m_ln m_se m_lh m_br m_we m_me m_ce m_wy m_ho m_ov)), (a_h, (oc1 e_wa e_le e_st e_fo e_lc a_l a_g a_b a_s a_p a_w e_gb a_bb)), (a_g, (oc6 6 5 a_gn e_g)), (a_gn, (arI G 30 f_g)), (a_b, (oc6 5 24 a_bn e_b)), (a_bn, (arI G 120 f_b)), (a_p, (oc6 8 5 a_pn e_p)), (a_pn, (arI G 40 f_p)), (a_bb, (arJ G 24 f_bb)), (a_j, (oc2 a_as a_sk)), (a_as, (arI G 8 m_as)), (a_sk, (arJ G 50 m_sk)), (a_l, (arW G 6 f_l)), (a_lo, (oc3 e_cl a_hd a_sr a_cd)), (a_sr, (arI G n_sr f_sr)), (a_cd, (arI G n_cd f_cd)), (a_hd, (arI G n_hd f_hd)), (a_pt, (arI G 200 m_pt)), (a_wk, (oc9 a_h a_k a_go a_mt)), (a_go, (arJ G 24 f_go)), (a_mt, (arI G 1536 f_mt))] ∧ va_S A s.heap H locs ∧ (0 ≤ m_i.toInt ∧ m_i.toInt ≤ 64) ∧ (0 ≤ m_ov.toInt ∧ m_ov.toInt ≤ 1)) (fun (q : (Int32) × (Int32) × (Int32) × (Int32) × (Int32) × (Int32) × (Int32) × (Int32) × (Int32) × (Int32) × (Nat → Int32) × (Nat → Int32) × (Nat → Int64) × (Int32)) => match q with | (m_i, m_se, m_lh, m_br, m_we, m_me, m_ce, m_wy, m_ho, m_ov, m_pt, m_as, m_sk, m_ln) => Int.toNat (64 - m_i.toInt)) (0, k_se, k_lh, k_br, k_we, k_me, k_ce, k_wy, k_ho, k_ov, k_pt, k_as, k_sk, k_ln) ⟨lv_sub hl [0, 1, 2, 3, 4, 5, 6, 7, 8] rfl, hP, hD, hS, ⟨by decide, by decide⟩, i_2⟩ ?_
    rintro ⟨m_i, m_se, m_lh, m_br, m_we, m_me, m_ce, m_wy, m_ho, m_ov, m_pt, m_as, m_sk, m_ln⟩ ls H locs ⟨hl, hP, hD, hS, i_6, i_7⟩ ih_19_8
    have hl : lv_has ls 11 [(9, .int m_i), (6, .long k_x), (8, .int k_h), (0, .ref a_wk), (1, .int p_g), (2, .int p_b), (3, .int p_c), (4, .int p_f), (5, .int p_e)] := hl
    have i_6 : 0 ≤ m_i.toInt ∧ m_i.toInt ≤ 64 := i_6
    have i_7 : 0 ≤ m_ov.toInt ∧ m_ov.toInt ≤ 1 := i_7
    refine g5_rs [(a_k, (oc5 a_h a_j a_pt m_ln m_se m_lh m_br m_we m_me m_ce m_wy m_ho m_ov)), (a_h, (oc1 e_wa e_le e_st e_fo e_lc a_l a_g a_b a_s a_p a_w e_gb a_bb)), (a_g, (oc6 6 5 a_gn e_g)), (a_gn, (arI G 30 f_g)), (a_b, (oc6 5 24 a_bn e_b)), (a_bn, (arI G 120 f_b)), (a_p, (oc6 8 5 a_pn e_p)), (a_pn, (arI G 40 f_p)), (a_bb, (arJ G 24 f_bb)), (a_j, (oc2 a_as a_sk)), (a_as, (arI G 8 m_as)), (a_sk, (arJ G 50 m_sk)), (a_l, (arW G 6 f_l)), (a_lo, (oc3 e_cl a_hd a_sr a_cd)), (a_sr, (arI G n_sr f_sr)), (a_cd, (arI G n_cd f_cd)), (a_hd, (arI G n_hd f_hd)), (a_pt, (arI G 200 m_pt)), (a_wk, (oc9 a_h a_k a_go a_mt)), (a_go, (arJ G 24 f_go)), (a_mt, (arI G 1536 f_mt))] hP hD (fun hP hD => ?_)
    refine lv_iload hx hb dX9_sightBy_19 (lv_at hl 0 rfl) ?_
    refine lv_bipush (v := 64) hx hb dX9_sightBy_21 (by decide) ?_
    refine lv_icmp_ge (tgt := 92) hx hb dX9_sightBy_23 (by decide) (fun c_9 => ?_) (fun c_9 => ?_)
    ·
      have i_9 : m_i.toInt ≥ 64 := by have z := g5_ge (a := m_i.toInt) (b := 64) (by rfl) (by decide) c_9; omega
      refine lv_aload_n hx hb dX9_sightBy_92 rfl (lv_at hl 3 rfl) ?_
      refine lv_lload hx hb dX9_sightBy_93 (lv_at hl 1 rfl) ?_
      obtain ⟨hPc, hDc, hFc⟩ := g5_sub3 (wc := [(a_h, (oc1 e_wa e_le e_st e_fo e_lc a_l a_g a_b a_s a_p a_w e_gb a_bb)), (a_wk, (oc9 a_h a_k a_go a_mt))]) hP hD hS hA [1, 18] (by decide) rfl
      refine va_calll (va_runV (As := [.long k_x]) (rest := []) ⟨hx, hb, hml, hown, hts⟩ (a_spread l G a_h a_wk a_l a_g a_b a_s a_p a_w a_bb a_k a_go a_mt H.size e_le e_st e_fo e_lc e_wa e_gb k_x) (cwV 1 hts gV_X9_56 rfl rfl rfl hv_X9_spread ⟨Nat.le_of_ble_eq_true rfl, Nat.le_of_ble_eq_true rfl⟩) (g5_preV hPc hK hDc hN hT hS hFc (ci := 9) (q0 := 1) rfl rfl) rfl rfl hl.1 rfl (lv_room (Nat.le_of_ble_eq_true rfl)) dX9_sightBy_95 ⟨Nat.le_of_ble_eq_true rfl, Nat.le_of_ble_eq_true rfl⟩) hS (fun q _ h => hFc q h) hFc (fun r u t H1 locs ht hvm hw hB hz1 hk1 hS => ?_)
      obtain ⟨hP1, hD1⟩ := hB
      rw [ht] at hP1
      obtain ⟨z10, y11, rfl⟩ := hw
      obtain ⟨hP, hD⟩ := va_join (wr := [(a_k, (oc5 a_h a_j a_pt m_ln m_se m_lh m_br m_we m_me m_ce m_wy m_ho m_ov)), (a_g, (oc6 6 5 a_gn e_g)), (a_gn, (arI G 30 f_g)), (a_b, (oc6 5 24 a_bn e_b)), (a_bn, (arI G 120 f_b)), (a_p, (oc6 8 5 a_pn e_p)), (a_pn, (arI G 40 f_p)), (a_bb, (arJ G 24 f_bb)), (a_j, (oc2 a_as a_sk)), (a_as, (arI G 8 m_as)), (a_sk, (arJ G 50 m_sk)), (a_l, (arW G 6 f_l)), (a_lo, (oc3 e_cl a_hd a_sr a_cd)), (a_sr, (arI G n_sr f_sr)), (a_cd, (arI G n_cd f_cd)), (a_hd, (arI G n_hd f_hd)), (a_pt, (arI G 200 m_pt)), (a_go, (arJ G 24 f_go)), (a_mt, (arI G 1536 f_mt))]) hP hD [1, 18] [0, 2, 3, 4, 5, 6, 7, 8, 9, 10, 11, 12, 13, 14, 15, 16, 17, 19, 20] rfl rfl (by decide) (by decide) hk1 hFc hP1 hD1
      generalize H1 = H at hP hS ⊢
      refine g5_rs [(a_k, (oc5 a_h a_j a_pt m_ln m_se m_lh m_br m_we m_me m_ce m_wy m_ho m_ov)), (a_g, (oc6 6 5 a_gn e_g)), (a_gn, (arI G 30 f_g)), (a_b, (oc6 5 24 a_bn e_b)), (a_bn, (arI G 120 f_b)), (a_p, (oc6 8 5 a_pn e_p)), (a_pn, (arI G 40 f_p)), (a_bb, (arJ G 24 f_bb)), (a_j, (oc2 a_as a_sk)), (a_as, (arI G 8 m_as)), (a_sk, (arJ G 50 m_sk)), (a_l, (arW G 6 f_l)), (a_lo, (oc3 e_cl a_hd a_sr a_cd)), (a_sr, (arI G n_sr f_sr)), (a_cd, (arI G n_cd f_cd)), (a_hd, (arI G n_hd f_hd)), (a_pt, (arI G 200 m_pt)), (a_go, (arJ G 24 f_go)), (a_mt, (arI G 1536 f_mt)), (a_h, (oc1 e_wa e_le e_st e_fo e_lc a_l a_g a_b a_s a_p a_w e_gb a_bb)), (a_wk, (oc9 a_h a_k a_go a_mt))] hP hD (fun hP hD => ?_)
      refine g5_tl (v := z10) y11 ?_
      refine lv_lstore (lv' := [(6, .long z10), (9, .int m_i), (8, .int k_h), (0, .ref a_wk), (1, .int p_g), (2, .int p_b), (3, .int p_c), (4, .int p_f), (5, .int p_e)]) hx hb dX9_sightBy_98 hl (by decide) rfl (fun ls hl => ?_)
      refine lv_iinc (v := (k_h + 1)) (lv' := [(8, .int (k_h + 1)), (6, .long z10), (9, .int m_i), (0, .ref a_wk), (1, .int p_g), (2, .int p_b), (3, .int p_c), (4, .int p_f), (5, .int p_e)]) hx hb dX9_sightBy_100 hl (k := 2) rfl rfl (by decide) rfl (fun ls hl => ?_)
      have t_12 : (k_h + 1).toInt = k_h.toInt + 1 := g5_iadd (a := k_h.toInt) (b := 1) rfl (by decide) (by omega) (by omega)
      refine lv_goto (tgt := 9) hx hb dX9_sightBy_103 (by decide) ?_
      exact ih_9_4 (z10, (k_h + 1), m_se, m_lh, m_br, m_we, m_me, m_ce, m_wy, m_ho, m_ov, m_pt, m_as, m_sk, m_ln) ls H locs (show Int.toNat (24 - (k_h + 1).toInt) < Int.toNat (24 - k_h.toInt) from g_up (show k_h.toInt < (k_h + 1).toInt by omega) (show k_h.toInt < 24 by omega)) ⟨lv_sub hl [1, 0, 3, 4, 5, 6, 7, 8] rfl, hP.sub [0, 19, 1, 2, 3, 4, 5, 6, 7, 8, 9, 10, 11, 12, 13, 14, 15, 16, 20, 17, 18] rfl, hD.sub [0, 19, 1, 2, 3, 4, 5, 6, 7, 8, 9, 10, 11, 12, 13, 14, 15, 16, 20, 17, 18] (by decide) rfl, hS, ⟨by omega, by omega⟩, i_7, by omega⟩
    ·
      have i_9 : m_i.toInt < 64 := by have z := g5_geN (a := m_i.toInt) (b := 64) (by rfl) (by decide) c_9; omega
      refine lv_lload hx hb dX9_sightBy_26 (lv_at hl 1 rfl) ?_
      refine lv_iload hx hb dX9_sightBy_28 (lv_at hl 0 rfl) ?_
      obtain ⟨hPc, hDc, hFc⟩ := g5_sub3 (wc := []) hP hD hS hA [] (by decide) rfl
      refine va_calli (va_runSN (As := [.long k_x, .int m_i]) (rest := []) ⟨hx, hb, hml, hown, hts⟩ (k_isOn l G H.size m_i k_x ⟨by omega, by omega⟩) ⟨va_cnB 2 hts gW_X11_isOn rfl rfl rfl (hN.1 _ g5_nw_X9_43) (hts _ ini_X11) hs_X11_isOn ⟨Nat.le_of_ble_eq_true rfl, Nat.le_of_ble_eq_true rfl⟩, hts _ st_X11_isOn, trivial⟩ (g5_preS hPc hK hDc hN hT hS hFc) rfl rfl hl.1 rfl (lv_room (Nat.le_of_ble_eq_true rfl)) dX9_sightBy_30 ⟨Nat.le_of_ble_eq_true rfl, Nat.le_of_ble_eq_true rfl⟩) hS (fun q _ h => hFc q h) hFc (fun r u t H1 locs ht hvm hw hB hz1 hk1 hS => ?_)
      obtain ⟨hP1, hD1⟩ := hB
      rw [ht] at hP1
      rcases hw with ⟨i_13, rfl, rfl⟩ | ⟨i_14, rfl, rfl⟩
      ·
        have i_13 : onB k_x m_i.toInt = false := i_13
        have hP := g5_same hP hk1
        generalize H1 = H at hP hS ⊢
        refine lv_if_eq (tgt := 60) hx hb dX9_sightBy_33 (by decide) (fun c_15 => ?_) (fun c_15 => ?_)
        ·
          refine lv_iconst (v := 0) hx hb dX9_sightBy_60 (by decide) ?_
          refine lv_istore (lv' := [(10, .int 0), (9, .int m_i), (6, .long k_x), (8, .int k_h), (0, .ref a_wk), (1, .int p_g), (2, .int p_b), (3, .int p_c), (4, .int p_f), (5, .int p_e)]) hx hb dX9_sightBy_61 hl (by decide) rfl (fun ls hl => ?_)
          refine lv_iload hx hb dX9_sightBy_63 (lv_at hl 0 rfl) ?_
          refine lv_if_eq (tgt := 86) hx hb dX9_sightBy_65 (by decide) (fun c_16 => ?_) (fun c_16 => ?_)
          ·
            refine lv_iinc (v := (m_i + 1)) (lv' := [(9, .int (m_i + 1)), (10, .int 0), (6, .long k_x), (8, .int k_h), (0, .ref a_wk), (1, .int p_g), (2, .int p_b), (3, .int p_c), (4, .int p_f), (5, .int p_e)]) hx hb dX9_sightBy_86 hl (k := 1) rfl rfl (by decide) rfl (fun ls hl => ?_)
            have t_17 : (m_i + 1).toInt = m_i.toInt + 1 := g5_iadd (a := m_i.toInt) (b := 1) rfl (by decide) (by omega) (by omega)
            refine lv_goto (tgt := 19) hx hb dX9_sightBy_89 (by decide) ?_
            exact ih_19_8 ((m_i + 1), m_se, m_lh, m_br, m_we, m_me, m_ce, m_wy, m_ho, m_ov, m_pt, m_as, m_sk, m_ln) ls H locs (show Int.toNat (64 - (m_i + 1).toInt) < Int.toNat (64 - m_i.toInt) from g_up (show m_i.toInt < (m_i + 1).toInt by omega) (show m_i.toInt < 64 by omega)) ⟨lv_sub hl [0, 2, 3, 4, 5, 6, 7, 8, 9] rfl, hP, hD, hS, ⟨by omega, by omega⟩, i_7⟩
          ·
            exact absurd c_16 (by decide)
        ·
          exact absurd c_15 (by decide)
      ·
        have i_14 : onB k_x m_i.toInt = true := i_14
        have hP := g5_same hP hk1
        generalize H1 = H at hP hS ⊢
        refine lv_if_eq (tgt := 60) hx hb dX9_sightBy_33 (by decide) (fun c_18 => ?_) (fun c_18 => ?_)
        ·
          exact absurd c_18 (by decide)
        ·
          refine lv_aload_n hx hb dX9_sightBy_36 rfl (lv_at hl 3 rfl) ?_
          refine va_get (D := G.1) (ci := 9) (v := .ref a_mt) (C := RX9) (T := TX9) (N := 4) hx hb hts inG_X9 hown hK hP 18 rfl rfl 3 (by decide) (hts _ fl_X9_15) (fun _ h9 => h9) rfl dX9_sightBy_37 ?_
          refine lv_iload hx hb dX9_sightBy_40 (lv_at hl 2 rfl) ?_
          refine lv_bipush (v := 64) hx hb dX9_sightBy_42 (by decide) ?_
          refine lv_imul hx hb dX9_sightBy_44 ?_
          have t_19 : (k_h * 64).toInt = k_h.toInt * 64 := g5_imul (a := k_h.toInt) (b := 64) (by rfl) (by decide) (by omega) (by omega)
          refine lv_iload hx hb dX9_sightBy_45 (lv_at hl 0 rfl) ?_
          refine lv_iadd hx hb dX9_sightBy_47 ?_
          have t_20 : ((k_h * 64) + m_i).toInt = (k_h * 64).toInt + m_i.toInt := g5_iadd (a := (k_h * 64).toInt) (b := m_i.toInt) (by rfl) (by rfl) (by omega) (by omega)
          refine va_iald hx hb hK hP 20 0 rfl rfl (i := ((k_h * 64) + m_i)) (vp_in_iff.mpr ⟨by omega, by omega⟩) dX9_sightBy_48 ?_
          refine lv_iload_n hx hb dX9_sightBy_49 rfl (lv_at hl 4 rfl) ?_
          refine lv_ishr hx hb dX9_sightBy_50 ?_
          refine lv_iconst (v := 1) hx hb dX9_sightBy_51 (by decide) ?_
          refine lv_iand hx hb dX9_sightBy_52 ?_
          refine lv_if_eq (tgt := 60) hx hb dX9_sightBy_53 (by decide) (fun c_21 => ?_) (fun c_21 => ?_)
          ·
            have i_21 : (((f_mt ((k_h * 64) + m_i).toNatClampNeg) >>> (p_g &&& 31)) &&& 1).toInt = 0 := by have z := g5_eq (a := (((f_mt ((k_h * 64) + m_i).toNatClampNeg) >>> (p_g &&& 31)) &&& 1).toInt) (b := 0) (by rfl) (by decide) c_21; omega
            refine lv_iconst (v := 0) hx hb dX9_sightBy_60 (by decide) ?_
            refine lv_istore (lv' := [(10, .int 0), (9, .int m_i), (6, .long k_x), (8, .int k_h), (0, .ref a_wk), (1, .int p_g), (2, .int p_b), (3, .int p_c), (4, .int p_f), (5, .int p_e)]) hx hb dX9_sightBy_61 hl (by decide) rfl (fun ls hl => ?_)
            refine lv_iload hx hb dX9_sightBy_63 (lv_at hl 0 rfl) ?_
            refine lv_if_eq (tgt := 86) hx hb dX9_sightBy_65 (by decide) (fun c_22 => ?_) (fun c_22 => ?_)
            ·
              refine lv_iinc (v := (m_i + 1)) (lv' := [(9, .int (m_i + 1)), (10, .int 0), (6, .long k_x), (8, .int k_h), (0, .ref a_wk), (1, .int p_g), (2, .int p_b), (3, .int p_c), (4, .int p_f), (5, .int p_e)]) hx hb dX9_sightBy_86 hl (k := 1) rfl rfl (by decide) rfl (fun ls hl => ?_)
              have t_23 : (m_i + 1).toInt = m_i.toInt + 1 := g5_iadd (a := m_i.toInt) (b := 1) rfl (by decide) (by omega) (by omega)
              refine lv_goto (tgt := 19) hx hb dX9_sightBy_89 (by decide) ?_
              exact ih_19_8 ((m_i + 1), m_se, m_lh, m_br, m_we, m_me, m_ce, m_wy, m_ho, m_ov, m_pt, m_as, m_sk, m_ln) ls H locs (show Int.toNat (64 - (m_i + 1).toInt) < Int.toNat (64 - m_i.toInt) from g_up (show m_i.toInt < (m_i + 1).toInt by omega) (show m_i.toInt < 64 by omega)) ⟨lv_sub hl [0, 2, 3, 4, 5, 6, 7, 8, 9] rfl, hP, hD, hS, ⟨by omega, by omega⟩, i_7⟩
            ·
              exact absurd c_22 (by decide)
          ·
            have n_21 : gNe ((((f_mt ((k_h * 64) + m_i).toNatClampNeg) >>> (p_g &&& 31)) &&& 1).toInt) (0) := by have z := g5_eqN (a := (((f_mt ((k_h * 64) + m_i).toNatClampNeg) >>> (p_g &&& 31)) &&& 1).toInt) (b := 0) (by rfl) (by decide) c_21; unfold gNe; omega
            refine lv_iconst (v := 1) hx hb dX9_sightBy_56 (by decide) ?_
            refine lv_goto (tgt := 61) hx hb dX9_sightBy_57 (by decide) ?_
            refine lv_istore (lv' := [(10, .int 1), (9, .int m_i), (6, .long k_x), (8, .int k_h), (0, .ref a_wk), (1, .int p_g), (2, .int p_b), (3, .int p_c), (4, .int p_f), (5, .int p_e)]) hx hb dX9_sightBy_61 hl (by decide) rfl (fun ls hl => ?_)
            refine lv_iload hx hb dX9_sightBy_63 (lv_at hl 0 rfl) ?_
            refine lv_if_eq (tgt := 86) hx hb dX9_sightBy_65 (by decide) (fun c_24 => ?_) (fun c_24 => ?_)
            ·
              exact absurd c_24 (by decide)
            ·
              refine lv_aload_n hx hb dX9_sightBy_68 rfl (lv_at hl 4 rfl) ?_
              refine va_get (D := G.1) (ci := 9) (v := .ref a_k) (C := RX9) (T := TX9) (N := 4) hx hb hts inG_X9 hown hK hP 18 rfl rfl 1 (by decide) (hts _ fl_X9_23) (fun _ h9 => h9) rfl dX9_sightBy_69 ?_
              refine lv_iload_n hx hb dX9_sightBy_72 rfl (lv_at hl 6 rfl) ?_
              refine lv_iload hx hb dX9_sightBy_73 (lv_at hl 1 rfl) ?_
              refine lv_iload hx hb dX9_sightBy_75 (lv_at hl 3 rfl) ?_
              obtain ⟨hPc, hDc, hFc⟩ := g5_sub3 (wc := [(a_k, (oc5 a_h a_j a_pt m_ln m_se m_lh m_br m_we m_me m_ce m_wy m_ho m_ov)), (a_h, (oc1 e_wa e_le e_st e_fo e_lc a_l a_g a_b a_s a_p a_w e_gb a_bb)), (a_g, (oc6 6 5 a_gn e_g)), (a_gn, (arI G 30 f_g)), (a_b, (oc6 5 24 a_bn e_b)), (a_bn, (arI G 120 f_b)), (a_p, (oc6 8 5 a_pn e_p)), (a_pn, (arI G 40 f_p)), (a_bb, (arJ G 24 f_bb)), (a_j, (oc2 a_as a_sk)), (a_as, (arI G 8 m_as)), (a_sk, (arJ G 50 m_sk)), (a_l, (arW G 6 f_l)), (a_lo, (oc3 e_cl a_hd a_sr a_cd)), (a_sr, (arI G n_sr f_sr)), (a_cd, (arI G n_cd f_cd)), (a_hd, (arI G n_hd f_hd)), (a_pt, (arI G 200 m_pt))]) hP hD hS hA [0, 1, 2, 3, 4, 5, 6, 7, 8, 9, 10, 11, 12, 13, 14, 15, 16, 17] (by decide) rfl
              refine va_calli (va_runV (As := [.int p_b, .int m_i, .int k_h]) (rest := []) ⟨hx, hb, hml, hown, hts⟩ (s_findsBodyL l G a_k a_h a_g a_gn a_b a_bn a_p a_pn a_bb a_j a_as a_sk a_l a_lo a_sr a_cd a_hd a_pt a_s a_w H.size e_le e_st e_fo e_lc e_g e_b e_p e_cl m_ln m_se m_lh m_br m_we m_me m_ce m_wy m_ho m_ov m_i k_h p_b e_wa e_gb f_g f_b f_p f_bb m_as m_sk f_l f_sr f_cd f_hd m_pt n_sr n_cd n_hd h_e_g h_e_b h_e_p h_e_cl i_7 (e_gk) (e_pk) (e_gi) (e_f) (e_a) (e_hn) (e_hs) (e_hk) (e_c)) (cwV 3 hts gV_X9_47 rfl rfl rfl hv_X5_findsBody ⟨Nat.le_of_ble_eq_true rfl, Nat.le_of_ble_eq_true rfl⟩) (g5_preV hPc hK hDc hN hT hS hFc (ci := 5) (q0 := 0) rfl rfl) rfl rfl hl.1 rfl (lv_room (Nat.le_of_ble_eq_true rfl)) dX9_sightBy_77 ⟨Nat.le_of_ble_eq_true rfl, Nat.le_of_ble_eq_true rfl⟩) hS (fun q _ h => hFc q h) hFc (fun r u t H1 locs ht hvm hw hB hz1 hk1 hS => ?_)
              obtain ⟨hP1, hD1⟩ := hB
              rw [ht] at hP1
              obtain ⟨z27, z28, z29, z30, z31, z32, z33, z34, z35, z36, z37, z38, z39, z40, i_25, i_26, y41, rfl⟩ := hw
              have i_25 : 0 ≤ z27.toInt ∧ z27.toInt ≤ 1 := i_25
              have i_26 : 0 ≤ z37.toInt ∧ z37.toInt ≤ 1 := i_26
              obtain ⟨hP, hD⟩ := va_join (wr := [(a_wk, (oc9 a_h a_k a_go a_mt)), (a_go, (arJ G 24 f_go)), (a_mt, (arI G 1536 f_mt))]) hP hD [0, 1, 2, 3, 4, 5, 6, 7, 8, 9, 10, 11, 12, 13, 14, 15, 16, 17] [18, 19, 20] rfl rfl (by decide) (by decide) hk1 hFc hP1 hD1
              generalize H1 = H at hP hS ⊢
              refine g5_rs [(a_wk, (oc9 a_h a_k a_go a_mt)), (a_go, (arJ G 24 f_go)), (a_mt, (arI G 1536 f_mt)), (a_k, (oc5 a_h a_j a_pt z28 z29 z30 z31 z32 z33 z34 z35 z36 z37)), (a_h, (oc1 e_wa e_le e_st e_fo e_lc a_l a_g a_b a_s a_p a_w e_gb a_bb)), (a_g, (oc6 6 5 a_gn e_g)), (a_gn, (arI G 30 f_g)), (a_b, (oc6 5 24 a_bn e_b)), (a_bn, (arI G 120 f_b)), (a_p, (oc6 8 5 a_pn e_p)), (a_pn, (arI G 40 f_p)), (a_bb, (arJ G 24 f_bb)), (a_j, (oc2 a_as a_sk)), (a_as, (arI G 8 z39)), (a_sk, (arJ G 50 z40)), (a_l, (arW G 6 f_l)), (a_lo, (oc3 e_cl a_hd a_sr a_cd)), (a_sr, (arI G n_sr f_sr)), (a_cd, (arI G n_cd f_cd)), (a_hd, (arI G n_hd f_hd)), (a_pt, (arI G 200 z38))] hP hD (fun hP hD => ?_)
              refine g5_ti (v := z27) y41 ?_
              refine lv_if_eq (tgt := 86) hx hb dX9_sightBy_80 (by decide) (fun c_42 => ?_) (fun c_42 => ?_)
              ·
                have i_42 : z27.toInt = 0 := by have z := g5_eq (a := z27.toInt) (b := 0) (by rfl) (by decide) c_42; omega
                refine lv_iinc (v := (m_i + 1)) (lv' := [(9, .int (m_i + 1)), (10, .int 1), (6, .long k_x), (8, .int k_h), (0, .ref a_wk), (1, .int p_g), (2, .int p_b), (3, .int p_c), (4, .int p_f), (5, .int p_e)]) hx hb dX9_sightBy_86 hl (k := 1) rfl rfl (by decide) rfl (fun ls hl => ?_)
                have t_43 : (m_i + 1).toInt = m_i.toInt + 1 := g5_iadd (a := m_i.toInt) (b := 1) rfl (by decide) (by omega) (by omega)
                refine lv_goto (tgt := 19) hx hb dX9_sightBy_89 (by decide) ?_
                exact ih_19_8 ((m_i + 1), z29, z30, z31, z32, z33, z34, z35, z36, z37, z38, z39, z40, z28) ls H locs (show Int.toNat (64 - (m_i + 1).toInt) < Int.toNat (64 - m_i.toInt) from g_up (show m_i.toInt < (m_i + 1).toInt by omega) (show m_i.toInt < 64 by omega)) ⟨lv_sub hl [0, 2, 3, 4, 5, 6, 7, 8, 9] rfl, hP.sub [3, 4, 5, 6, 7, 8, 9, 10, 11, 12, 13, 14, 15, 16, 17, 18, 19, 20, 0, 1, 2] rfl, hD.sub [3, 4, 5, 6, 7, 8, 9, 10, 11, 12, 13, 14, 15, 16, 17, 18, 19, 20, 0, 1, 2] (by decide) rfl, hS, ⟨by omega, by omega⟩, i_26⟩
              ·
                have n_42 : gNe (z27.toInt) (0) := by have z := g5_eqN (a := z27.toInt) (b := 0) (by rfl) (by decide) c_42; unfold gNe; omega
                have i_42 : z27.toInt ≥ 1 := by have z := g5_eqN (a := z27.toInt) (b := 0) (by rfl) (by decide) c_42; omega
                refine lv_iload hx hb dX9_sightBy_83 (lv_at hl 3 rfl) ?_
                exact W.iret (v := k_h) hx hb hr (fun t ht hW => ⟨⟨k_h, [(a_k, (oc5 a_h a_j a_pt z28 z29 z30 z31 z32 z33 z34 z35 z36 z37)), (a_h, (oc1 e_wa e_le e_st e_fo e_lc a_l a_g a_b a_s a_p a_w e_gb a_bb)), (a_g, (oc6 6 5 a_gn e_g)), (a_gn, (arI G 30 f_g)), (a_b, (oc6 5 24 a_bn e_b)), (a_bn, (arI G 120 f_b)), (a_p, (oc6 8 5 a_pn e_p)), (a_pn, (arI G 40 f_p)), (a_bb, (arJ G 24 f_bb)), (a_j, (oc2 a_as a_sk)), (a_as, (arI G 8 z39)), (a_sk, (arJ G 50 z40)), (a_l, (arW G 6 f_l)), (a_lo, (oc3 e_cl a_hd a_sr a_cd)), (a_sr, (arI G n_sr f_sr)), (a_cd, (arI G n_cd f_cd)), (a_hd, (arI G n_hd f_hd)), (a_pt, (arI G 200 z38)), (a_wk, (oc9 a_h a_k a_go a_mt)), (a_go, (arJ G 24 f_go)), (a_mt, (arI G 1536 f_mt))], rfl, ⟨k_h, z28, z29, z30, z31, z32, z33, z34, z35, z36, z37, z38, z39, z40, i_26, ⟨by omega, by omega⟩, Or.inr ⟨by omega, by omega⟩, rfl, rfl⟩, by rw [ht]; exact hP.sub [3, 4, 5, 6, 7, 8, 9, 10, 11, 12, 13, 14, 15, 16, 17, 18, 19, 20, 0, 1, 2] rfl, hD.sub [3, 4, 5, 6, 7, 8, 9, 10, 11, 12, 13, 14, 15, 16, 17, 18, 19, 20, 0, 1, 2] (by decide) rfl⟩, hS.F ht⟩) hS.2.2 dX9_sightBy_85
theorem dgX7_barPoints_0 : ∀ r ∈ ([(0, (.iconst 0, 1)), (1, (.istore_n 1, 1)), (2, (.iload_n 1, 1)), (3, (.aload_n 0, 1)), (4, (.getfield 38, 3)), (7, (.getfield 92, 3)), (10, (.if_icmp .ge 43, 3)), (13, (.aload_n 0, 1)), (14, (.getfield 9, 3)), (17, (.aload_n 0, 1)), (18, (.getfield 38, 3)), (21, (.getfield 95, 3)), (24, (.iload_n 1, 1)), (25, (.iaload, 1)), (26, (.bipush 64, 2)), (28, (.idiv, 1)), (29, (.dup2, 1)), (30, (.laload, 1)), (31, (.lconst 1, 1)), (32, (.aload_n 0, 1)), (33, (.getfield 38, 3)), (36, (.getfield 95, 3)), (39, (.iload_n 1, 1)), (40, (.iaload, 1)), (41, (.bipush 64, 2)), (43, (.irem, 1)), (44, (.lshl, 1)), (45, (.lor, 1)), (46, (.lastore, 1)), (47, (.iinc 1 1, 3)), (50, (.goto (-48), 3)), (53, (.return_, 1))] : List (Nat × (Instr × Nat))), decode cX7_barPoints r.1 = .ok r.2 := by decide +kernel
theorem dX7_barPoints_0 : decode cX7_barPoints 0 = .ok (.iconst 0, 1) := dgX7_barPoints_0 (0, (.iconst 0, 1)) (List.mem_of_getElem? (i := 0) rfl)
theorem dX7_barPoints_1 : decode cX7_barPoints 1 = .ok (.istore_n 1, 1) := dgX7_barPoints_0 (1, (.istore_n 1, 1)) (List.mem_of_getElem? (i := 1) rfl)
theorem dX7_barPoints_2 : decode cX7_barPoints 2 = .ok (.iload_n 1, 1) := dgX7_barPoints_0 (2, (.iload_n 1, 1)) (List.mem_of_getElem? (i := 2) rfl)
theorem dX7_barPoints_3 : decode cX7_barPoints 3 = .ok (.aload_n 0, 1) := dgX7_barPoints_0 (3, (.aload_n 0, 1)) (List.mem_of_getElem? (i := 3) rfl)
theorem dX7_barPoints_4 : decode cX7_barPoints 4 = .ok (.getfield 38, 3) := dgX7_barPoints_0 (4, (.getfield 38, 3)) (List.mem_of_getElem? (i := 4) rfl)
theorem dX7_barPoints_7 : decode cX7_barPoints 7 = .ok (.getfield 92, 3) := dgX7_barPoints_0 (7, (.getfield 92, 3)) (List.mem_of_getElem? (i := 5) rfl)
theorem dX7_barPoints_10 : decode cX7_barPoints 10 = .ok (.if_icmp .ge 43, 3) := dgX7_barPoints_0 (10, (.if_icmp .ge 43, 3)) (List.mem_of_getElem? (i := 6) rfl)
theorem dX7_barPoints_13 : decode cX7_barPoints 13 = .ok (.aload_n 0, 1) := dgX7_barPoints_0 (13, (.aload_n 0, 1)) (List.mem_of_getElem? (i := 7) rfl)
theorem dX7_barPoints_14 : decode cX7_barPoints 14 = .ok (.getfield 9, 3) := dgX7_barPoints_0 (14, (.getfield 9, 3)) (List.mem_of_getElem? (i := 8) rfl)
theorem dX7_barPoints_17 : decode cX7_barPoints 17 = .ok (.aload_n 0, 1) := dgX7_barPoints_0 (17, (.aload_n 0, 1)) (List.mem_of_getElem? (i := 9) rfl)
theorem dX7_barPoints_18 : decode cX7_barPoints 18 = .ok (.getfield 38, 3) := dgX7_barPoints_0 (18, (.getfield 38, 3)) (List.mem_of_getElem? (i := 10) rfl)
theorem dX7_barPoints_21 : decode cX7_barPoints 21 = .ok (.getfield 95, 3) := dgX7_barPoints_0 (21, (.getfield 95, 3)) (List.mem_of_getElem? (i := 11) rfl)
theorem dX7_barPoints_24 : decode cX7_barPoints 24 = .ok (.iload_n 1, 1) := dgX7_barPoints_0 (24, (.iload_n 1, 1)) (List.mem_of_getElem? (i := 12) rfl)
theorem dX7_barPoints_25 : decode cX7_barPoints 25 = .ok (.iaload, 1) := dgX7_barPoints_0 (25, (.iaload, 1)) (List.mem_of_getElem? (i := 13) rfl)
theorem dX7_barPoints_26 : decode cX7_barPoints 26 = .ok (.bipush 64, 2) := dgX7_barPoints_0 (26, (.bipush 64, 2)) (List.mem_of_getElem? (i := 14) rfl)
theorem dX7_barPoints_28 : decode cX7_barPoints 28 = .ok (.idiv, 1) := dgX7_barPoints_0 (28, (.idiv, 1)) (List.mem_of_getElem? (i := 15) rfl)
theorem dX7_barPoints_29 : decode cX7_barPoints 29 = .ok (.dup2, 1) := dgX7_barPoints_0 (29, (.dup2, 1)) (List.mem_of_getElem? (i := 16) rfl)
theorem dX7_barPoints_30 : decode cX7_barPoints 30 = .ok (.laload, 1) := dgX7_barPoints_0 (30, (.laload, 1)) (List.mem_of_getElem? (i := 17) rfl)
theorem dX7_barPoints_31 : decode cX7_barPoints 31 = .ok (.lconst 1, 1) := dgX7_barPoints_0 (31, (.lconst 1, 1)) (List.mem_of_getElem? (i := 18) rfl)
theorem dX7_barPoints_32 : decode cX7_barPoints 32 = .ok (.aload_n 0, 1) := dgX7_barPoints_0 (32, (.aload_n 0, 1)) (List.mem_of_getElem? (i := 19) rfl)
theorem dX7_barPoints_33 : decode cX7_barPoints 33 = .ok (.getfield 38, 3) := dgX7_barPoints_0 (33, (.getfield 38, 3)) (List.mem_of_getElem? (i := 20) rfl)
theorem dX7_barPoints_36 : decode cX7_barPoints 36 = .ok (.getfield 95, 3) := dgX7_barPoints_0 (36, (.getfield 95, 3)) (List.mem_of_getElem? (i := 21) rfl)
theorem dX7_barPoints_39 : decode cX7_barPoints 39 = .ok (.iload_n 1, 1) := dgX7_barPoints_0 (39, (.iload_n 1, 1)) (List.mem_of_getElem? (i := 22) rfl)
theorem dX7_barPoints_40 : decode cX7_barPoints 40 = .ok (.iaload, 1) := dgX7_barPoints_0 (40, (.iaload, 1)) (List.mem_of_getElem? (i := 23) rfl)
theorem dX7_barPoints_41 : decode cX7_barPoints 41 = .ok (.bipush 64, 2) := dgX7_barPoints_0 (41, (.bipush 64, 2)) (List.mem_of_getElem? (i := 24) rfl)
theorem dX7_barPoints_43 : decode cX7_barPoints 43 = .ok (.irem, 1) := dgX7_barPoints_0 (43, (.irem, 1)) (List.mem_of_getElem? (i := 25) rfl)
theorem dX7_barPoints_44 : decode cX7_barPoints 44 = .ok (.lshl, 1) := dgX7_barPoints_0 (44, (.lshl, 1)) (List.mem_of_getElem? (i := 26) rfl)
theorem dX7_barPoints_45 : decode cX7_barPoints 45 = .ok (.lor, 1) := dgX7_barPoints_0 (45, (.lor, 1)) (List.mem_of_getElem? (i := 27) rfl)
theorem dX7_barPoints_46 : decode cX7_barPoints 46 = .ok (.lastore, 1) := dgX7_barPoints_0 (46, (.lastore, 1)) (List.mem_of_getElem? (i := 28) rfl)
theorem dX7_barPoints_47 : decode cX7_barPoints 47 = .ok (.iinc 1 1, 3) := dgX7_barPoints_0 (47, (.iinc 1 1, 3)) (List.mem_of_getElem? (i := 29) rfl)
theorem dX7_barPoints_50 : decode cX7_barPoints 50 = .ok (.goto (-48), 3) := dgX7_barPoints_0 (50, (.goto (-48), 3)) (List.mem_of_getElem? (i := 30) rfl)
theorem dX7_barPoints_53 : decode cX7_barPoints 53 = .ok (.return_, 1) := dgX7_barPoints_0 (53, (.return_, 1)) (List.mem_of_getElem? (i := 31) rfl)
theorem inG_X7 : ∀ w ∈ wsX70, w ∈ tblG := tgs [328, 330, 332, 334, 336, 338, 340, 342, 344, 346] (by decide +kernel) (by decide +kernel)
theorem fl_X7_38 : Cond.fieldLink RX7 38 "LateGlass$Thief" "eye" "LLateGlass$Look;" ∈ tblG := tg 318 (by decide +kernel) (by decide +kernel)
theorem fl_X7_92 : Cond.fieldLink RX7 92 "LateGlass$Look" "length" "I" ∈ tblG := tg 251 (by decide +kernel) (by decide +kernel)
theorem fl_X7_9 : Cond.fieldLink RX7 9 "LateGlass$Thief" "barred" "[J" ∈ tblG := tg 319 (by decide +kernel) (by decide +kernel)
theorem fl_X7_95 : Cond.fieldLink RX7 95 "LateGlass$Look" "points" "[I" ∈ tblG := tg 247 (by decide +kernel) (by decide +kernel)
set_option maxHeartbeats 4000000 in
set_option maxRecDepth 100000 in
theorem th_bar (l : Launch) (G : g5_G) (a_th a_k a_pt a_ba a_h a_ad a_cn a_nx a_hp a_hl a_lv a_j : Nat) (sz : Nat) (e_fu : Int32) (e_ln : Int32) (e_se : Int32) (e_lh : Int32) (e_br : Int32) (e_we : Int32) (e_me : Int32) (e_ce : Int32) (e_wy : Int32) (e_ho : Int32) (e_ov : Int32) (f_pt : Nat → Int32) (f_ba : Nat → Int64) (h_e_ln : 0 ≤ e_ln.toInt ∧ e_ln.toInt ≤ 200) (h_e_ov : 0 ≤ e_ov.toInt ∧ e_ov.toInt ≤ 1) (e_q : ∀ j : Nat, (j : Int) < e_ln.toInt → 0 ≤ (f_pt j).toInt ∧ (f_pt j).toInt ≤ 1535) : Met l yX7_barPoints (wsG yX7_barPoints cX7_barPoints 2 none) ({ frames := 0, cells := 0, slots := 0, locals := 0 }) (va_Pc [.ref a_th] (g5_P G [(a_th, (oc7 a_h a_k a_ba a_ad e_fu a_cn a_nx a_hp a_hl a_lv)), (a_k, (oc5 a_h a_j a_pt e_ln e_se e_lh e_br e_we e_me e_ce e_wy e_ho e_ov)), (a_pt, (arI G 200 f_pt)), (a_ba, (arJ G 24 f_ba))] sz)) (va_Qv (fun (u : va_W) => (∃ (o_f : Nat → Int64), (u = [(a_th, (oc7 a_h a_k a_ba a_ad e_fu a_cn a_nx a_hp a_hl a_lv)), (a_k, (oc5 a_h a_j a_pt e_ln e_se e_lh e_br e_we e_me e_ce e_wy e_ho e_ov)), (a_pt, (arI G 200 f_pt)), (a_ba, (arJ G 24 o_f))]))) (g5_B G (va_A [(a_th, (oc7 a_h a_k a_ba a_ad e_fu a_cn a_nx a_hp a_hl a_lv)), (a_k, (oc5 a_h a_j a_pt e_ln e_se e_lh e_br e_we e_me e_ce e_wy e_ho e_ov)), (a_pt, (arI G 200 f_pt)), (a_ba, (arJ G 24 f_ba))] sz)) (va_A [(a_th, (oc7 a_h a_k a_ba a_ad e_fu a_cn a_nx a_hp a_hl a_lv)), (a_k, (oc5 a_h a_j a_pt e_ln e_se e_lh e_br e_we e_me e_ce e_wy e_ho e_ov)), (a_pt, (arI G 200 f_pt)), (a_ba, (arJ G 24 f_ba))] sz)) 0 0 (va_A [(a_th, (oc7 a_h a_k a_ba a_ad e_fu a_cn a_nx a_hp a_hl a_lv)), (a_k, (oc5 a_h a_j a_pt e_ln e_se e_lh e_br e_we e_me e_ce e_wy e_ho e_ov)), (a_pt, (arI G 200 f_pt)), (a_ba, (arJ G 24 f_ba))] sz) := by
  refine Met.ofW (cc := cX7_barPoints) (maxL := 2) (ret := none) (by decide) rfl ?_
  intro p e s m args below meth c s₁ B hml hv
  obtain ⟨rfl, hsz, hP, hK, hD0, hN, hT⟩ := hv
  have hx := B.exec
  have hb := B.bytes
  have hr := B.returns
  have hts : ∀ w ∈ tblG, w.before _ s = true := fun w h => atoms_spec (ws := (wsG yX7_barPoints cX7_barPoints 2 none)) B.pre w (List.mem_cons_of_mem _ h)
  have hown : s.vm.findClass RX7 = some m.cls := findClass_of_methodNamed B.named
  have hlocks := B.notSynchronized
  subst hsz
  have hD := hD0.self (sz := s.heap.size)
  generalize hAe : va_A [(a_th, (oc7 a_h a_k a_ba a_ad e_fu a_cn a_nx a_hp a_hl a_lv)), (a_k, (oc5 a_h a_j a_pt e_ln e_se e_lh e_br e_we e_me e_ce e_wy e_ho e_ov)), (a_pt, (arI G 200 f_pt)), (a_ba, (arJ G 24 f_ba))] s.heap.size = A at hD hT ⊢
  have hA : ∀ q : Nat, s.heap.size ≤ q → A q := fun q h => by rw [← hAe]; exact Or.inr h
  have hS : va_S A s.heap s.heap [] := va_S.rf
  have hP : va_P G.1 vwCl [(a_th, (oc7 a_h a_k a_ba a_ad e_fu a_cn a_nx a_hp a_hl a_lv)), (a_k, (oc5 a_h a_j a_pt e_ln e_se e_lh e_br e_we e_me e_ce e_wy e_ho e_ov)), (a_pt, (arI G 200 f_pt)), (a_ba, (arJ G 24 f_ba))] s.heap := hP
  have hl := lv_entry ([.ref a_th]) (n := 2) (Nat.le_of_ble_eq_true rfl)
  rw [lg_entry_eq]
  generalize (lg_sl ([.ref a_th]) ++ List.replicate (2 - (lg_sl ([.ref a_th])).length) Slot.unset).toArray = ls at hl ⊢
  have hl : lv_has ls 2 [(0, .ref a_th)] := hl
  refine lv_iconst (v := 0) hx hb dX7_barPoints_0 (by decide) ?_
  refine lv_istore_n (lv' := [(1, .int 0), (0, .ref a_th)]) hx hb dX7_barPoints_1 rfl hl (by decide) rfl (fun ls hl => ?_)
  refine g5_loop (α := (Int32) × (Nat → Int64)) (fun (q : (Int32) × (Nat → Int64)) (ls : Array Slot) (H : Heap) (locs : List Loc) => match q with | (k_i, k_f) => lv_has ls 2 [(1, .int k_i), (0, .ref a_th)] ∧ va_P G.1 vwCl [(a_th, (oc7 a_h a_k a_ba a_ad e_fu a_cn a_nx a_hp a_hl a_lv)), (a_k, (oc5 a_h a_j a_pt e_ln e_se e_lh e_br e_we e_me e_ce e_wy e_ho e_ov)), (a_pt, (arI G 200 f_pt)), (a_ba, (arJ G 24 k_f))] H ∧ va_D A [(a_th, (oc7 a_h a_k a_ba a_ad e_fu a_cn a_nx a_hp a_hl a_lv)), (a_k, (oc5 a_h a_j a_pt e_ln e_se e_lh e_br e_we e_me e_ce e_wy e_ho e_ov)), (a_pt, (arI G 200 f_pt)), (a_ba, (arJ G 24 k_f))] ∧ va_S A s.heap H locs ∧ (0 ≤ k_i.toInt ∧ k_i.toInt ≤ 200)) (fun (q : (Int32) × (Nat → Int64)) => match q with | (k_i, k_f) => Int.toNat (200 - k_i.toInt)) (0, f_ba) ⟨lv_sub hl [0, 1] rfl, hP, hD, hS, ⟨by decide, by decide⟩⟩ ?_
  rintro ⟨k_i, k_f⟩ ls H locs ⟨hl, hP, hD, hS, i_1⟩ ih_2_2
  have hl : lv_has ls 2 [(1, .int k_i), (0, .ref a_th)] := hl
  have i_1 : 0 ≤ k_i.toInt ∧ k_i.toInt ≤ 200 := i_1
  refine g5_rs [(a_th, (oc7 a_h a_k a_ba a_ad e_fu a_cn a_nx a_hp a_hl a_lv)), (a_k, (oc5 a_h a_j a_pt e_ln e_se e_lh e_br e_we e_me e_ce e_wy e_ho e_ov)), (a_pt, (arI G 200 f_pt)), (a_ba, (arJ G 24 k_f))] hP hD (fun hP hD => ?_)
  refine lv_iload_n hx hb dX7_barPoints_2 rfl (lv_at hl 0 rfl) ?_
  refine lv_aload_n hx hb dX7_barPoints_3 rfl (lv_at hl 1 rfl) ?_
  refine va_get (D := G.1) (ci := 7) (v := .ref a_k) (C := RX7) (T := TX7) (N := 10) hx hb hts inG_X7 hown hK hP 0 rfl rfl 1 (by decide) (hts _ fl_X7_38) (fun _ h9 => h9) rfl dX7_barPoints_4 ?_
  refine va_get (D := G.1) (ci := 5) (v := .int e_ln) (C := RX5) (T := TX5) (N := 13) hx hb hts inG_X5 hown hK hP 1 rfl rfl 3 (by decide) (hts _ fl_X7_92) (fun _ h9 => h9) rfl dX7_barPoints_7 ?_
  refine lv_icmp_ge (tgt := 53) hx hb dX7_barPoints_10 (by decide) (fun c_3 => ?_) (fun c_3 => ?_)
  ·
    have i_3 : k_i.toInt ≥ e_ln.toInt := by have z := g5_ge (a := k_i.toInt) (b := e_ln.toInt) (by rfl) (by rfl) c_3; omega
    exact W.vret hx hb hr (fun t ht hW => ⟨⟨[(a_th, (oc7 a_h a_k a_ba a_ad e_fu a_cn a_nx a_hp a_hl a_lv)), (a_k, (oc5 a_h a_j a_pt e_ln e_se e_lh e_br e_we e_me e_ce e_wy e_ho e_ov)), (a_pt, (arI G 200 f_pt)), (a_ba, (arJ G 24 k_f))], rfl, ⟨k_f, rfl⟩, by rw [ht]; exact hP.sub [0, 1, 2, 3] rfl, hD.sub [0, 1, 2, 3] (by decide) rfl⟩, hS.F ht⟩) hS.2.2 dX7_barPoints_53
  ·
    have i_3 : k_i.toInt < e_ln.toInt := by have z := g5_geN (a := k_i.toInt) (b := e_ln.toInt) (by rfl) (by rfl) c_3; omega
    refine lv_aload_n hx hb dX7_barPoints_13 rfl (lv_at hl 1 rfl) ?_
    refine va_get (D := G.1) (ci := 7) (v := .ref a_ba) (C := RX7) (T := TX7) (N := 10) hx hb hts inG_X7 hown hK hP 0 rfl rfl 2 (by decide) (hts _ fl_X7_9) (fun _ h9 => h9) rfl dX7_barPoints_14 ?_
    refine lv_aload_n hx hb dX7_barPoints_17 rfl (lv_at hl 1 rfl) ?_
    refine va_get (D := G.1) (ci := 7) (v := .ref a_k) (C := RX7) (T := TX7) (N := 10) hx hb hts inG_X7 hown hK hP 0 rfl rfl 1 (by decide) (hts _ fl_X7_38) (fun _ h9 => h9) rfl dX7_barPoints_18 ?_
    refine va_get (D := G.1) (ci := 5) (v := .ref a_pt) (C := RX5) (T := TX5) (N := 13) hx hb hts inG_X5 hown hK hP 1 rfl rfl 2 (by decide) (hts _ fl_X7_95) (fun _ h9 => h9) rfl dX7_barPoints_21 ?_
    refine lv_iload_n hx hb dX7_barPoints_24 rfl (lv_at hl 0 rfl) ?_
    refine va_iald hx hb hK hP 2 0 rfl rfl (i := k_i) (vp_in_iff.mpr ⟨by omega, by omega⟩) dX7_barPoints_25 ?_
    have hp_4 : 0 ≤ (f_pt k_i.toNatClampNeg).toInt ∧ (f_pt k_i.toNatClampNeg).toInt ≤ 1535 := e_q _ (by have zz := g5_clamp k_i; omega)
    refine lv_bipush (v := 64) hx hb dX7_barPoints_26 (by decide) ?_
    refine lv_idiv hx hb dX7_barPoints_28 (by decide) ?_
    have t_5 : ((f_pt k_i.toNatClampNeg) / 64).toInt = (f_pt k_i.toNatClampNeg).toInt / 64 := g5_idiv (a := (f_pt k_i.toNatClampNeg).toInt) (b := 64) rfl (by decide) (by omega) (by decide)
    refine lv_dup2_11 hx hb dX7_barPoints_29 rfl rfl ?_
    refine va_lald hx hb hK hP 3 1 rfl rfl (i := ((f_pt k_i.toNatClampNeg) / 64)) (vp_in_iff.mpr ⟨by omega, by omega⟩) dX7_barPoints_30 ?_
    refine lv_lconst (v := 1) hx hb dX7_barPoints_31 (by decide) ?_
    refine lv_aload_n hx hb dX7_barPoints_32 rfl (lv_at hl 1 rfl) ?_
    refine va_get (D := G.1) (ci := 7) (v := .ref a_k) (C := RX7) (T := TX7) (N := 10) hx hb hts inG_X7 hown hK hP 0 rfl rfl 1 (by decide) (hts _ fl_X7_38) (fun _ h9 => h9) rfl dX7_barPoints_33 ?_
    refine va_get (D := G.1) (ci := 5) (v := .ref a_pt) (C := RX5) (T := TX5) (N := 13) hx hb hts inG_X5 hown hK hP 1 rfl rfl 2 (by decide) (hts _ fl_X7_95) (fun _ h9 => h9) rfl dX7_barPoints_36 ?_
    refine lv_iload_n hx hb dX7_barPoints_39 rfl (lv_at hl 0 rfl) ?_
    refine va_iald hx hb hK hP 2 0 rfl rfl (i := k_i) (vp_in_iff.mpr ⟨by omega, by omega⟩) dX7_barPoints_40 ?_
    have hp_6 : 0 ≤ (f_pt k_i.toNatClampNeg).toInt ∧ (f_pt k_i.toNatClampNeg).toInt ≤ 1535 := e_q _ (by have zz := g5_clamp k_i; omega)
    refine lv_bipush (v := 64) hx hb dX7_barPoints_41 (by decide) ?_
    refine lv_irem hx hb dX7_barPoints_43 (by decide) ?_
    have t_7 : ((f_pt k_i.toNatClampNeg) - (f_pt k_i.toNatClampNeg) / 64 * 64).toInt = (f_pt k_i.toNatClampNeg).toInt % 64 := g5_irem (a := (f_pt k_i.toNatClampNeg).toInt) (b := 64) rfl (by decide) (by omega) (by decide)
    refine lv_lshl (v := ((1 : Int64) <<< (((f_pt k_i.toNatClampNeg) - (f_pt k_i.toNatClampNeg) / 64 * 64).toInt64 &&& 63))) hx hb dX7_barPoints_44 rfl ?_
    refine lv_lor hx hb dX7_barPoints_45 ?_
    refine va_last hx hb hK hP hD hS 3 1 rfl rfl (i := ((f_pt k_i.toNatClampNeg) / 64)) (x := ((k_f ((f_pt k_i.toNatClampNeg) / 64).toNatClampNeg) ||| ((1 : Int64) <<< (((f_pt k_i.toNatClampNeg) - (f_pt k_i.toNatClampNeg) / 64 * 64).toInt64 &&& 63)))) (vp_in_iff.mpr ⟨by omega, by omega⟩) dX7_barPoints_46 (fun H locs hP hD hS => ?_)
    refine g5_rs [(a_th, (oc7 a_h a_k a_ba a_ad e_fu a_cn a_nx a_hp a_hl a_lv)), (a_k, (oc5 a_h a_j a_pt e_ln e_se e_lh e_br e_we e_me e_ce e_wy e_ho e_ov)), (a_pt, (arI G 200 f_pt)), (a_ba, (arJ G 24 (vp_updL k_f ((f_pt k_i.toNatClampNeg) / 64).toNatClampNeg ((k_f ((f_pt k_i.toNatClampNeg) / 64).toNatClampNeg) ||| ((1 : Int64) <<< (((f_pt k_i.toNatClampNeg) - (f_pt k_i.toNatClampNeg) / 64 * 64).toInt64 &&& 63))))))] hP hD (fun hP hD => ?_)
    refine lv_iinc (v := (k_i + 1)) (lv' := [(1, .int (k_i + 1)), (0, .ref a_th)]) hx hb dX7_barPoints_47 hl (k := 0) rfl rfl (by decide) rfl (fun ls hl => ?_)
    have t_8 : (k_i + 1).toInt = k_i.toInt + 1 := g5_iadd (a := k_i.toInt) (b := 1) rfl (by decide) (by omega) (by omega)
    refine lv_goto (tgt := 2) hx hb dX7_barPoints_50 (by decide) ?_
    exact ih_2_2 ((k_i + 1), (vp_updL k_f ((f_pt k_i.toNatClampNeg) / 64).toNatClampNeg ((k_f ((f_pt k_i.toNatClampNeg) / 64).toNatClampNeg) ||| ((1 : Int64) <<< (((f_pt k_i.toNatClampNeg) - (f_pt k_i.toNatClampNeg) / 64 * 64).toInt64 &&& 63))))) ls H locs (show Int.toNat (200 - (k_i + 1).toInt) < Int.toNat (200 - k_i.toInt) from g_up (show k_i.toInt < (k_i + 1).toInt by omega) (show k_i.toInt < 200 by omega)) ⟨lv_sub hl [0, 1] rfl, hP, hD, hS, ⟨by omega, by omega⟩⟩
theorem dgX7_addPoints_0 : ∀ r ∈ ([(0, (.iconst 0, 1)), (1, (.istore_n 2, 1)), (2, (.iload_n 2, 1)), (3, (.aload_n 0, 1)), (4, (.getfield 38, 3)), (7, (.getfield 92, 3)), (10, (.if_icmp .ge 27, 3)), (13, (.aload_n 0, 1)), (14, (.getfield 15, 3)), (17, (.aload_n 0, 1)), (18, (.getfield 38, 3)), (21, (.getfield 95, 3)), (24, (.iload_n 2, 1)), (25, (.iaload, 1)), (26, (.dup2, 1)), (27, (.iaload, 1)), (28, (.iload_n 1, 1)), (29, (.ior, 1)), (30, (.iastore, 1)), (31, (.iinc 2 1, 3)), (34, (.goto (-32), 3)), (37, (.return_, 1))] : List (Nat × (Instr × Nat))), decode cX7_addPoints r.1 = .ok r.2 := by decide +kernel
theorem dX7_addPoints_0 : decode cX7_addPoints 0 = .ok (.iconst 0, 1) := dgX7_addPoints_0 (0, (.iconst 0, 1)) (List.mem_of_getElem? (i := 0) rfl)
theorem dX7_addPoints_1 : decode cX7_addPoints 1 = .ok (.istore_n 2, 1) := dgX7_addPoints_0 (1, (.istore_n 2, 1)) (List.mem_of_getElem? (i := 1) rfl)
theorem dX7_addPoints_2 : decode cX7_addPoints 2 = .ok (.iload_n 2, 1) := dgX7_addPoints_0 (2, (.iload_n 2, 1)) (List.mem_of_getElem? (i := 2) rfl)
theorem dX7_addPoints_3 : decode cX7_addPoints 3 = .ok (.aload_n 0, 1) := dgX7_addPoints_0 (3, (.aload_n 0, 1)) (List.mem_of_getElem? (i := 3) rfl)
theorem dX7_addPoints_4 : decode cX7_addPoints 4 = .ok (.getfield 38, 3) := dgX7_addPoints_0 (4, (.getfield 38, 3)) (List.mem_of_getElem? (i := 4) rfl)
theorem dX7_addPoints_7 : decode cX7_addPoints 7 = .ok (.getfield 92, 3) := dgX7_addPoints_0 (7, (.getfield 92, 3)) (List.mem_of_getElem? (i := 5) rfl)
theorem dX7_addPoints_10 : decode cX7_addPoints 10 = .ok (.if_icmp .ge 27, 3) := dgX7_addPoints_0 (10, (.if_icmp .ge 27, 3)) (List.mem_of_getElem? (i := 6) rfl)
theorem dX7_addPoints_13 : decode cX7_addPoints 13 = .ok (.aload_n 0, 1) := dgX7_addPoints_0 (13, (.aload_n 0, 1)) (List.mem_of_getElem? (i := 7) rfl)
theorem dX7_addPoints_14 : decode cX7_addPoints 14 = .ok (.getfield 15, 3) := dgX7_addPoints_0 (14, (.getfield 15, 3)) (List.mem_of_getElem? (i := 8) rfl)
theorem dX7_addPoints_17 : decode cX7_addPoints 17 = .ok (.aload_n 0, 1) := dgX7_addPoints_0 (17, (.aload_n 0, 1)) (List.mem_of_getElem? (i := 9) rfl)
theorem dX7_addPoints_18 : decode cX7_addPoints 18 = .ok (.getfield 38, 3) := dgX7_addPoints_0 (18, (.getfield 38, 3)) (List.mem_of_getElem? (i := 10) rfl)
theorem dX7_addPoints_21 : decode cX7_addPoints 21 = .ok (.getfield 95, 3) := dgX7_addPoints_0 (21, (.getfield 95, 3)) (List.mem_of_getElem? (i := 11) rfl)
theorem dX7_addPoints_24 : decode cX7_addPoints 24 = .ok (.iload_n 2, 1) := dgX7_addPoints_0 (24, (.iload_n 2, 1)) (List.mem_of_getElem? (i := 12) rfl)
theorem dX7_addPoints_25 : decode cX7_addPoints 25 = .ok (.iaload, 1) := dgX7_addPoints_0 (25, (.iaload, 1)) (List.mem_of_getElem? (i := 13) rfl)
theorem dX7_addPoints_26 : decode cX7_addPoints 26 = .ok (.dup2, 1) := dgX7_addPoints_0 (26, (.dup2, 1)) (List.mem_of_getElem? (i := 14) rfl)
theorem dX7_addPoints_27 : decode cX7_addPoints 27 = .ok (.iaload, 1) := dgX7_addPoints_0 (27, (.iaload, 1)) (List.mem_of_getElem? (i := 15) rfl)
theorem dX7_addPoints_28 : decode cX7_addPoints 28 = .ok (.iload_n 1, 1) := dgX7_addPoints_0 (28, (.iload_n 1, 1)) (List.mem_of_getElem? (i := 16) rfl)
theorem dX7_addPoints_29 : decode cX7_addPoints 29 = .ok (.ior, 1) := dgX7_addPoints_0 (29, (.ior, 1)) (List.mem_of_getElem? (i := 17) rfl)
theorem dX7_addPoints_30 : decode cX7_addPoints 30 = .ok (.iastore, 1) := dgX7_addPoints_0 (30, (.iastore, 1)) (List.mem_of_getElem? (i := 18) rfl)
theorem dX7_addPoints_31 : decode cX7_addPoints 31 = .ok (.iinc 2 1, 3) := dgX7_addPoints_0 (31, (.iinc 2 1, 3)) (List.mem_of_getElem? (i := 19) rfl)
theorem dX7_addPoints_34 : decode cX7_addPoints 34 = .ok (.goto (-32), 3) := dgX7_addPoints_0 (34, (.goto (-32), 3)) (List.mem_of_getElem? (i := 20) rfl)
theorem dX7_addPoints_37 : decode cX7_addPoints 37 = .ok (.return_, 1) := dgX7_addPoints_0 (37, (.return_, 1)) (List.mem_of_getElem? (i := 21) rfl)
theorem fl_X7_15 : Cond.fieldLink RX7 15 "LateGlass$Thief" "adds" "[I" ∈ tblG := tg 321 (by decide +kernel) (by decide +kernel)
set_option maxHeartbeats 4000000 in
set_option maxRecDepth 100000 in
theorem th_add (l : Launch) (G : g5_G) (a_th a_k a_pt a_ad a_h a_ba a_cn a_nx a_hp a_hl a_lv a_j : Nat) (sz : Nat) (e_fu : Int32) (e_ln : Int32) (e_se : Int32) (e_lh : Int32) (e_br : Int32) (e_we : Int32) (e_me : Int32) (e_ce : Int32) (e_wy : Int32) (e_ho : Int32) (e_ov : Int32) (p_b : Int32) (f_pt : Nat → Int32) (f_ad : Nat → Int32) (n_s : Nat) (h_e_ln : 0 ≤ e_ln.toInt ∧ e_ln.toInt ≤ 200) (h_e_ov : 0 ≤ e_ov.toInt ∧ e_ov.toInt ≤ 1) (e_q : ∀ j : Nat, (j : Int) < e_ln.toInt → 0 ≤ (f_pt j).toInt ∧ (f_pt j).toInt ≤ 1535) (e_s : n_s < 5) (e_b : p_b = nI (2 ^ n_s)) (e_m : mOK f_ad (n_s + 1)) : Met l yX7_addPoints (wsG yX7_addPoints cX7_addPoints 3 none) ({ frames := 0, cells := 0, slots := 0, locals := 0 }) (va_Pc [.ref a_th, .int p_b] (g5_P G [(a_th, (oc7 a_h a_k a_ba a_ad e_fu a_cn a_nx a_hp a_hl a_lv)), (a_k, (oc5 a_h a_j a_pt e_ln e_se e_lh e_br e_we e_me e_ce e_wy e_ho e_ov)), (a_pt, (arI G 200 f_pt)), (a_ad, (arI G 1536 f_ad))] sz)) (va_Qv (fun (u : va_W) => (∃ (o_f : Nat → Int32), (mOK o_f (n_s + 1)) ∧ (u = [(a_th, (oc7 a_h a_k a_ba a_ad e_fu a_cn a_nx a_hp a_hl a_lv)), (a_k, (oc5 a_h a_j a_pt e_ln e_se e_lh e_br e_we e_me e_ce e_wy e_ho e_ov)), (a_pt, (arI G 200 f_pt)), (a_ad, (arI G 1536 o_f))]))) (g5_B G (va_A [(a_th, (oc7 a_h a_k a_ba a_ad e_fu a_cn a_nx a_hp a_hl a_lv)), (a_k, (oc5 a_h a_j a_pt e_ln e_se e_lh e_br e_we e_me e_ce e_wy e_ho e_ov)), (a_pt, (arI G 200 f_pt)), (a_ad, (arI G 1536 f_ad))] sz)) (va_A [(a_th, (oc7 a_h a_k a_ba a_ad e_fu a_cn a_nx a_hp a_hl a_lv)), (a_k, (oc5 a_h a_j a_pt e_ln e_se e_lh e_br e_we e_me e_ce e_wy e_ho e_ov)), (a_pt, (arI G 200 f_pt)), (a_ad, (arI G 1536 f_ad))] sz)) 0 0 (va_A [(a_th, (oc7 a_h a_k a_ba a_ad e_fu a_cn a_nx a_hp a_hl a_lv)), (a_k, (oc5 a_h a_j a_pt e_ln e_se e_lh e_br e_we e_me e_ce e_wy e_ho e_ov)), (a_pt, (arI G 200 f_pt)), (a_ad, (arI G 1536 f_ad))] sz) := by
  refine Met.ofW (cc := cX7_addPoints) (maxL := 3) (ret := none) (by decide) rfl ?_
  intro p e s m args below meth c s₁ B hml hv
  obtain ⟨rfl, hsz, hP, hK, hD0, hN, hT⟩ := hv
  have hx := B.exec
  have hb := B.bytes
  have hr := B.returns
  have hts : ∀ w ∈ tblG, w.before _ s = true := fun w h => atoms_spec (ws := (wsG yX7_addPoints cX7_addPoints 3 none)) B.pre w (List.mem_cons_of_mem _ h)
  have hown : s.vm.findClass RX7 = some m.cls := findClass_of_methodNamed B.named
  have hlocks := B.notSynchronized
  subst hsz
  have hD := hD0.self (sz := s.heap.size)
  generalize hAe : va_A [(a_th, (oc7 a_h a_k a_ba a_ad e_fu a_cn a_nx a_hp a_hl a_lv)), (a_k, (oc5 a_h a_j a_pt e_ln e_se e_lh e_br e_we e_me e_ce e_wy e_ho e_ov)), (a_pt, (arI G 200 f_pt)), (a_ad, (arI G 1536 f_ad))] s.heap.size = A at hD hT ⊢
  have hA : ∀ q : Nat, s.heap.size ≤ q → A q := fun q h => by rw [← hAe]; exact Or.inr h
  have hS : va_S A s.heap s.heap [] := va_S.rf
  have hP : va_P G.1 vwCl [(a_th, (oc7 a_h a_k a_ba a_ad e_fu a_cn a_nx a_hp a_hl a_lv)), (a_k, (oc5 a_h a_j a_pt e_ln e_se e_lh e_br e_we e_me e_ce e_wy e_ho e_ov)), (a_pt, (arI G 200 f_pt)), (a_ad, (arI G 1536 f_ad))] s.heap := hP
  have hl := lv_entry ([.ref a_th, .int p_b]) (n := 3) (Nat.le_of_ble_eq_true rfl)
  rw [lg_entry_eq]
  generalize (lg_sl ([.ref a_th, .int p_b]) ++ List.replicate (3 - (lg_sl ([.ref a_th, .int p_b])).length) Slot.unset).toArray = ls at hl ⊢
  have hl : lv_has ls 3 [(0, .ref a_th), (1, .int p_b)] := hl
  refine lv_iconst (v := 0) hx hb dX7_addPoints_0 (by decide) ?_
  refine lv_istore_n (lv' := [(2, .int 0), (0, .ref a_th), (1, .int p_b)]) hx hb dX7_addPoints_1 rfl hl (by decide) rfl (fun ls hl => ?_)
  refine g5_loop (α := (Int32) × (Nat → Int32)) (fun (q : (Int32) × (Nat → Int32)) (ls : Array Slot) (H : Heap) (locs : List Loc) => match q with | (k_i, k_f) => lv_has ls 3 [(2, .int k_i), (0, .ref a_th), (1, .int p_b)] ∧ va_P G.1 vwCl [(a_th, (oc7 a_h a_k a_ba a_ad e_fu a_cn a_nx a_hp a_hl a_lv)), (a_k, (oc5 a_h a_j a_pt e_ln e_se e_lh e_br e_we e_me e_ce e_wy e_ho e_ov)), (a_pt, (arI G 200 f_pt)), (a_ad, (arI G 1536 k_f))] H ∧ va_D A [(a_th, (oc7 a_h a_k a_ba a_ad e_fu a_cn a_nx a_hp a_hl a_lv)), (a_k, (oc5 a_h a_j a_pt e_ln e_se e_lh e_br e_we e_me e_ce e_wy e_ho e_ov)), (a_pt, (arI G 200 f_pt)), (a_ad, (arI G 1536 k_f))] ∧ va_S A s.heap H locs ∧ (0 ≤ k_i.toInt ∧ k_i.toInt ≤ 200) ∧ (mOK k_f (n_s + 1))) (fun (q : (Int32) × (Nat → Int32)) => match q with | (k_i, k_f) => Int.toNat (200 - k_i.toInt)) (0, f_ad) ⟨lv_sub hl [0, 1, 2] rfl, hP, hD, hS, ⟨by decide, by decide⟩, e_m⟩ ?_
  rintro ⟨k_i, k_f⟩ ls H locs ⟨hl, hP, hD, hS, i_1, i_2⟩ ih_2_3
  have hl : lv_has ls 3 [(2, .int k_i), (0, .ref a_th), (1, .int p_b)] := hl
  have i_1 : 0 ≤ k_i.toInt ∧ k_i.toInt ≤ 200 := i_1
  have i_2 : mOK k_f (n_s + 1) := i_2
  refine g5_rs [(a_th, (oc7 a_h a_k a_ba a_ad e_fu a_cn a_nx a_hp a_hl a_lv)), (a_k, (oc5 a_h a_j a_pt e_ln e_se e_lh e_br e_we e_me e_ce e_wy e_ho e_ov)), (a_pt, (arI G 200 f_pt)), (a_ad, (arI G 1536 k_f))] hP hD (fun hP hD => ?_)
  refine lv_iload_n hx hb dX7_addPoints_2 rfl (lv_at hl 0 rfl) ?_
  refine lv_aload_n hx hb dX7_addPoints_3 rfl (lv_at hl 1 rfl) ?_
  refine va_get (D := G.1) (ci := 7) (v := .ref a_k) (C := RX7) (T := TX7) (N := 10) hx hb hts inG_X7 hown hK hP 0 rfl rfl 1 (by decide) (hts _ fl_X7_38) (fun _ h9 => h9) rfl dX7_addPoints_4 ?_
  refine va_get (D := G.1) (ci := 5) (v := .int e_ln) (C := RX5) (T := TX5) (N := 13) hx hb hts inG_X5 hown hK hP 1 rfl rfl 3 (by decide) (hts _ fl_X7_92) (fun _ h9 => h9) rfl dX7_addPoints_7 ?_
  refine lv_icmp_ge (tgt := 37) hx hb dX7_addPoints_10 (by decide) (fun c_4 => ?_) (fun c_4 => ?_)
  ·
    have i_4 : k_i.toInt ≥ e_ln.toInt := by have z := g5_ge (a := k_i.toInt) (b := e_ln.toInt) (by rfl) (by rfl) c_4; omega
    exact W.vret hx hb hr (fun t ht hW => ⟨⟨[(a_th, (oc7 a_h a_k a_ba a_ad e_fu a_cn a_nx a_hp a_hl a_lv)), (a_k, (oc5 a_h a_j a_pt e_ln e_se e_lh e_br e_we e_me e_ce e_wy e_ho e_ov)), (a_pt, (arI G 200 f_pt)), (a_ad, (arI G 1536 k_f))], rfl, ⟨k_f, i_2, rfl⟩, by rw [ht]; exact hP.sub [0, 1, 2, 3] rfl, hD.sub [0, 1, 2, 3] (by decide) rfl⟩, hS.F ht⟩) hS.2.2 dX7_addPoints_37
  ·
    have i_4 : k_i.toInt < e_ln.toInt := by have z := g5_geN (a := k_i.toInt) (b := e_ln.toInt) (by rfl) (by rfl) c_4; omega
    refine lv_aload_n hx hb dX7_addPoints_13 rfl (lv_at hl 1 rfl) ?_
    refine va_get (D := G.1) (ci := 7) (v := .ref a_ad) (C := RX7) (T := TX7) (N := 10) hx hb hts inG_X7 hown hK hP 0 rfl rfl 3 (by decide) (hts _ fl_X7_15) (fun _ h9 => h9) rfl dX7_addPoints_14 ?_
    refine lv_aload_n hx hb dX7_addPoints_17 rfl (lv_at hl 1 rfl) ?_
    refine va_get (D := G.1) (ci := 7) (v := .ref a_k) (C := RX7) (T := TX7) (N := 10) hx hb hts inG_X7 hown hK hP 0 rfl rfl 1 (by decide) (hts _ fl_X7_38) (fun _ h9 => h9) rfl dX7_addPoints_18 ?_
    refine va_get (D := G.1) (ci := 5) (v := .ref a_pt) (C := RX5) (T := TX5) (N := 13) hx hb hts inG_X5 hown hK hP 1 rfl rfl 2 (by decide) (hts _ fl_X7_95) (fun _ h9 => h9) rfl dX7_addPoints_21 ?_
    refine lv_iload_n hx hb dX7_addPoints_24 rfl (lv_at hl 0 rfl) ?_
    refine va_iald hx hb hK hP 2 0 rfl rfl (i := k_i) (vp_in_iff.mpr ⟨by omega, by omega⟩) dX7_addPoints_25 ?_
    have hp_5 : 0 ≤ (f_pt k_i.toNatClampNeg).toInt ∧ (f_pt k_i.toNatClampNeg).toInt ≤ 1535 := e_q _ (by have zz := g5_clamp k_i; omega)
    refine lv_dup2_11 hx hb dX7_addPoints_26 rfl rfl ?_
    refine va_iald hx hb hK hP 3 0 rfl rfl (i := (f_pt k_i.toNatClampNeg)) (vp_in_iff.mpr ⟨by omega, by omega⟩) dX7_addPoints_27 ?_
    refine lv_iload_n hx hb dX7_addPoints_28 rfl (lv_at hl 2 rfl) ?_
    refine lv_ior hx hb dX7_addPoints_29 ?_
    refine va_iast hx hb hK hP hD hS 3 0 rfl rfl (i := (f_pt k_i.toNatClampNeg)) (x := ((k_f (f_pt k_i.toNatClampNeg).toNatClampNeg) ||| p_b)) (vp_in_iff.mpr ⟨by omega, by omega⟩) dX7_addPoints_30 (fun H locs hP hD hS => ?_)
    refine g5_rs [(a_th, (oc7 a_h a_k a_ba a_ad e_fu a_cn a_nx a_hp a_hl a_lv)), (a_k, (oc5 a_h a_j a_pt e_ln e_se e_lh e_br e_we e_me e_ce e_wy e_ho e_ov)), (a_pt, (arI G 200 f_pt)), (a_ad, (arI G 1536 (upd k_f (f_pt k_i.toNatClampNeg).toNatClampNeg ((k_f (f_pt k_i.toNatClampNeg).toNatClampNeg) ||| p_b))))] hP hD (fun hP hD => ?_)
    refine lv_iinc (v := (k_i + 1)) (lv' := [(2, .int (k_i + 1)), (0, .ref a_th), (1, .int p_b)]) hx hb dX7_addPoints_31 hl (k := 0) rfl rfl (by decide) rfl (fun ls hl => ?_)
    have t_6 : (k_i + 1).toInt = k_i.toInt + 1 := g5_iadd (a := k_i.toInt) (b := 1) rfl (by decide) (by omega) (by omega)
    refine lv_goto (tgt := 2) hx hb dX7_addPoints_34 (by decide) ?_
    exact ih_2_3 ((k_i + 1), (upd k_f (f_pt k_i.toNatClampNeg).toNatClampNeg ((k_f (f_pt k_i.toNatClampNeg).toNatClampNeg) ||| p_b))) ls H locs (show Int.toNat (200 - (k_i + 1).toInt) < Int.toNat (200 - k_i.toInt) from g_up (show k_i.toInt < (k_i + 1).toInt by omega) (show k_i.toInt < 200 by omega)) ⟨lv_sub hl [0, 1, 2] rfl, hP, hD, hS, ⟨by omega, by omega⟩, m_or (x := (f_pt k_i.toNatClampNeg)) e_s e_b i_2 (by omega)⟩
theorem dgX7_masksBefore_0 : ∀ r ∈ ([(0, (.iload_n 0, 1)), (1, (.istore_n 2, 1)), (2, (.iconst 0, 1)), (3, (.istore_n 3, 1)), (4, (.iload_n 3, 1)), (5, (.getstatic 114, 3)), (8, (.arraylength, 1)), (9, (.if_icmp .ge 37, 3)), (12, (.iload_n 1, 1)), (13, (.ifCond .eq 33, 3)), (16, (.iload_n 1, 1)), (17, (.iload_n 3, 1)), (18, (.ishr, 1)), (19, (.iconst 1, 1)), (20, (.iand, 1)), (21, (.ifCond .eq 19, 3)), (24, (.iload_n 2, 1)), (25, (.getstatic 114, 3)), (28, (.iload_n 3, 1)), (29, (.iaload, 1)), (30, (.iand, 1)), (31, (.istore_n 2, 1)), (32, (.iload_n 2, 1)), (33, (.iload_n 2, 1)), (34, (.iconst 1, 1)), (35, (.iload_n 3, 1)), (36, (.ishl, 1)), (37, (.iushr, 1)), (38, (.ior, 1)), (39, (.istore_n 2, 1)), (40, (.iinc 3 1, 3)), (43, (.goto (-39), 3)), (46, (.iload_n 2, 1)), (47, (.ireturn, 1))] : List (Nat × (Instr × Nat))), decode cX7_masksBefore r.1 = .ok r.2 := by decide +kernel
theorem dX7_masksBefore_0 : decode cX7_masksBefore 0 = .ok (.iload_n 0, 1) := dgX7_masksBefore_0 (0, (.iload_n 0, 1)) (List.mem_of_getElem? (i := 0) rfl)
theorem dX7_masksBefore_1 : decode cX7_masksBefore 1 = .ok (.istore_n 2, 1) := dgX7_masksBefore_0 (1, (.istore_n 2, 1)) (List.mem_of_getElem? (i := 1) rfl)
theorem dX7_masksBefore_2 : decode cX7_masksBefore 2 = .ok (.iconst 0, 1) := dgX7_masksBefore_0 (2, (.iconst 0, 1)) (List.mem_of_getElem? (i := 2) rfl)
theorem dX7_masksBefore_3 : decode cX7_masksBefore 3 = .ok (.istore_n 3, 1) := dgX7_masksBefore_0 (3, (.istore_n 3, 1)) (List.mem_of_getElem? (i := 3) rfl)
theorem dX7_masksBefore_4 : decode cX7_masksBefore 4 = .ok (.iload_n 3, 1) := dgX7_masksBefore_0 (4, (.iload_n 3, 1)) (List.mem_of_getElem? (i := 4) rfl)
theorem dX7_masksBefore_5 : decode cX7_masksBefore 5 = .ok (.getstatic 114, 3) := dgX7_masksBefore_0 (5, (.getstatic 114, 3)) (List.mem_of_getElem? (i := 5) rfl)
theorem dX7_masksBefore_8 : decode cX7_masksBefore 8 = .ok (.arraylength, 1) := dgX7_masksBefore_0 (8, (.arraylength, 1)) (List.mem_of_getElem? (i := 6) rfl)
theorem dX7_masksBefore_9 : decode cX7_masksBefore 9 = .ok (.if_icmp .ge 37, 3) := dgX7_masksBefore_0 (9, (.if_icmp .ge 37, 3)) (List.mem_of_getElem? (i := 7) rfl)
theorem dX7_masksBefore_12 : decode cX7_masksBefore 12 = .ok (.iload_n 1, 1) := dgX7_masksBefore_0 (12, (.iload_n 1, 1)) (List.mem_of_getElem? (i := 8) rfl)
theorem dX7_masksBefore_13 : decode cX7_masksBefore 13 = .ok (.ifCond .eq 33, 3) := dgX7_masksBefore_0 (13, (.ifCond .eq 33, 3)) (List.mem_of_getElem? (i := 9) rfl)
theorem dX7_masksBefore_16 : decode cX7_masksBefore 16 = .ok (.iload_n 1, 1) := dgX7_masksBefore_0 (16, (.iload_n 1, 1)) (List.mem_of_getElem? (i := 10) rfl)
theorem dX7_masksBefore_17 : decode cX7_masksBefore 17 = .ok (.iload_n 3, 1) := dgX7_masksBefore_0 (17, (.iload_n 3, 1)) (List.mem_of_getElem? (i := 11) rfl)
theorem dX7_masksBefore_18 : decode cX7_masksBefore 18 = .ok (.ishr, 1) := dgX7_masksBefore_0 (18, (.ishr, 1)) (List.mem_of_getElem? (i := 12) rfl)
theorem dX7_masksBefore_19 : decode cX7_masksBefore 19 = .ok (.iconst 1, 1) := dgX7_masksBefore_0 (19, (.iconst 1, 1)) (List.mem_of_getElem? (i := 13) rfl)
theorem dX7_masksBefore_20 : decode cX7_masksBefore 20 = .ok (.iand, 1) := dgX7_masksBefore_0 (20, (.iand, 1)) (List.mem_of_getElem? (i := 14) rfl)
theorem dX7_masksBefore_21 : decode cX7_masksBefore 21 = .ok (.ifCond .eq 19, 3) := dgX7_masksBefore_0 (21, (.ifCond .eq 19, 3)) (List.mem_of_getElem? (i := 15) rfl)
theorem dX7_masksBefore_24 : decode cX7_masksBefore 24 = .ok (.iload_n 2, 1) := dgX7_masksBefore_0 (24, (.iload_n 2, 1)) (List.mem_of_getElem? (i := 16) rfl)
theorem dX7_masksBefore_25 : decode cX7_masksBefore 25 = .ok (.getstatic 114, 3) := dgX7_masksBefore_0 (25, (.getstatic 114, 3)) (List.mem_of_getElem? (i := 17) rfl)
theorem dX7_masksBefore_28 : decode cX7_masksBefore 28 = .ok (.iload_n 3, 1) := dgX7_masksBefore_0 (28, (.iload_n 3, 1)) (List.mem_of_getElem? (i := 18) rfl)
theorem dX7_masksBefore_29 : decode cX7_masksBefore 29 = .ok (.iaload, 1) := dgX7_masksBefore_0 (29, (.iaload, 1)) (List.mem_of_getElem? (i := 19) rfl)
theorem dX7_masksBefore_30 : decode cX7_masksBefore 30 = .ok (.iand, 1) := dgX7_masksBefore_0 (30, (.iand, 1)) (List.mem_of_getElem? (i := 20) rfl)
theorem dX7_masksBefore_31 : decode cX7_masksBefore 31 = .ok (.istore_n 2, 1) := dgX7_masksBefore_0 (31, (.istore_n 2, 1)) (List.mem_of_getElem? (i := 21) rfl)
theorem dX7_masksBefore_32 : decode cX7_masksBefore 32 = .ok (.iload_n 2, 1) := dgX7_masksBefore_0 (32, (.iload_n 2, 1)) (List.mem_of_getElem? (i := 22) rfl)
theorem dX7_masksBefore_33 : decode cX7_masksBefore 33 = .ok (.iload_n 2, 1) := dgX7_masksBefore_0 (33, (.iload_n 2, 1)) (List.mem_of_getElem? (i := 23) rfl)
theorem dX7_masksBefore_34 : decode cX7_masksBefore 34 = .ok (.iconst 1, 1) := dgX7_masksBefore_0 (34, (.iconst 1, 1)) (List.mem_of_getElem? (i := 24) rfl)
theorem dX7_masksBefore_35 : decode cX7_masksBefore 35 = .ok (.iload_n 3, 1) := dgX7_masksBefore_0 (35, (.iload_n 3, 1)) (List.mem_of_getElem? (i := 25) rfl)
theorem dX7_masksBefore_36 : decode cX7_masksBefore 36 = .ok (.ishl, 1) := dgX7_masksBefore_0 (36, (.ishl, 1)) (List.mem_of_getElem? (i := 26) rfl)
theorem dX7_masksBefore_37 : decode cX7_masksBefore 37 = .ok (.iushr, 1) := dgX7_masksBefore_0 (37, (.iushr, 1)) (List.mem_of_getElem? (i := 27) rfl)
theorem dX7_masksBefore_38 : decode cX7_masksBefore 38 = .ok (.ior, 1) := dgX7_masksBefore_0 (38, (.ior, 1)) (List.mem_of_getElem? (i := 28) rfl)
theorem dX7_masksBefore_39 : decode cX7_masksBefore 39 = .ok (.istore_n 2, 1) := dgX7_masksBefore_0 (39, (.istore_n 2, 1)) (List.mem_of_getElem? (i := 29) rfl)
theorem dX7_masksBefore_40 : decode cX7_masksBefore 40 = .ok (.iinc 3 1, 3) := dgX7_masksBefore_0 (40, (.iinc 3 1, 3)) (List.mem_of_getElem? (i := 30) rfl)
theorem dX7_masksBefore_43 : decode cX7_masksBefore 43 = .ok (.goto (-39), 3) := dgX7_masksBefore_0 (43, (.goto (-39), 3)) (List.mem_of_getElem? (i := 31) rfl)
theorem dX7_masksBefore_46 : decode cX7_masksBefore 46 = .ok (.iload_n 2, 1) := dgX7_masksBefore_0 (46, (.iload_n 2, 1)) (List.mem_of_getElem? (i := 32) rfl)
theorem dX7_masksBefore_47 : decode cX7_masksBefore 47 = .ok (.ireturn, 1) := dgX7_masksBefore_0 (47, (.ireturn, 1)) (List.mem_of_getElem? (i := 33) rfl)
set_option maxHeartbeats 4000000 in
set_option maxRecDepth 100000 in
theorem th_masksBefore (l : Launch) (G : g5_G) (sz : Nat) (p_s : Int32) (p_a : Int32) : Met l yX7_masksBefore (wsG yX7_masksBefore cX7_masksBefore 4 (some .int)) ({ frames := 0, cells := 0, slots := 0, locals := 0 }) (va_Pc [.int p_s, .int p_a] (g5_P G [] sz)) (va_Qi (fun (r : Int32) (u : va_W) => (∃ (o_r : Int32), (r = o_r) ∧ (u = []))) (g5_B G (va_A [] sz)) (va_A [] sz)) 0 0 (va_A [] sz) := by
  refine Met.ofW (cc := cX7_masksBefore) (maxL := 4) (ret := (some .int)) (by decide) rfl ?_
  intro p e s m args below meth c s₁ B hml hv
  obtain ⟨rfl, hsz, hP, hK, hD0, hN, hT⟩ := hv
  have hx := B.exec
  have hb := B.bytes
  have hr := B.returns
  have hts : ∀ w ∈ tblG, w.before _ s = true := fun w h => atoms_spec (ws := (wsG yX7_masksBefore cX7_masksBefore 4 (some .int))) B.pre w (List.mem_cons_of_mem _ h)
  have hown : s.vm.findClass RX7 = some m.cls := findClass_of_methodNamed B.named
  have hlocks := B.notSynchronized
  subst hsz
  have hD := hD0.self (sz := s.heap.size)
  generalize hAe : va_A [] s.heap.size = A at hD hT ⊢
  have hA : ∀ q : Nat, s.heap.size ≤ q → A q := fun q h => by rw [← hAe]; exact Or.inr h
  have hS : va_S A s.heap s.heap [] := va_S.rf
  have hP : va_P G.1 vwCl [] s.heap := hP
  have hl := lv_entry ([.int p_s, .int p_a]) (n := 4) (Nat.le_of_ble_eq_true rfl)
  rw [lg_entry_eq]
  generalize (lg_sl ([.int p_s, .int p_a]) ++ List.replicate (4 - (lg_sl ([.int p_s, .int p_a])).length) Slot.unset).toArray = ls at hl ⊢
  have hl : lv_has ls 4 [(0, .int p_s), (1, .int p_a)] := hl
  refine lv_iload_n hx hb dX7_masksBefore_0 rfl (lv_at hl 0 rfl) ?_
  refine lv_istore_n (lv' := [(2, .int p_s), (0, .int p_s), (1, .int p_a)]) hx hb dX7_masksBefore_1 rfl hl (by decide) rfl (fun ls hl => ?_)
  refine lv_iconst (v := 0) hx hb dX7_masksBefore_2 (by decide) ?_
  refine lv_istore_n (lv' := [(3, .int 0), (2, .int p_s), (0, .int p_s), (1, .int p_a)]) hx hb dX7_masksBefore_3 rfl hl (by decide) rfl (fun ls hl => ?_)
  refine g5_loop (α := (Int32) × (Int32)) (fun (q : (Int32) × (Int32)) (ls : Array Slot) (H : Heap) (locs : List Loc) => match q with | (k_k, k_b) => lv_has ls 4 [(2, .int k_b), (3, .int k_k), (0, .int p_s), (1, .int p_a)] ∧ va_P G.1 vwCl [] H ∧ va_D A [] ∧ va_S A s.heap H locs ∧ (0 ≤ k_k.toInt ∧ k_k.toInt ≤ 5)) (fun (q : (Int32) × (Int32)) => match q with | (k_k, k_b) => Int.toNat (5 - k_k.toInt)) (0, p_s) ⟨lv_sub hl [1, 0, 2, 3] rfl, hP, hD, hS, ⟨by decide, by decide⟩⟩ ?_
  rintro ⟨k_k, k_b⟩ ls H locs ⟨hl, hP, hD, hS, i_1⟩ ih_4_2
  have hl : lv_has ls 4 [(2, .int k_b), (3, .int k_k), (0, .int p_s), (1, .int p_a)] := hl
  have i_1 : 0 ≤ k_k.toInt ∧ k_k.toInt ≤ 5 := i_1
  refine g5_rs [] hP hD (fun hP hD => ?_)
  refine lv_iload_n hx hb dX7_masksBefore_4 rfl (lv_at hl 1 rfl) ?_
  obtain ⟨tH, tL, tK, tV, tF, hZH, hTH, hZL, hTL, -⟩ := id hT
  refine va_getsN hx hb hZH hS hown (hN.1 _ g5_nw_X7_114) (fun _ h9 => h9) dX7_masksBefore_5 ?_
  refine va_tlen hx hb hTH hS (v := 5) (by decide) dX7_masksBefore_8 ?_
  refine lv_icmp_ge (tgt := 46) hx hb dX7_masksBefore_9 (by decide) (fun c_3 => ?_) (fun c_3 => ?_)
  ·
    have i_3 : k_k.toInt ≥ 5 := by have z := g5_ge (a := k_k.toInt) (b := 5) (by rfl) (by decide) c_3; omega
    refine lv_iload_n hx hb dX7_masksBefore_46 rfl (lv_at hl 0 rfl) ?_
    exact W.iret (v := k_b) hx hb hr (fun t ht hW => ⟨⟨k_b, [], rfl, ⟨k_b, rfl, rfl⟩, by rw [ht]; exact hP.sub [] rfl, hD.sub [] (by decide) rfl⟩, hS.F ht⟩) hS.2.2 dX7_masksBefore_47
  ·
    have i_3 : k_k.toInt < 5 := by have z := g5_geN (a := k_k.toInt) (b := 5) (by rfl) (by decide) c_3; omega
    refine lv_iload_n hx hb dX7_masksBefore_12 rfl (lv_at hl 3 rfl) ?_
    refine lv_if_eq (tgt := 46) hx hb dX7_masksBefore_13 (by decide) (fun c_4 => ?_) (fun c_4 => ?_)
    ·
      have i_4 : p_a.toInt = 0 := by have z := g5_eq (a := p_a.toInt) (b := 0) (by rfl) (by decide) c_4; omega
      refine lv_iload_n hx hb dX7_masksBefore_46 rfl (lv_at hl 0 rfl) ?_
      exact W.iret (v := k_b) hx hb hr (fun t ht hW => ⟨⟨k_b, [], rfl, ⟨k_b, rfl, rfl⟩, by rw [ht]; exact hP.sub [] rfl, hD.sub [] (by decide) rfl⟩, hS.F ht⟩) hS.2.2 dX7_masksBefore_47
    ·
      have n_4 : gNe (p_a.toInt) (0) := by have z := g5_eqN (a := p_a.toInt) (b := 0) (by rfl) (by decide) c_4; unfold gNe; omega
      refine lv_iload_n hx hb dX7_masksBefore_16 rfl (lv_at hl 3 rfl) ?_
      refine lv_iload_n hx hb dX7_masksBefore_17 rfl (lv_at hl 1 rfl) ?_
      refine lv_ishr hx hb dX7_masksBefore_18 ?_
      refine lv_iconst (v := 1) hx hb dX7_masksBefore_19 (by decide) ?_
      refine lv_iand hx hb dX7_masksBefore_20 ?_
      refine lv_if_eq (tgt := 40) hx hb dX7_masksBefore_21 (by decide) (fun c_5 => ?_) (fun c_5 => ?_)
      ·
        have i_5 : ((p_a >>> (k_k &&& 31)) &&& 1).toInt = 0 := by have z := g5_eq (a := ((p_a >>> (k_k &&& 31)) &&& 1).toInt) (b := 0) (by rfl) (by decide) c_5; omega
        refine lv_iinc (v := (k_k + 1)) (lv' := [(3, .int (k_k + 1)), (2, .int k_b), (0, .int p_s), (1, .int p_a)]) hx hb dX7_masksBefore_40 hl (k := 1) rfl rfl (by decide) rfl (fun ls hl => ?_)
        have t_6 : (k_k + 1).toInt = k_k.toInt + 1 := g5_iadd (a := k_k.toInt) (b := 1) rfl (by decide) (by omega) (by omega)
        refine lv_goto (tgt := 4) hx hb dX7_masksBefore_43 (by decide) ?_
        exact ih_4_2 ((k_k + 1), k_b) ls H locs (show Int.toNat (5 - (k_k + 1).toInt) < Int.toNat (5 - k_k.toInt) from g_up (show k_k.toInt < (k_k + 1).toInt by omega) (show k_k.toInt < 5 by omega)) ⟨lv_sub hl [1, 0, 2, 3] rfl, hP, hD, hS, ⟨by omega, by omega⟩⟩
      ·
        have n_5 : gNe (((p_a >>> (k_k &&& 31)) &&& 1).toInt) (0) := by have z := g5_eqN (a := ((p_a >>> (k_k &&& 31)) &&& 1).toInt) (b := 0) (by rfl) (by decide) c_5; unfold gNe; omega
        refine lv_iload_n hx hb dX7_masksBefore_24 rfl (lv_at hl 0 rfl) ?_
        obtain ⟨tH, tL, tK, tV, tF, hZH, hTH, hZL, hTL, -⟩ := id hT
        refine va_getsN hx hb hZH hS hown (hN.1 _ g5_nw_X7_114) (fun _ h9 => h9) dX7_masksBefore_25 ?_
        refine lv_iload_n hx hb dX7_masksBefore_28 rfl (lv_at hl 1 rfl) ?_
        refine va_ti hx hb hTH hS (i := k_k) (vp_in_iff.mpr ⟨by omega, by omega⟩) (v := .int (g_hav k_k.toNatClampNeg)) (g_hav_eq _) dX7_masksBefore_29 ?_
        refine lv_iand hx hb dX7_masksBefore_30 ?_
        refine lv_istore_n (lv' := [(2, .int (k_b &&& (g_hav k_k.toNatClampNeg))), (3, .int k_k), (0, .int p_s), (1, .int p_a)]) hx hb dX7_masksBefore_31 rfl hl (by decide) rfl (fun ls hl => ?_)
        refine lv_iload_n hx hb dX7_masksBefore_32 rfl (lv_at hl 0 rfl) ?_
        refine lv_iload_n hx hb dX7_masksBefore_33 rfl (lv_at hl 0 rfl) ?_
        refine lv_iconst (v := 1) hx hb dX7_masksBefore_34 (by decide) ?_
        refine lv_iload_n hx hb dX7_masksBefore_35 rfl (lv_at hl 1 rfl) ?_
        refine lv_ishl hx hb dX7_masksBefore_36 ?_
        refine lv_iushr (v := (((k_b &&& (g_hav k_k.toNatClampNeg)).toUInt32 >>> ((1 <<< (k_k &&& 31)).toUInt32 &&& Int32.toUInt32 31)).toInt32)) hx hb dX7_masksBefore_37 rfl ?_
        refine lv_ior hx hb dX7_masksBefore_38 ?_
        refine lv_istore_n (lv' := [(2, .int ((k_b &&& (g_hav k_k.toNatClampNeg)) ||| (((k_b &&& (g_hav k_k.toNatClampNeg)).toUInt32 >>> ((1 <<< (k_k &&& 31)).toUInt32 &&& Int32.toUInt32 31)).toInt32))), (3, .int k_k), (0, .int p_s), (1, .int p_a)]) hx hb dX7_masksBefore_39 rfl hl (by decide) rfl (fun ls hl => ?_)
        refine lv_iinc (v := (k_k + 1)) (lv' := [(3, .int (k_k + 1)), (2, .int ((k_b &&& (g_hav k_k.toNatClampNeg)) ||| (((k_b &&& (g_hav k_k.toNatClampNeg)).toUInt32 >>> ((1 <<< (k_k &&& 31)).toUInt32 &&& Int32.toUInt32 31)).toInt32))), (0, .int p_s), (1, .int p_a)]) hx hb dX7_masksBefore_40 hl (k := 1) rfl rfl (by decide) rfl (fun ls hl => ?_)
        have t_7 : (k_k + 1).toInt = k_k.toInt + 1 := g5_iadd (a := k_k.toInt) (b := 1) rfl (by decide) (by omega) (by omega)
        refine lv_goto (tgt := 4) hx hb dX7_masksBefore_43 (by decide) ?_
        exact ih_4_2 ((k_k + 1), ((k_b &&& (g_hav k_k.toNatClampNeg)) ||| (((k_b &&& (g_hav k_k.toNatClampNeg)).toUInt32 >>> ((1 <<< (k_k &&& 31)).toUInt32 &&& Int32.toUInt32 31)).toInt32))) ls H locs (show Int.toNat (5 - (k_k + 1).toInt) < Int.toNat (5 - k_k.toInt) from g_up (show k_k.toInt < (k_k + 1).toInt by omega) (show k_k.toInt < 5 by omega)) ⟨lv_sub hl [1, 0, 2, 3] rfl, hP, hD, hS, ⟨by omega, by omega⟩⟩
theorem dgX7_masksAfter_0 : ∀ r ∈ ([(0, (.iload_n 0, 1)), (1, (.istore_n 2, 1)), (2, (.iconst 0, 1)), (3, (.istore_n 3, 1)), (4, (.iload_n 3, 1)), (5, (.getstatic 114, 3)), (8, (.arraylength, 1)), (9, (.if_icmp .ge 43, 3)), (12, (.iload_n 1, 1)), (13, (.ifCond .eq 39, 3)), (16, (.iload_n 1, 1)), (17, (.iload_n 3, 1)), (18, (.ishr, 1)), (19, (.iconst 1, 1)), (20, (.iand, 1)), (21, (.ifCond .eq 25, 3)), (24, (.iload_n 2, 1)), (25, (.getstatic 114, 3)), (28, (.iload_n 3, 1)), (29, (.iaload, 1)), (30, (.iand, 1)), (31, (.iload_n 2, 1)), (32, (.getstatic 114, 3)), (35, (.iload_n 3, 1)), (36, (.iaload, 1)), (37, (.iconst (-1), 1)), (38, (.ixor, 1)), (39, (.iand, 1)), (40, (.iconst 1, 1)), (41, (.iload_n 3, 1)), (42, (.ishl, 1)), (43, (.ishl, 1)), (44, (.ior, 1)), (45, (.istore_n 2, 1)), (46, (.iinc 3 1, 3)), (49, (.goto (-45), 3)), (52, (.iload_n 2, 1)), (53, (.ireturn, 1))] : List (Nat × (Instr × Nat))), decode cX7_masksAfter r.1 = .ok r.2 := by decide +kernel
theorem dX7_masksAfter_0 : decode cX7_masksAfter 0 = .ok (.iload_n 0, 1) := dgX7_masksAfter_0 (0, (.iload_n 0, 1)) (List.mem_of_getElem? (i := 0) rfl)
theorem dX7_masksAfter_1 : decode cX7_masksAfter 1 = .ok (.istore_n 2, 1) := dgX7_masksAfter_0 (1, (.istore_n 2, 1)) (List.mem_of_getElem? (i := 1) rfl)
theorem dX7_masksAfter_2 : decode cX7_masksAfter 2 = .ok (.iconst 0, 1) := dgX7_masksAfter_0 (2, (.iconst 0, 1)) (List.mem_of_getElem? (i := 2) rfl)
theorem dX7_masksAfter_3 : decode cX7_masksAfter 3 = .ok (.istore_n 3, 1) := dgX7_masksAfter_0 (3, (.istore_n 3, 1)) (List.mem_of_getElem? (i := 3) rfl)
theorem dX7_masksAfter_4 : decode cX7_masksAfter 4 = .ok (.iload_n 3, 1) := dgX7_masksAfter_0 (4, (.iload_n 3, 1)) (List.mem_of_getElem? (i := 4) rfl)
theorem dX7_masksAfter_5 : decode cX7_masksAfter 5 = .ok (.getstatic 114, 3) := dgX7_masksAfter_0 (5, (.getstatic 114, 3)) (List.mem_of_getElem? (i := 5) rfl)
theorem dX7_masksAfter_8 : decode cX7_masksAfter 8 = .ok (.arraylength, 1) := dgX7_masksAfter_0 (8, (.arraylength, 1)) (List.mem_of_getElem? (i := 6) rfl)
theorem dX7_masksAfter_9 : decode cX7_masksAfter 9 = .ok (.if_icmp .ge 43, 3) := dgX7_masksAfter_0 (9, (.if_icmp .ge 43, 3)) (List.mem_of_getElem? (i := 7) rfl)
theorem dX7_masksAfter_12 : decode cX7_masksAfter 12 = .ok (.iload_n 1, 1) := dgX7_masksAfter_0 (12, (.iload_n 1, 1)) (List.mem_of_getElem? (i := 8) rfl)
theorem dX7_masksAfter_13 : decode cX7_masksAfter 13 = .ok (.ifCond .eq 39, 3) := dgX7_masksAfter_0 (13, (.ifCond .eq 39, 3)) (List.mem_of_getElem? (i := 9) rfl)
theorem dX7_masksAfter_16 : decode cX7_masksAfter 16 = .ok (.iload_n 1, 1) := dgX7_masksAfter_0 (16, (.iload_n 1, 1)) (List.mem_of_getElem? (i := 10) rfl)
theorem dX7_masksAfter_17 : decode cX7_masksAfter 17 = .ok (.iload_n 3, 1) := dgX7_masksAfter_0 (17, (.iload_n 3, 1)) (List.mem_of_getElem? (i := 11) rfl)
theorem dX7_masksAfter_18 : decode cX7_masksAfter 18 = .ok (.ishr, 1) := dgX7_masksAfter_0 (18, (.ishr, 1)) (List.mem_of_getElem? (i := 12) rfl)
theorem dX7_masksAfter_19 : decode cX7_masksAfter 19 = .ok (.iconst 1, 1) := dgX7_masksAfter_0 (19, (.iconst 1, 1)) (List.mem_of_getElem? (i := 13) rfl)
theorem dX7_masksAfter_20 : decode cX7_masksAfter 20 = .ok (.iand, 1) := dgX7_masksAfter_0 (20, (.iand, 1)) (List.mem_of_getElem? (i := 14) rfl)
theorem dX7_masksAfter_21 : decode cX7_masksAfter 21 = .ok (.ifCond .eq 25, 3) := dgX7_masksAfter_0 (21, (.ifCond .eq 25, 3)) (List.mem_of_getElem? (i := 15) rfl)
theorem dX7_masksAfter_24 : decode cX7_masksAfter 24 = .ok (.iload_n 2, 1) := dgX7_masksAfter_0 (24, (.iload_n 2, 1)) (List.mem_of_getElem? (i := 16) rfl)
theorem dX7_masksAfter_25 : decode cX7_masksAfter 25 = .ok (.getstatic 114, 3) := dgX7_masksAfter_0 (25, (.getstatic 114, 3)) (List.mem_of_getElem? (i := 17) rfl)
theorem dX7_masksAfter_28 : decode cX7_masksAfter 28 = .ok (.iload_n 3, 1) := dgX7_masksAfter_0 (28, (.iload_n 3, 1)) (List.mem_of_getElem? (i := 18) rfl)
theorem dX7_masksAfter_29 : decode cX7_masksAfter 29 = .ok (.iaload, 1) := dgX7_masksAfter_0 (29, (.iaload, 1)) (List.mem_of_getElem? (i := 19) rfl)
theorem dX7_masksAfter_30 : decode cX7_masksAfter 30 = .ok (.iand, 1) := dgX7_masksAfter_0 (30, (.iand, 1)) (List.mem_of_getElem? (i := 20) rfl)
theorem dX7_masksAfter_31 : decode cX7_masksAfter 31 = .ok (.iload_n 2, 1) := dgX7_masksAfter_0 (31, (.iload_n 2, 1)) (List.mem_of_getElem? (i := 21) rfl)
theorem dX7_masksAfter_32 : decode cX7_masksAfter 32 = .ok (.getstatic 114, 3) := dgX7_masksAfter_0 (32, (.getstatic 114, 3)) (List.mem_of_getElem? (i := 22) rfl)
theorem dX7_masksAfter_35 : decode cX7_masksAfter 35 = .ok (.iload_n 3, 1) := dgX7_masksAfter_0 (35, (.iload_n 3, 1)) (List.mem_of_getElem? (i := 23) rfl)
theorem dX7_masksAfter_36 : decode cX7_masksAfter 36 = .ok (.iaload, 1) := dgX7_masksAfter_0 (36, (.iaload, 1)) (List.mem_of_getElem? (i := 24) rfl)
theorem dX7_masksAfter_37 : decode cX7_masksAfter 37 = .ok (.iconst (-1), 1) := dgX7_masksAfter_0 (37, (.iconst (-1), 1)) (List.mem_of_getElem? (i := 25) rfl)
theorem dX7_masksAfter_38 : decode cX7_masksAfter 38 = .ok (.ixor, 1) := dgX7_masksAfter_0 (38, (.ixor, 1)) (List.mem_of_getElem? (i := 26) rfl)
theorem dX7_masksAfter_39 : decode cX7_masksAfter 39 = .ok (.iand, 1) := dgX7_masksAfter_0 (39, (.iand, 1)) (List.mem_of_getElem? (i := 27) rfl)
theorem dX7_masksAfter_40 : decode cX7_masksAfter 40 = .ok (.iconst 1, 1) := dgX7_masksAfter_0 (40, (.iconst 1, 1)) (List.mem_of_getElem? (i := 28) rfl)
theorem dX7_masksAfter_41 : decode cX7_masksAfter 41 = .ok (.iload_n 3, 1) := dgX7_masksAfter_0 (41, (.iload_n 3, 1)) (List.mem_of_getElem? (i := 29) rfl)
theorem dX7_masksAfter_42 : decode cX7_masksAfter 42 = .ok (.ishl, 1) := dgX7_masksAfter_0 (42, (.ishl, 1)) (List.mem_of_getElem? (i := 30) rfl)
theorem dX7_masksAfter_43 : decode cX7_masksAfter 43 = .ok (.ishl, 1) := dgX7_masksAfter_0 (43, (.ishl, 1)) (List.mem_of_getElem? (i := 31) rfl)
theorem dX7_masksAfter_44 : decode cX7_masksAfter 44 = .ok (.ior, 1) := dgX7_masksAfter_0 (44, (.ior, 1)) (List.mem_of_getElem? (i := 32) rfl)
theorem dX7_masksAfter_45 : decode cX7_masksAfter 45 = .ok (.istore_n 2, 1) := dgX7_masksAfter_0 (45, (.istore_n 2, 1)) (List.mem_of_getElem? (i := 33) rfl)
theorem dX7_masksAfter_46 : decode cX7_masksAfter 46 = .ok (.iinc 3 1, 3) := dgX7_masksAfter_0 (46, (.iinc 3 1, 3)) (List.mem_of_getElem? (i := 34) rfl)
theorem dX7_masksAfter_49 : decode cX7_masksAfter 49 = .ok (.goto (-45), 3) := dgX7_masksAfter_0 (49, (.goto (-45), 3)) (List.mem_of_getElem? (i := 35) rfl)
theorem dX7_masksAfter_52 : decode cX7_masksAfter 52 = .ok (.iload_n 2, 1) := dgX7_masksAfter_0 (52, (.iload_n 2, 1)) (List.mem_of_getElem? (i := 36) rfl)
theorem dX7_masksAfter_53 : decode cX7_masksAfter 53 = .ok (.ireturn, 1) := dgX7_masksAfter_0 (53, (.ireturn, 1)) (List.mem_of_getElem? (i := 37) rfl)
set_option maxHeartbeats 4000000 in
set_option maxRecDepth 100000 in
theorem th_masksAfter (l : Launch) (G : g5_G) (sz : Nat) (p_s : Int32) (p_a : Int32) : Met l yX7_masksAfter (wsG yX7_masksAfter cX7_masksAfter 4 (some .int)) ({ frames := 0, cells := 0, slots := 0, locals := 0 }) (va_Pc [.int p_s, .int p_a] (g5_P G [] sz)) (va_Qi (fun (r : Int32) (u : va_W) => (∃ (o_r : Int32), (r = o_r) ∧ (u = []))) (g5_B G (va_A [] sz)) (va_A [] sz)) 0 0 (va_A [] sz) := by
  refine Met.ofW (cc := cX7_masksAfter) (maxL := 4) (ret := (some .int)) (by decide) rfl ?_
  intro p e s m args below meth c s₁ B hml hv
  obtain ⟨rfl, hsz, hP, hK, hD0, hN, hT⟩ := hv
  have hx := B.exec
  have hb := B.bytes
  have hr := B.returns
  have hts : ∀ w ∈ tblG, w.before _ s = true := fun w h => atoms_spec (ws := (wsG yX7_masksAfter cX7_masksAfter 4 (some .int))) B.pre w (List.mem_cons_of_mem _ h)
  have hown : s.vm.findClass RX7 = some m.cls := findClass_of_methodNamed B.named
  have hlocks := B.notSynchronized
  subst hsz
  have hD := hD0.self (sz := s.heap.size)
  generalize hAe : va_A [] s.heap.size = A at hD hT ⊢
  have hA : ∀ q : Nat, s.heap.size ≤ q → A q := fun q h => by rw [← hAe]; exact Or.inr h
  have hS : va_S A s.heap s.heap [] := va_S.rf
  have hP : va_P G.1 vwCl [] s.heap := hP
  have hl := lv_entry ([.int p_s, .int p_a]) (n := 4) (Nat.le_of_ble_eq_true rfl)
  rw [lg_entry_eq]
  generalize (lg_sl ([.int p_s, .int p_a]) ++ List.replicate (4 - (lg_sl ([.int p_s, .int p_a])).length) Slot.unset).toArray = ls at hl ⊢
  have hl : lv_has ls 4 [(0, .int p_s), (1, .int p_a)] := hl
  refine lv_iload_n hx hb dX7_masksAfter_0 rfl (lv_at hl 0 rfl) ?_
  refine lv_istore_n (lv' := [(2, .int p_s), (0, .int p_s), (1, .int p_a)]) hx hb dX7_masksAfter_1 rfl hl (by decide) rfl (fun ls hl => ?_)
  refine lv_iconst (v := 0) hx hb dX7_masksAfter_2 (by decide) ?_
  refine lv_istore_n (lv' := [(3, .int 0), (2, .int p_s), (0, .int p_s), (1, .int p_a)]) hx hb dX7_masksAfter_3 rfl hl (by decide) rfl (fun ls hl => ?_)
  refine g5_loop (α := (Int32) × (Int32)) (fun (q : (Int32) × (Int32)) (ls : Array Slot) (H : Heap) (locs : List Loc) => match q with | (k_k, k_b) => lv_has ls 4 [(2, .int k_b), (3, .int k_k), (0, .int p_s), (1, .int p_a)] ∧ va_P G.1 vwCl [] H ∧ va_D A [] ∧ va_S A s.heap H locs ∧ (0 ≤ k_k.toInt ∧ k_k.toInt ≤ 5)) (fun (q : (Int32) × (Int32)) => match q with | (k_k, k_b) => Int.toNat (5 - k_k.toInt)) (0, p_s) ⟨lv_sub hl [1, 0, 2, 3] rfl, hP, hD, hS, ⟨by decide, by decide⟩⟩ ?_
  rintro ⟨k_k, k_b⟩ ls H locs ⟨hl, hP, hD, hS, i_1⟩ ih_4_2
  have hl : lv_has ls 4 [(2, .int k_b), (3, .int k_k), (0, .int p_s), (1, .int p_a)] := hl
  have i_1 : 0 ≤ k_k.toInt ∧ k_k.toInt ≤ 5 := i_1
  refine g5_rs [] hP hD (fun hP hD => ?_)
  refine lv_iload_n hx hb dX7_masksAfter_4 rfl (lv_at hl 1 rfl) ?_
  obtain ⟨tH, tL, tK, tV, tF, hZH, hTH, hZL, hTL, -⟩ := id hT
  refine va_getsN hx hb hZH hS hown (hN.1 _ g5_nw_X7_114) (fun _ h9 => h9) dX7_masksAfter_5 ?_
  refine va_tlen hx hb hTH hS (v := 5) (by decide) dX7_masksAfter_8 ?_
  refine lv_icmp_ge (tgt := 52) hx hb dX7_masksAfter_9 (by decide) (fun c_3 => ?_) (fun c_3 => ?_)
  ·
    have i_3 : k_k.toInt ≥ 5 := by have z := g5_ge (a := k_k.toInt) (b := 5) (by rfl) (by decide) c_3; omega
    refine lv_iload_n hx hb dX7_masksAfter_52 rfl (lv_at hl 0 rfl) ?_
    exact W.iret (v := k_b) hx hb hr (fun t ht hW => ⟨⟨k_b, [], rfl, ⟨k_b, rfl, rfl⟩, by rw [ht]; exact hP.sub [] rfl, hD.sub [] (by decide) rfl⟩, hS.F ht⟩) hS.2.2 dX7_masksAfter_53
  ·
    have i_3 : k_k.toInt < 5 := by have z := g5_geN (a := k_k.toInt) (b := 5) (by rfl) (by decide) c_3; omega
    refine lv_iload_n hx hb dX7_masksAfter_12 rfl (lv_at hl 3 rfl) ?_
    refine lv_if_eq (tgt := 52) hx hb dX7_masksAfter_13 (by decide) (fun c_4 => ?_) (fun c_4 => ?_)
    ·
      have i_4 : p_a.toInt = 0 := by have z := g5_eq (a := p_a.toInt) (b := 0) (by rfl) (by decide) c_4; omega
      refine lv_iload_n hx hb dX7_masksAfter_52 rfl (lv_at hl 0 rfl) ?_
      exact W.iret (v := k_b) hx hb hr (fun t ht hW => ⟨⟨k_b, [], rfl, ⟨k_b, rfl, rfl⟩, by rw [ht]; exact hP.sub [] rfl, hD.sub [] (by decide) rfl⟩, hS.F ht⟩) hS.2.2 dX7_masksAfter_53
    ·
      have n_4 : gNe (p_a.toInt) (0) := by have z := g5_eqN (a := p_a.toInt) (b := 0) (by rfl) (by decide) c_4; unfold gNe; omega
      refine lv_iload_n hx hb dX7_masksAfter_16 rfl (lv_at hl 3 rfl) ?_
      refine lv_iload_n hx hb dX7_masksAfter_17 rfl (lv_at hl 1 rfl) ?_
      refine lv_ishr hx hb dX7_masksAfter_18 ?_
      refine lv_iconst (v := 1) hx hb dX7_masksAfter_19 (by decide) ?_
      refine lv_iand hx hb dX7_masksAfter_20 ?_
      refine lv_if_eq (tgt := 46) hx hb dX7_masksAfter_21 (by decide) (fun c_5 => ?_) (fun c_5 => ?_)
      ·
        have i_5 : ((p_a >>> (k_k &&& 31)) &&& 1).toInt = 0 := by have z := g5_eq (a := ((p_a >>> (k_k &&& 31)) &&& 1).toInt) (b := 0) (by rfl) (by decide) c_5; omega
        refine lv_iinc (v := (k_k + 1)) (lv' := [(3, .int (k_k + 1)), (2, .int k_b), (0, .int p_s), (1, .int p_a)]) hx hb dX7_masksAfter_46 hl (k := 1) rfl rfl (by decide) rfl (fun ls hl => ?_)
        have t_6 : (k_k + 1).toInt = k_k.toInt + 1 := g5_iadd (a := k_k.toInt) (b := 1) rfl (by decide) (by omega) (by omega)
        refine lv_goto (tgt := 4) hx hb dX7_masksAfter_49 (by decide) ?_
        exact ih_4_2 ((k_k + 1), k_b) ls H locs (show Int.toNat (5 - (k_k + 1).toInt) < Int.toNat (5 - k_k.toInt) from g_up (show k_k.toInt < (k_k + 1).toInt by omega) (show k_k.toInt < 5 by omega)) ⟨lv_sub hl [1, 0, 2, 3] rfl, hP, hD, hS, ⟨by omega, by omega⟩⟩
      ·
        have n_5 : gNe (((p_a >>> (k_k &&& 31)) &&& 1).toInt) (0) := by have z := g5_eqN (a := ((p_a >>> (k_k &&& 31)) &&& 1).toInt) (b := 0) (by rfl) (by decide) c_5; unfold gNe; omega
        refine lv_iload_n hx hb dX7_masksAfter_24 rfl (lv_at hl 0 rfl) ?_
        obtain ⟨tH, tL, tK, tV, tF, hZH, hTH, hZL, hTL, -⟩ := id hT
        refine va_getsN hx hb hZH hS hown (hN.1 _ g5_nw_X7_114) (fun _ h9 => h9) dX7_masksAfter_25 ?_
        refine lv_iload_n hx hb dX7_masksAfter_28 rfl (lv_at hl 1 rfl) ?_
        refine va_ti hx hb hTH hS (i := k_k) (vp_in_iff.mpr ⟨by omega, by omega⟩) (v := .int (g_hav k_k.toNatClampNeg)) (g_hav_eq _) dX7_masksAfter_29 ?_
        refine lv_iand hx hb dX7_masksAfter_30 ?_
        refine lv_iload_n hx hb dX7_masksAfter_31 rfl (lv_at hl 0 rfl) ?_
        obtain ⟨tH, tL, tK, tV, tF, hZH, hTH, hZL, hTL, -⟩ := id hT
        refine va_getsN hx hb hZH hS hown (hN.1 _ g5_nw_X7_114) (fun _ h9 => h9) dX7_masksAfter_32 ?_
        refine lv_iload_n hx hb dX7_masksAfter_35 rfl (lv_at hl 1 rfl) ?_
        refine va_ti hx hb hTH hS (i := k_k) (vp_in_iff.mpr ⟨by omega, by omega⟩) (v := .int (g_hav k_k.toNatClampNeg)) (g_hav_eq _) dX7_masksAfter_36 ?_
        refine lv_iconst (v := (-1)) hx hb dX7_masksAfter_37 (by decide) ?_
        refine lv_ixor hx hb dX7_masksAfter_38 ?_
        refine lv_iand hx hb dX7_masksAfter_39 ?_
        refine lv_iconst (v := 1) hx hb dX7_masksAfter_40 (by decide) ?_
        refine lv_iload_n hx hb dX7_masksAfter_41 rfl (lv_at hl 1 rfl) ?_
        refine lv_ishl hx hb dX7_masksAfter_42 ?_
        refine lv_ishl hx hb dX7_masksAfter_43 ?_
        refine lv_ior hx hb dX7_masksAfter_44 ?_
        refine lv_istore_n (lv' := [(2, .int ((k_b &&& (g_hav k_k.toNatClampNeg)) ||| ((k_b &&& ((g_hav k_k.toNatClampNeg) ^^^ (-1))) <<< ((1 <<< (k_k &&& 31)) &&& 31)))), (3, .int k_k), (0, .int p_s), (1, .int p_a)]) hx hb dX7_masksAfter_45 rfl hl (by decide) rfl (fun ls hl => ?_)
        refine lv_iinc (v := (k_k + 1)) (lv' := [(3, .int (k_k + 1)), (2, .int ((k_b &&& (g_hav k_k.toNatClampNeg)) ||| ((k_b &&& ((g_hav k_k.toNatClampNeg) ^^^ (-1))) <<< ((1 <<< (k_k &&& 31)) &&& 31)))), (0, .int p_s), (1, .int p_a)]) hx hb dX7_masksAfter_46 hl (k := 1) rfl rfl (by decide) rfl (fun ls hl => ?_)
        have t_7 : (k_k + 1).toInt = k_k.toInt + 1 := g5_iadd (a := k_k.toInt) (b := 1) rfl (by decide) (by omega) (by omega)
        refine lv_goto (tgt := 4) hx hb dX7_masksAfter_49 (by decide) ?_
        exact ih_4_2 ((k_k + 1), ((k_b &&& (g_hav k_k.toNatClampNeg)) ||| ((k_b &&& ((g_hav k_k.toNatClampNeg) ^^^ (-1))) <<< ((1 <<< (k_k &&& 31)) &&& 31)))) ls H locs (show Int.toNat (5 - (k_k + 1).toInt) < Int.toNat (5 - k_k.toInt) from g_up (show k_k.toInt < (k_k + 1).toInt by omega) (show k_k.toInt < 5 by omega)) ⟨lv_sub hl [1, 0, 2, 3] rfl, hP, hD, hS, ⟨by omega, by omega⟩⟩
theorem dgX7_hopesBehind_0 : ∀ r ∈ ([(0, (.iload_n 1, 1)), (1, (.bipush 23, 2)), (3, (.if_icmp .ne 10, 3)), (6, (.iconst 1, 1)), (7, (.aload_n 0, 1)), (8, (.getfield 89, 3)), (11, (.ishl, 1)), (12, (.ireturn, 1)), (13, (.iconst 0, 1)), (14, (.istore_n 3, 1)), (15, (.iconst 0, 1)), (16, (.istore 4, 2)), (18, (.iload 4, 2)), (20, (.iconst 4, 1)), (21, (.if_icmp .gt 44, 3)), (24, (.iload_n 2, 1)), (25, (.iload 4, 2)), (27, (.invokestatic 105, 3)), (30, (.istore 5, 2)), (32, (.iload_n 3, 1)), (33, (.iload 5, 2)), (35, (.iconst (-1), 1)), (36, (.if_icmp .ne 7, 3)), (39, (.iconst 0, 1)), (40, (.goto 17, 3)), (43, (.aload_n 0, 1)), (44, (.getfield 25, 3)), (47, (.iload_n 1, 1)), (48, (.iconst 1, 1)), (49, (.iadd, 1)), (50, (.bipush 64, 2)), (52, (.imul, 1)), (53, (.iload 5, 2)), (55, (.iadd, 1)), (56, (.iaload, 1)), (57, (.ior, 1)), (58, (.istore_n 3, 1)), (59, (.iinc 4 1, 3)), (62, (.goto (-44), 3)), (65, (.iload_n 3, 1))] : List (Nat × (Instr × Nat))), decode cX7_hopesBehind r.1 = .ok r.2 := by decide +kernel
theorem dX7_hopesBehind_0 : decode cX7_hopesBehind 0 = .ok (.iload_n 1, 1) := dgX7_hopesBehind_0 (0, (.iload_n 1, 1)) (List.mem_of_getElem? (i := 0) rfl)
theorem dX7_hopesBehind_1 : decode cX7_hopesBehind 1 = .ok (.bipush 23, 2) := dgX7_hopesBehind_0 (1, (.bipush 23, 2)) (List.mem_of_getElem? (i := 1) rfl)
theorem dX7_hopesBehind_3 : decode cX7_hopesBehind 3 = .ok (.if_icmp .ne 10, 3) := dgX7_hopesBehind_0 (3, (.if_icmp .ne 10, 3)) (List.mem_of_getElem? (i := 2) rfl)
theorem dX7_hopesBehind_6 : decode cX7_hopesBehind 6 = .ok (.iconst 1, 1) := dgX7_hopesBehind_0 (6, (.iconst 1, 1)) (List.mem_of_getElem? (i := 3) rfl)
theorem dX7_hopesBehind_7 : decode cX7_hopesBehind 7 = .ok (.aload_n 0, 1) := dgX7_hopesBehind_0 (7, (.aload_n 0, 1)) (List.mem_of_getElem? (i := 4) rfl)
theorem dX7_hopesBehind_8 : decode cX7_hopesBehind 8 = .ok (.getfield 89, 3) := dgX7_hopesBehind_0 (8, (.getfield 89, 3)) (List.mem_of_getElem? (i := 5) rfl)
theorem dX7_hopesBehind_11 : decode cX7_hopesBehind 11 = .ok (.ishl, 1) := dgX7_hopesBehind_0 (11, (.ishl, 1)) (List.mem_of_getElem? (i := 6) rfl)
theorem dX7_hopesBehind_12 : decode cX7_hopesBehind 12 = .ok (.ireturn, 1) := dgX7_hopesBehind_0 (12, (.ireturn, 1)) (List.mem_of_getElem? (i := 7) rfl)
theorem dX7_hopesBehind_13 : decode cX7_hopesBehind 13 = .ok (.iconst 0, 1) := dgX7_hopesBehind_0 (13, (.iconst 0, 1)) (List.mem_of_getElem? (i := 8) rfl)
theorem dX7_hopesBehind_14 : decode cX7_hopesBehind 14 = .ok (.istore_n 3, 1) := dgX7_hopesBehind_0 (14, (.istore_n 3, 1)) (List.mem_of_getElem? (i := 9) rfl)
theorem dX7_hopesBehind_15 : decode cX7_hopesBehind 15 = .ok (.iconst 0, 1) := dgX7_hopesBehind_0 (15, (.iconst 0, 1)) (List.mem_of_getElem? (i := 10) rfl)
theorem dX7_hopesBehind_16 : decode cX7_hopesBehind 16 = .ok (.istore 4, 2) := dgX7_hopesBehind_0 (16, (.istore 4, 2)) (List.mem_of_getElem? (i := 11) rfl)
theorem dX7_hopesBehind_18 : decode cX7_hopesBehind 18 = .ok (.iload 4, 2) := dgX7_hopesBehind_0 (18, (.iload 4, 2)) (List.mem_of_getElem? (i := 12) rfl)
theorem dX7_hopesBehind_20 : decode cX7_hopesBehind 20 = .ok (.iconst 4, 1) := dgX7_hopesBehind_0 (20, (.iconst 4, 1)) (List.mem_of_getElem? (i := 13) rfl)
theorem dX7_hopesBehind_21 : decode cX7_hopesBehind 21 = .ok (.if_icmp .gt 44, 3) := dgX7_hopesBehind_0 (21, (.if_icmp .gt 44, 3)) (List.mem_of_getElem? (i := 14) rfl)
theorem dX7_hopesBehind_24 : decode cX7_hopesBehind 24 = .ok (.iload_n 2, 1) := dgX7_hopesBehind_0 (24, (.iload_n 2, 1)) (List.mem_of_getElem? (i := 15) rfl)
theorem dX7_hopesBehind_25 : decode cX7_hopesBehind 25 = .ok (.iload 4, 2) := dgX7_hopesBehind_0 (25, (.iload 4, 2)) (List.mem_of_getElem? (i := 16) rfl)
theorem dX7_hopesBehind_27 : decode cX7_hopesBehind 27 = .ok (.invokestatic 105, 3) := dgX7_hopesBehind_0 (27, (.invokestatic 105, 3)) (List.mem_of_getElem? (i := 17) rfl)
theorem dX7_hopesBehind_30 : decode cX7_hopesBehind 30 = .ok (.istore 5, 2) := dgX7_hopesBehind_0 (30, (.istore 5, 2)) (List.mem_of_getElem? (i := 18) rfl)
theorem dX7_hopesBehind_32 : decode cX7_hopesBehind 32 = .ok (.iload_n 3, 1) := dgX7_hopesBehind_0 (32, (.iload_n 3, 1)) (List.mem_of_getElem? (i := 19) rfl)
theorem dX7_hopesBehind_33 : decode cX7_hopesBehind 33 = .ok (.iload 5, 2) := dgX7_hopesBehind_0 (33, (.iload 5, 2)) (List.mem_of_getElem? (i := 20) rfl)
theorem dX7_hopesBehind_35 : decode cX7_hopesBehind 35 = .ok (.iconst (-1), 1) := dgX7_hopesBehind_0 (35, (.iconst (-1), 1)) (List.mem_of_getElem? (i := 21) rfl)
theorem dX7_hopesBehind_36 : decode cX7_hopesBehind 36 = .ok (.if_icmp .ne 7, 3) := dgX7_hopesBehind_0 (36, (.if_icmp .ne 7, 3)) (List.mem_of_getElem? (i := 22) rfl)
theorem dX7_hopesBehind_39 : decode cX7_hopesBehind 39 = .ok (.iconst 0, 1) := dgX7_hopesBehind_0 (39, (.iconst 0, 1)) (List.mem_of_getElem? (i := 23) rfl)
theorem dX7_hopesBehind_40 : decode cX7_hopesBehind 40 = .ok (.goto 17, 3) := dgX7_hopesBehind_0 (40, (.goto 17, 3)) (List.mem_of_getElem? (i := 24) rfl)
theorem dX7_hopesBehind_43 : decode cX7_hopesBehind 43 = .ok (.aload_n 0, 1) := dgX7_hopesBehind_0 (43, (.aload_n 0, 1)) (List.mem_of_getElem? (i := 25) rfl)
theorem dX7_hopesBehind_44 : decode cX7_hopesBehind 44 = .ok (.getfield 25, 3) := dgX7_hopesBehind_0 (44, (.getfield 25, 3)) (List.mem_of_getElem? (i := 26) rfl)
theorem dX7_hopesBehind_47 : decode cX7_hopesBehind 47 = .ok (.iload_n 1, 1) := dgX7_hopesBehind_0 (47, (.iload_n 1, 1)) (List.mem_of_getElem? (i := 27) rfl)
theorem dX7_hopesBehind_48 : decode cX7_hopesBehind 48 = .ok (.iconst 1, 1) := dgX7_hopesBehind_0 (48, (.iconst 1, 1)) (List.mem_of_getElem? (i := 28) rfl)
theorem dX7_hopesBehind_49 : decode cX7_hopesBehind 49 = .ok (.iadd, 1) := dgX7_hopesBehind_0 (49, (.iadd, 1)) (List.mem_of_getElem? (i := 29) rfl)
theorem dX7_hopesBehind_50 : decode cX7_hopesBehind 50 = .ok (.bipush 64, 2) := dgX7_hopesBehind_0 (50, (.bipush 64, 2)) (List.mem_of_getElem? (i := 30) rfl)
theorem dX7_hopesBehind_52 : decode cX7_hopesBehind 52 = .ok (.imul, 1) := dgX7_hopesBehind_0 (52, (.imul, 1)) (List.mem_of_getElem? (i := 31) rfl)
theorem dX7_hopesBehind_53 : decode cX7_hopesBehind 53 = .ok (.iload 5, 2) := dgX7_hopesBehind_0 (53, (.iload 5, 2)) (List.mem_of_getElem? (i := 32) rfl)
theorem dX7_hopesBehind_55 : decode cX7_hopesBehind 55 = .ok (.iadd, 1) := dgX7_hopesBehind_0 (55, (.iadd, 1)) (List.mem_of_getElem? (i := 33) rfl)
theorem dX7_hopesBehind_56 : decode cX7_hopesBehind 56 = .ok (.iaload, 1) := dgX7_hopesBehind_0 (56, (.iaload, 1)) (List.mem_of_getElem? (i := 34) rfl)
theorem dX7_hopesBehind_57 : decode cX7_hopesBehind 57 = .ok (.ior, 1) := dgX7_hopesBehind_0 (57, (.ior, 1)) (List.mem_of_getElem? (i := 35) rfl)
theorem dX7_hopesBehind_58 : decode cX7_hopesBehind 58 = .ok (.istore_n 3, 1) := dgX7_hopesBehind_0 (58, (.istore_n 3, 1)) (List.mem_of_getElem? (i := 36) rfl)
theorem dX7_hopesBehind_59 : decode cX7_hopesBehind 59 = .ok (.iinc 4 1, 3) := dgX7_hopesBehind_0 (59, (.iinc 4 1, 3)) (List.mem_of_getElem? (i := 37) rfl)
theorem dX7_hopesBehind_62 : decode cX7_hopesBehind 62 = .ok (.goto (-44), 3) := dgX7_hopesBehind_0 (62, (.goto (-44), 3)) (List.mem_of_getElem? (i := 38) rfl)
theorem dX7_hopesBehind_65 : decode cX7_hopesBehind 65 = .ok (.iload_n 3, 1) := dgX7_hopesBehind_0 (65, (.iload_n 3, 1)) (List.mem_of_getElem? (i := 39) rfl)
theorem dgX7_hopesBehind_1 : ∀ r ∈ ([(66, (.ireturn, 1))] : List (Nat × (Instr × Nat))), decode cX7_hopesBehind r.1 = .ok r.2 := by decide +kernel
theorem dX7_hopesBehind_66 : decode cX7_hopesBehind 66 = .ok (.ireturn, 1) := dgX7_hopesBehind_1 (66, (.ireturn, 1)) (List.mem_of_getElem? (i := 0) rfl)
theorem fl_X7_25 : Cond.fieldLink RX7 25 "LateGlass$Thief" "hopes" "[I" ∈ tblG := tg 325 (by decide +kernel) (by decide +kernel)
theorem fl_X7_89 : Cond.fieldLink RX7 89 "LateGlass$Thief" "full" "I" ∈ tblG := tg 322 (by decide +kernel) (by decide +kernel)
set_option maxHeartbeats 4000000 in
set_option maxRecDepth 100000 in
theorem th_behind (l : Launch) (G : g5_G) (a_th a_hp a_h a_k a_ba a_ad a_cn a_nx a_hl a_lv : Nat) (sz : Nat) (e_fu : Int32) (p_h : Int32) (p_c : Int32) (f_hp : Nat → Int32) (h_p_h : 0 ≤ p_h.toInt ∧ p_h.toInt ≤ 23) (h_p_c : 0 ≤ p_c.toInt ∧ p_c.toInt ≤ 63) : Met l yX7_hopesBehind (wsG yX7_hopesBehind cX7_hopesBehind 6 (some .int)) ({ frames := 1, cells := 0, slots := 0, locals := 21 }) (va_Pc [.ref a_th, .int p_h, .int p_c] (g5_P G [(a_th, (oc7 a_h a_k a_ba a_ad e_fu a_cn a_nx a_hp a_hl a_lv)), (a_hp, (arI G 1536 f_hp))] sz)) (va_Qi (fun (r : Int32) (u : va_W) => (∃ (o_r : Int32), (r = o_r) ∧ (u = [(a_th, (oc7 a_h a_k a_ba a_ad e_fu a_cn a_nx a_hp a_hl a_lv)), (a_hp, (arI G 1536 f_hp))]))) (g5_B G (va_A [(a_th, (oc7 a_h a_k a_ba a_ad e_fu a_cn a_nx a_hp a_hl a_lv)), (a_hp, (arI G 1536 f_hp))] sz)) (va_A [(a_th, (oc7 a_h a_k a_ba a_ad e_fu a_cn a_nx a_hp a_hl a_lv)), (a_hp, (arI G 1536 f_hp))] sz)) 0 0 (va_A [(a_th, (oc7 a_h a_k a_ba a_ad e_fu a_cn a_nx a_hp a_hl a_lv)), (a_hp, (arI G 1536 f_hp))] sz) := by
  refine Met.ofW (cc := cX7_hopesBehind) (maxL := 6) (ret := (some .int)) (by decide) rfl ?_
  intro p e s m args below meth c s₁ B hml hv
  obtain ⟨rfl, hsz, hP, hK, hD0, hN, hT⟩ := hv
  have hx := B.exec
  have hb := B.bytes
  have hr := B.returns
  have hts : ∀ w ∈ tblG, w.before _ s = true := fun w h => atoms_spec (ws := (wsG yX7_hopesBehind cX7_hopesBehind 6 (some .int))) B.pre w (List.mem_cons_of_mem _ h)
  have hown : s.vm.findClass RX7 = some m.cls := findClass_of_methodNamed B.named
  have hlocks := B.notSynchronized
  subst hsz
  have hD := hD0.self (sz := s.heap.size)
  generalize hAe : va_A [(a_th, (oc7 a_h a_k a_ba a_ad e_fu a_cn a_nx a_hp a_hl a_lv)), (a_hp, (arI G 1536 f_hp))] s.heap.size = A at hD hT ⊢
  have hA : ∀ q : Nat, s.heap.size ≤ q → A q := fun q h => by rw [← hAe]; exact Or.inr h
  have hS : va_S A s.heap s.heap [] := va_S.rf
  have hP : va_P G.1 vwCl [(a_th, (oc7 a_h a_k a_ba a_ad e_fu a_cn a_nx a_hp a_hl a_lv)), (a_hp, (arI G 1536 f_hp))] s.heap := hP
  have hl := lv_entry ([.ref a_th, .int p_h, .int p_c]) (n := 6) (Nat.le_of_ble_eq_true rfl)
  rw [lg_entry_eq]
  generalize (lg_sl ([.ref a_th, .int p_h, .int p_c]) ++ List.replicate (6 - (lg_sl ([.ref a_th, .int p_h, .int p_c])).length) Slot.unset).toArray = ls at hl ⊢
  have hl : lv_has ls 6 [(0, .ref a_th), (1, .int p_h), (2, .int p_c)] := hl
  refine lv_iload_n hx hb dX7_hopesBehind_0 rfl (lv_at hl 1 rfl) ?_
  refine lv_bipush (v := 23) hx hb dX7_hopesBehind_1 (by decide) ?_
  refine lv_icmp_ne (tgt := 13) hx hb dX7_hopesBehind_3 (by decide) (fun c_1 => ?_) (fun c_1 => ?_)
  ·
    have n_1 : gNe (p_h.toInt) (23) := by have z := g5_ne (a := p_h.toInt) (b := 23) (by rfl) (by decide) c_1; unfold gNe; omega
    have i_1 : p_h.toInt ≤ 22 := by have z := g5_ne (a := p_h.toInt) (b := 23) (by rfl) (by decide) c_1; omega
    refine lv_iconst (v := 0) hx hb dX7_hopesBehind_13 (by decide) ?_
    refine lv_istore_n (lv' := [(3, .int 0), (0, .ref a_th), (1, .int p_h), (2, .int p_c)]) hx hb dX7_hopesBehind_14 rfl hl (by decide) rfl (fun ls hl => ?_)
    refine lv_iconst (v := 0) hx hb dX7_hopesBehind_15 (by decide) ?_
    refine lv_istore (lv' := [(4, .int 0), (3, .int 0), (0, .ref a_th), (1, .int p_h), (2, .int p_c)]) hx hb dX7_hopesBehind_16 hl (by decide) rfl (fun ls hl => ?_)
    refine g5_loop (α := (Int32) × (Int32)) (fun (q : (Int32) × (Int32)) (ls : Array Slot) (H : Heap) (locs : List Loc) => match q with | (k_w, k_s) => lv_has ls 6 [(3, .int k_s), (4, .int k_w), (0, .ref a_th), (1, .int p_h), (2, .int p_c)] ∧ va_P G.1 vwCl [(a_th, (oc7 a_h a_k a_ba a_ad e_fu a_cn a_nx a_hp a_hl a_lv)), (a_hp, (arI G 1536 f_hp))] H ∧ va_D A [(a_th, (oc7 a_h a_k a_ba a_ad e_fu a_cn a_nx a_hp a_hl a_lv)), (a_hp, (arI G 1536 f_hp))] ∧ va_S A s.heap H locs ∧ (0 ≤ k_w.toInt ∧ k_w.toInt ≤ 5)) (fun (q : (Int32) × (Int32)) => match q with | (k_w, k_s) => Int.toNat (5 - k_w.toInt)) (0, 0) ⟨lv_sub hl [1, 0, 2, 3, 4] rfl, hP, hD, hS, ⟨by decide, by decide⟩⟩ ?_
    rintro ⟨k_w, k_s⟩ ls H locs ⟨hl, hP, hD, hS, i_2⟩ ih_18_3
    have hl : lv_has ls 6 [(3, .int k_s), (4, .int k_w), (0, .ref a_th), (1, .int p_h), (2, .int p_c)] := hl
    have i_2 : 0 ≤ k_w.toInt ∧ k_w.toInt ≤ 5 := i_2
    refine g5_rs [(a_th, (oc7 a_h a_k a_ba a_ad e_fu a_cn a_nx a_hp a_hl a_lv)), (a_hp, (arI G 1536 f_hp))] hP hD (fun hP hD => ?_)
    refine lv_iload hx hb dX7_hopesBehind_18 (lv_at hl 1 rfl) ?_
    refine lv_iconst (v := 4) hx hb dX7_hopesBehind_20 (by decide) ?_
    refine lv_icmp_gt (tgt := 65) hx hb dX7_hopesBehind_21 (by decide) (fun c_4 => ?_) (fun c_4 => ?_)
    ·
      have i_4 : k_w.toInt > 4 := by have z := g5_gt (a := k_w.toInt) (b := 4) (by rfl) (by decide) c_4; omega
      refine lv_iload_n hx hb dX7_hopesBehind_65 rfl (lv_at hl 0 rfl) ?_
      exact W.iret (v := k_s) hx hb hr (fun t ht hW => ⟨⟨k_s, [(a_th, (oc7 a_h a_k a_ba a_ad e_fu a_cn a_nx a_hp a_hl a_lv)), (a_hp, (arI G 1536 f_hp))], rfl, ⟨k_s, rfl, rfl⟩, by rw [ht]; exact hP.sub [0, 1] rfl, hD.sub [0, 1] (by decide) rfl⟩, hS.F ht⟩) hS.2.2 dX7_hopesBehind_66
    ·
      have i_4 : k_w.toInt ≤ 4 := by have z := g5_gtN (a := k_w.toInt) (b := 4) (by rfl) (by decide) c_4; omega
      refine lv_iload_n hx hb dX7_hopesBehind_24 rfl (lv_at hl 4 rfl) ?_
      refine lv_iload hx hb dX7_hopesBehind_25 (lv_at hl 1 rfl) ?_
      obtain ⟨hPc, hDc, hFc⟩ := g5_sub3 (wc := []) hP hD hS hA [] (by decide) rfl
      refine va_calli (va_runSN (As := [.int p_c, .int k_w]) (rest := []) ⟨hx, hb, hml, hown, hts⟩ (k_beside l G H.size p_c k_w h_p_c) ⟨va_cnB 2 hts gW_X11_beside rfl rfl rfl (hN.1 _ g5_nw_X7_105) (hts _ ini_X11) hs_X11_beside ⟨Nat.le_of_ble_eq_true rfl, Nat.le_of_ble_eq_true rfl⟩, hts _ st_X11_beside, trivial⟩ (g5_preS hPc hK hDc hN hT hS hFc) rfl rfl hl.1 rfl (lv_room (Nat.le_of_ble_eq_true rfl)) dX7_hopesBehind_27 ⟨Nat.le_of_ble_eq_true rfl, Nat.le_of_ble_eq_true rfl⟩) hS (fun q _ h => hFc q h) hFc (fun r u t H1 locs ht hvm hw hB hz1 hk1 hS => ?_)
      obtain ⟨hP1, hD1⟩ := hB
      rw [ht] at hP1
      obtain ⟨z7, i_5, i_6, y8, rfl⟩ := hw
      have i_5 : z7.toInt = bs p_c.toInt k_w.toInt := i_5
      have i_6 : -1 ≤ z7.toInt ∧ z7.toInt ≤ 63 := i_6
      have hP := g5_same hP hk1
      generalize H1 = H at hP hS ⊢
      refine g5_ti (v := z7) y8 ?_
      refine lv_istore (lv' := [(5, .int z7), (3, .int k_s), (4, .int k_w), (0, .ref a_th), (1, .int p_h), (2, .int p_c)]) hx hb dX7_hopesBehind_30 hl (by decide) rfl (fun ls hl => ?_)
      refine lv_iload_n hx hb dX7_hopesBehind_32 rfl (lv_at hl 1 rfl) ?_
      refine lv_iload hx hb dX7_hopesBehind_33 (lv_at hl 0 rfl) ?_
      refine lv_iconst (v := (-1)) hx hb dX7_hopesBehind_35 (by decide) ?_
      refine lv_icmp_ne (tgt := 43) hx hb dX7_hopesBehind_36 (by decide) (fun c_9 => ?_) (fun c_9 => ?_)
      ·
        have n_9 : gNe (z7.toInt) ((-1)) := by have z := g5_ne (a := z7.toInt) (b := (-1)) (by rfl) (by decide) c_9; unfold gNe; omega
        have i_9 : z7.toInt ≥ 0 := by have z := g5_ne (a := z7.toInt) (b := (-1)) (by rfl) (by decide) c_9; omega
        refine lv_aload_n hx hb dX7_hopesBehind_43 rfl (lv_at hl 3 rfl) ?_
        refine va_get (D := G.1) (ci := 7) (v := .ref a_hp) (C := RX7) (T := TX7) (N := 10) hx hb hts inG_X7 hown hK hP 0 rfl rfl 7 (by decide) (hts _ fl_X7_25) (fun _ h9 => h9) rfl dX7_hopesBehind_44 ?_
        refine lv_iload_n hx hb dX7_hopesBehind_47 rfl (lv_at hl 4 rfl) ?_
        refine lv_iconst (v := 1) hx hb dX7_hopesBehind_48 (by decide) ?_
        refine lv_iadd hx hb dX7_hopesBehind_49 ?_
        have t_10 : (p_h + 1).toInt = p_h.toInt + 1 := g5_iadd (a := p_h.toInt) (b := 1) (by rfl) (by decide) (by omega) (by omega)
        refine lv_bipush (v := 64) hx hb dX7_hopesBehind_50 (by decide) ?_
        refine lv_imul hx hb dX7_hopesBehind_52 ?_
        have t_11 : ((p_h + 1) * 64).toInt = (p_h + 1).toInt * 64 := g5_imul (a := (p_h + 1).toInt) (b := 64) (by rfl) (by decide) (by omega) (by omega)
        refine lv_iload hx hb dX7_hopesBehind_53 (lv_at hl 0 rfl) ?_
        refine lv_iadd hx hb dX7_hopesBehind_55 ?_
        have t_12 : (((p_h + 1) * 64) + z7).toInt = ((p_h + 1) * 64).toInt + z7.toInt := g5_iadd (a := ((p_h + 1) * 64).toInt) (b := z7.toInt) (by rfl) (by rfl) (by omega) (by omega)
        refine va_iald hx hb hK hP 1 0 rfl rfl (i := (((p_h + 1) * 64) + z7)) (vp_in_iff.mpr ⟨by omega, by omega⟩) dX7_hopesBehind_56 ?_
        refine lv_ior hx hb dX7_hopesBehind_57 ?_
        refine lv_istore_n (lv' := [(3, .int (k_s ||| (f_hp (((p_h + 1) * 64) + z7).toNatClampNeg))), (5, .int z7), (4, .int k_w), (0, .ref a_th), (1, .int p_h), (2, .int p_c)]) hx hb dX7_hopesBehind_58 rfl hl (by decide) rfl (fun ls hl => ?_)
        refine lv_iinc (v := (k_w + 1)) (lv' := [(4, .int (k_w + 1)), (3, .int (k_s ||| (f_hp (((p_h + 1) * 64) + z7).toNatClampNeg))), (5, .int z7), (0, .ref a_th), (1, .int p_h), (2, .int p_c)]) hx hb dX7_hopesBehind_59 hl (k := 2) rfl rfl (by decide) rfl (fun ls hl => ?_)
        have t_13 : (k_w + 1).toInt = k_w.toInt + 1 := g5_iadd (a := k_w.toInt) (b := 1) rfl (by decide) (by omega) (by omega)
        refine lv_goto (tgt := 18) hx hb dX7_hopesBehind_62 (by decide) ?_
        exact ih_18_3 ((k_w + 1), (k_s ||| (f_hp (((p_h + 1) * 64) + z7).toNatClampNeg))) ls H locs (show Int.toNat (5 - (k_w + 1).toInt) < Int.toNat (5 - k_w.toInt) from g_up (show k_w.toInt < (k_w + 1).toInt by omega) (show k_w.toInt < 5 by omega)) ⟨lv_sub hl [1, 0, 3, 4, 5] rfl, hP, hD, hS, ⟨by omega, by omega⟩⟩
      ·
        have i_9 : z7.toInt = (-1) := by have z := g5_neN (a := z7.toInt) (b := (-1)) (by rfl) (by decide) c_9; omega
        refine lv_iconst (v := 0) hx hb dX7_hopesBehind_39 (by decide) ?_
        refine lv_goto (tgt := 57) hx hb dX7_hopesBehind_40 (by decide) ?_
        refine lv_ior hx hb dX7_hopesBehind_57 ?_
        refine g5_ti (v := k_s) (by simp) ?_
        refine lv_istore_n (lv' := [(3, .int k_s), (5, .int z7), (4, .int k_w), (0, .ref a_th), (1, .int p_h), (2, .int p_c)]) hx hb dX7_hopesBehind_58 rfl hl (by decide) rfl (fun ls hl => ?_)
        refine lv_iinc (v := (k_w + 1)) (lv' := [(4, .int (k_w + 1)), (3, .int k_s), (5, .int z7), (0, .ref a_th), (1, .int p_h), (2, .int p_c)]) hx hb dX7_hopesBehind_59 hl (k := 2) rfl rfl (by decide) rfl (fun ls hl => ?_)
        have t_14 : (k_w + 1).toInt = k_w.toInt + 1 := g5_iadd (a := k_w.toInt) (b := 1) rfl (by decide) (by omega) (by omega)
        refine lv_goto (tgt := 18) hx hb dX7_hopesBehind_62 (by decide) ?_
        exact ih_18_3 ((k_w + 1), k_s) ls H locs (show Int.toNat (5 - (k_w + 1).toInt) < Int.toNat (5 - k_w.toInt) from g_up (show k_w.toInt < (k_w + 1).toInt by omega) (show k_w.toInt < 5 by omega)) ⟨lv_sub hl [1, 0, 3, 4, 5] rfl, hP, hD, hS, ⟨by omega, by omega⟩⟩
  ·
    have i_1 : p_h.toInt = 23 := by have z := g5_neN (a := p_h.toInt) (b := 23) (by rfl) (by decide) c_1; omega
    refine lv_iconst (v := 1) hx hb dX7_hopesBehind_6 (by decide) ?_
    refine lv_aload_n hx hb dX7_hopesBehind_7 rfl (lv_at hl 0 rfl) ?_
    refine va_get (D := G.1) (ci := 7) (v := .int e_fu) (C := RX7) (T := TX7) (N := 10) hx hb hts inG_X7 hown hK hP 0 rfl rfl 4 (by decide) (hts _ fl_X7_89) (fun _ h9 => h9) rfl dX7_hopesBehind_8 ?_
    refine lv_ishl hx hb dX7_hopesBehind_11 ?_
    exact W.iret (v := (1 <<< (e_fu &&& 31))) hx hb hr (fun t ht hW => ⟨⟨(1 <<< (e_fu &&& 31)), [(a_th, (oc7 a_h a_k a_ba a_ad e_fu a_cn a_nx a_hp a_hl a_lv)), (a_hp, (arI G 1536 f_hp))], rfl, ⟨(1 <<< (e_fu &&& 31)), rfl, rfl⟩, by rw [ht]; exact hP.sub [0, 1] rfl, hD.sub [0, 1] (by decide) rfl⟩, hS.F ht⟩) hS.2.2 dX7_hopesBehind_12
theorem dgX7_anyFits_0 : ∀ r ∈ ([(0, (.bipush 23, 2)), (2, (.istore_n 1, 1)), (3, (.iload_n 1, 1)), (4, (.ifCond .lt 72, 3)), (7, (.iconst 0, 1)), (8, (.istore_n 2, 1)), (9, (.iload_n 2, 1)), (10, (.bipush 64, 2)), (12, (.if_icmp .ge 58, 3)), (15, (.iload_n 1, 1)), (16, (.bipush 64, 2)), (18, (.imul, 1)), (19, (.iload_n 2, 1)), (20, (.iadd, 1)), (21, (.istore_n 3, 1)), (22, (.aload_n 0, 1)), (23, (.getfield 9, 3)), (26, (.iload_n 1, 1)), (27, (.laload, 1)), (28, (.iload_n 2, 1)), (29, (.invokestatic 98, 3)), (32, (.ifCond .eq 7, 3)), (35, (.iconst 0, 1)), (36, (.goto 9, 3)), (39, (.aload_n 0, 1)), (40, (.iload_n 1, 1)), (41, (.iload_n 2, 1)), (42, (.invokevirtual 108, 3)), (45, (.istore 4, 2)), (47, (.aload_n 0, 1)), (48, (.getfield 25, 3)), (51, (.iload_n 3, 1)), (52, (.iload 4, 2)), (54, (.aload_n 0, 1)), (55, (.getfield 15, 3)), (58, (.iload_n 3, 1)), (59, (.iaload, 1)), (60, (.invokestatic 111, 3)), (63, (.iastore, 1)), (64, (.iinc 2 1, 3))] : List (Nat × (Instr × Nat))), decode cX7_anyFits r.1 = .ok r.2 := by decide +kernel
theorem dX7_anyFits_0 : decode cX7_anyFits 0 = .ok (.bipush 23, 2) := dgX7_anyFits_0 (0, (.bipush 23, 2)) (List.mem_of_getElem? (i := 0) rfl)
theorem dX7_anyFits_2 : decode cX7_anyFits 2 = .ok (.istore_n 1, 1) := dgX7_anyFits_0 (2, (.istore_n 1, 1)) (List.mem_of_getElem? (i := 1) rfl)
theorem dX7_anyFits_3 : decode cX7_anyFits 3 = .ok (.iload_n 1, 1) := dgX7_anyFits_0 (3, (.iload_n 1, 1)) (List.mem_of_getElem? (i := 2) rfl)
theorem dX7_anyFits_4 : decode cX7_anyFits 4 = .ok (.ifCond .lt 72, 3) := dgX7_anyFits_0 (4, (.ifCond .lt 72, 3)) (List.mem_of_getElem? (i := 3) rfl)
theorem dX7_anyFits_7 : decode cX7_anyFits 7 = .ok (.iconst 0, 1) := dgX7_anyFits_0 (7, (.iconst 0, 1)) (List.mem_of_getElem? (i := 4) rfl)
theorem dX7_anyFits_8 : decode cX7_anyFits 8 = .ok (.istore_n 2, 1) := dgX7_anyFits_0 (8, (.istore_n 2, 1)) (List.mem_of_getElem? (i := 5) rfl)
theorem dX7_anyFits_9 : decode cX7_anyFits 9 = .ok (.iload_n 2, 1) := dgX7_anyFits_0 (9, (.iload_n 2, 1)) (List.mem_of_getElem? (i := 6) rfl)
theorem dX7_anyFits_10 : decode cX7_anyFits 10 = .ok (.bipush 64, 2) := dgX7_anyFits_0 (10, (.bipush 64, 2)) (List.mem_of_getElem? (i := 7) rfl)
theorem dX7_anyFits_12 : decode cX7_anyFits 12 = .ok (.if_icmp .ge 58, 3) := dgX7_anyFits_0 (12, (.if_icmp .ge 58, 3)) (List.mem_of_getElem? (i := 8) rfl)
theorem dX7_anyFits_15 : decode cX7_anyFits 15 = .ok (.iload_n 1, 1) := dgX7_anyFits_0 (15, (.iload_n 1, 1)) (List.mem_of_getElem? (i := 9) rfl)
theorem dX7_anyFits_16 : decode cX7_anyFits 16 = .ok (.bipush 64, 2) := dgX7_anyFits_0 (16, (.bipush 64, 2)) (List.mem_of_getElem? (i := 10) rfl)
theorem dX7_anyFits_18 : decode cX7_anyFits 18 = .ok (.imul, 1) := dgX7_anyFits_0 (18, (.imul, 1)) (List.mem_of_getElem? (i := 11) rfl)
theorem dX7_anyFits_19 : decode cX7_anyFits 19 = .ok (.iload_n 2, 1) := dgX7_anyFits_0 (19, (.iload_n 2, 1)) (List.mem_of_getElem? (i := 12) rfl)
theorem dX7_anyFits_20 : decode cX7_anyFits 20 = .ok (.iadd, 1) := dgX7_anyFits_0 (20, (.iadd, 1)) (List.mem_of_getElem? (i := 13) rfl)
theorem dX7_anyFits_21 : decode cX7_anyFits 21 = .ok (.istore_n 3, 1) := dgX7_anyFits_0 (21, (.istore_n 3, 1)) (List.mem_of_getElem? (i := 14) rfl)
theorem dX7_anyFits_22 : decode cX7_anyFits 22 = .ok (.aload_n 0, 1) := dgX7_anyFits_0 (22, (.aload_n 0, 1)) (List.mem_of_getElem? (i := 15) rfl)
theorem dX7_anyFits_23 : decode cX7_anyFits 23 = .ok (.getfield 9, 3) := dgX7_anyFits_0 (23, (.getfield 9, 3)) (List.mem_of_getElem? (i := 16) rfl)
theorem dX7_anyFits_26 : decode cX7_anyFits 26 = .ok (.iload_n 1, 1) := dgX7_anyFits_0 (26, (.iload_n 1, 1)) (List.mem_of_getElem? (i := 17) rfl)
theorem dX7_anyFits_27 : decode cX7_anyFits 27 = .ok (.laload, 1) := dgX7_anyFits_0 (27, (.laload, 1)) (List.mem_of_getElem? (i := 18) rfl)
theorem dX7_anyFits_28 : decode cX7_anyFits 28 = .ok (.iload_n 2, 1) := dgX7_anyFits_0 (28, (.iload_n 2, 1)) (List.mem_of_getElem? (i := 19) rfl)
theorem dX7_anyFits_29 : decode cX7_anyFits 29 = .ok (.invokestatic 98, 3) := dgX7_anyFits_0 (29, (.invokestatic 98, 3)) (List.mem_of_getElem? (i := 20) rfl)
theorem dX7_anyFits_32 : decode cX7_anyFits 32 = .ok (.ifCond .eq 7, 3) := dgX7_anyFits_0 (32, (.ifCond .eq 7, 3)) (List.mem_of_getElem? (i := 21) rfl)
theorem dX7_anyFits_35 : decode cX7_anyFits 35 = .ok (.iconst 0, 1) := dgX7_anyFits_0 (35, (.iconst 0, 1)) (List.mem_of_getElem? (i := 22) rfl)
theorem dX7_anyFits_36 : decode cX7_anyFits 36 = .ok (.goto 9, 3) := dgX7_anyFits_0 (36, (.goto 9, 3)) (List.mem_of_getElem? (i := 23) rfl)
theorem dX7_anyFits_39 : decode cX7_anyFits 39 = .ok (.aload_n 0, 1) := dgX7_anyFits_0 (39, (.aload_n 0, 1)) (List.mem_of_getElem? (i := 24) rfl)
theorem dX7_anyFits_40 : decode cX7_anyFits 40 = .ok (.iload_n 1, 1) := dgX7_anyFits_0 (40, (.iload_n 1, 1)) (List.mem_of_getElem? (i := 25) rfl)
theorem dX7_anyFits_41 : decode cX7_anyFits 41 = .ok (.iload_n 2, 1) := dgX7_anyFits_0 (41, (.iload_n 2, 1)) (List.mem_of_getElem? (i := 26) rfl)
theorem dX7_anyFits_42 : decode cX7_anyFits 42 = .ok (.invokevirtual 108, 3) := dgX7_anyFits_0 (42, (.invokevirtual 108, 3)) (List.mem_of_getElem? (i := 27) rfl)
theorem dX7_anyFits_45 : decode cX7_anyFits 45 = .ok (.istore 4, 2) := dgX7_anyFits_0 (45, (.istore 4, 2)) (List.mem_of_getElem? (i := 28) rfl)
theorem dX7_anyFits_47 : decode cX7_anyFits 47 = .ok (.aload_n 0, 1) := dgX7_anyFits_0 (47, (.aload_n 0, 1)) (List.mem_of_getElem? (i := 29) rfl)
theorem dX7_anyFits_48 : decode cX7_anyFits 48 = .ok (.getfield 25, 3) := dgX7_anyFits_0 (48, (.getfield 25, 3)) (List.mem_of_getElem? (i := 30) rfl)
theorem dX7_anyFits_51 : decode cX7_anyFits 51 = .ok (.iload_n 3, 1) := dgX7_anyFits_0 (51, (.iload_n 3, 1)) (List.mem_of_getElem? (i := 31) rfl)
theorem dX7_anyFits_52 : decode cX7_anyFits 52 = .ok (.iload 4, 2) := dgX7_anyFits_0 (52, (.iload 4, 2)) (List.mem_of_getElem? (i := 32) rfl)
theorem dX7_anyFits_54 : decode cX7_anyFits 54 = .ok (.aload_n 0, 1) := dgX7_anyFits_0 (54, (.aload_n 0, 1)) (List.mem_of_getElem? (i := 33) rfl)
theorem dX7_anyFits_55 : decode cX7_anyFits 55 = .ok (.getfield 15, 3) := dgX7_anyFits_0 (55, (.getfield 15, 3)) (List.mem_of_getElem? (i := 34) rfl)
theorem dX7_anyFits_58 : decode cX7_anyFits 58 = .ok (.iload_n 3, 1) := dgX7_anyFits_0 (58, (.iload_n 3, 1)) (List.mem_of_getElem? (i := 35) rfl)
theorem dX7_anyFits_59 : decode cX7_anyFits 59 = .ok (.iaload, 1) := dgX7_anyFits_0 (59, (.iaload, 1)) (List.mem_of_getElem? (i := 36) rfl)
theorem dX7_anyFits_60 : decode cX7_anyFits 60 = .ok (.invokestatic 111, 3) := dgX7_anyFits_0 (60, (.invokestatic 111, 3)) (List.mem_of_getElem? (i := 37) rfl)
theorem dX7_anyFits_63 : decode cX7_anyFits 63 = .ok (.iastore, 1) := dgX7_anyFits_0 (63, (.iastore, 1)) (List.mem_of_getElem? (i := 38) rfl)
theorem dX7_anyFits_64 : decode cX7_anyFits 64 = .ok (.iinc 2 1, 3) := dgX7_anyFits_0 (64, (.iinc 2 1, 3)) (List.mem_of_getElem? (i := 39) rfl)
theorem dgX7_anyFits_1 : ∀ r ∈ ([(67, (.goto (-58), 3)), (70, (.iinc 1 (-1), 3)), (73, (.goto (-70), 3)), (76, (.iconst 0, 1)), (77, (.istore_n 1, 1)), (78, (.iload_n 1, 1)), (79, (.bipush 64, 2)), (81, (.if_icmp .ge 22, 3)), (84, (.aload_n 0, 1)), (85, (.getfield 25, 3)), (88, (.iload_n 1, 1)), (89, (.iaload, 1)), (90, (.iconst 1, 1)), (91, (.iand, 1)), (92, (.ifCond .eq 5, 3)), (95, (.iconst 1, 1)), (96, (.ireturn, 1)), (97, (.iinc 1 1, 3)), (100, (.goto (-22), 3)), (103, (.iconst 0, 1)), (104, (.ireturn, 1))] : List (Nat × (Instr × Nat))), decode cX7_anyFits r.1 = .ok r.2 := by decide +kernel
theorem dX7_anyFits_67 : decode cX7_anyFits 67 = .ok (.goto (-58), 3) := dgX7_anyFits_1 (67, (.goto (-58), 3)) (List.mem_of_getElem? (i := 0) rfl)
theorem dX7_anyFits_70 : decode cX7_anyFits 70 = .ok (.iinc 1 (-1), 3) := dgX7_anyFits_1 (70, (.iinc 1 (-1), 3)) (List.mem_of_getElem? (i := 1) rfl)
theorem dX7_anyFits_73 : decode cX7_anyFits 73 = .ok (.goto (-70), 3) := dgX7_anyFits_1 (73, (.goto (-70), 3)) (List.mem_of_getElem? (i := 2) rfl)
theorem dX7_anyFits_76 : decode cX7_anyFits 76 = .ok (.iconst 0, 1) := dgX7_anyFits_1 (76, (.iconst 0, 1)) (List.mem_of_getElem? (i := 3) rfl)
theorem dX7_anyFits_77 : decode cX7_anyFits 77 = .ok (.istore_n 1, 1) := dgX7_anyFits_1 (77, (.istore_n 1, 1)) (List.mem_of_getElem? (i := 4) rfl)
theorem dX7_anyFits_78 : decode cX7_anyFits 78 = .ok (.iload_n 1, 1) := dgX7_anyFits_1 (78, (.iload_n 1, 1)) (List.mem_of_getElem? (i := 5) rfl)
theorem dX7_anyFits_79 : decode cX7_anyFits 79 = .ok (.bipush 64, 2) := dgX7_anyFits_1 (79, (.bipush 64, 2)) (List.mem_of_getElem? (i := 6) rfl)
theorem dX7_anyFits_81 : decode cX7_anyFits 81 = .ok (.if_icmp .ge 22, 3) := dgX7_anyFits_1 (81, (.if_icmp .ge 22, 3)) (List.mem_of_getElem? (i := 7) rfl)
theorem dX7_anyFits_84 : decode cX7_anyFits 84 = .ok (.aload_n 0, 1) := dgX7_anyFits_1 (84, (.aload_n 0, 1)) (List.mem_of_getElem? (i := 8) rfl)
theorem dX7_anyFits_85 : decode cX7_anyFits 85 = .ok (.getfield 25, 3) := dgX7_anyFits_1 (85, (.getfield 25, 3)) (List.mem_of_getElem? (i := 9) rfl)
theorem dX7_anyFits_88 : decode cX7_anyFits 88 = .ok (.iload_n 1, 1) := dgX7_anyFits_1 (88, (.iload_n 1, 1)) (List.mem_of_getElem? (i := 10) rfl)
theorem dX7_anyFits_89 : decode cX7_anyFits 89 = .ok (.iaload, 1) := dgX7_anyFits_1 (89, (.iaload, 1)) (List.mem_of_getElem? (i := 11) rfl)
theorem dX7_anyFits_90 : decode cX7_anyFits 90 = .ok (.iconst 1, 1) := dgX7_anyFits_1 (90, (.iconst 1, 1)) (List.mem_of_getElem? (i := 12) rfl)
theorem dX7_anyFits_91 : decode cX7_anyFits 91 = .ok (.iand, 1) := dgX7_anyFits_1 (91, (.iand, 1)) (List.mem_of_getElem? (i := 13) rfl)
theorem dX7_anyFits_92 : decode cX7_anyFits 92 = .ok (.ifCond .eq 5, 3) := dgX7_anyFits_1 (92, (.ifCond .eq 5, 3)) (List.mem_of_getElem? (i := 14) rfl)
theorem dX7_anyFits_95 : decode cX7_anyFits 95 = .ok (.iconst 1, 1) := dgX7_anyFits_1 (95, (.iconst 1, 1)) (List.mem_of_getElem? (i := 15) rfl)
theorem dX7_anyFits_96 : decode cX7_anyFits 96 = .ok (.ireturn, 1) := dgX7_anyFits_1 (96, (.ireturn, 1)) (List.mem_of_getElem? (i := 16) rfl)
theorem dX7_anyFits_97 : decode cX7_anyFits 97 = .ok (.iinc 1 1, 3) := dgX7_anyFits_1 (97, (.iinc 1 1, 3)) (List.mem_of_getElem? (i := 17) rfl)
theorem dX7_anyFits_100 : decode cX7_anyFits 100 = .ok (.goto (-22), 3) := dgX7_anyFits_1 (100, (.goto (-22), 3)) (List.mem_of_getElem? (i := 18) rfl)
theorem dX7_anyFits_103 : decode cX7_anyFits 103 = .ok (.iconst 0, 1) := dgX7_anyFits_1 (103, (.iconst 0, 1)) (List.mem_of_getElem? (i := 19) rfl)
theorem dX7_anyFits_104 : decode cX7_anyFits 104 = .ok (.ireturn, 1) := dgX7_anyFits_1 (104, (.ireturn, 1)) (List.mem_of_getElem? (i := 20) rfl)
theorem ml_X7_108 : Cond.methodLink RX7 108 yX7_hopesBehind ∈ tblG := tg 1000 (by decide +kernel) (by decide +kernel)
theorem im_X7_hopesBehind : Cond.instanceMethod yX7_hopesBehind ∈ tblG := tg 1002 (by decide +kernel) (by decide +kernel)
theorem se_X7_hopesBehind : Cond.selects RX7 yX7_hopesBehind yX7_hopesBehind ∈ tblG := tg 23 (by decide +kernel) (by decide +kernel)
theorem ini_X7 : Cond.initialized RX7 ∈ tblG := tg 94 (by decide +kernel) (by decide +kernel)
theorem cd_X7_hopesBehind : Cond.code yX7_hopesBehind cX7_hopesBehind 6 (some .int) ∈ tblG := tg 1003 (by decide +kernel) (by decide +kernel)
theorem gW_X7_hopesBehind : GoodIn tblG (wsG yX7_hopesBehind cX7_hopesBehind 6 (some .int)) := tgi cd_X7_hopesBehind
theorem gV_X7_108 : GoodIn tblG (wsV RX7 108 RX7 yX7_hopesBehind (wsG yX7_hopesBehind cX7_hopesBehind 6 (some .int))) := tgV ml_X7_108 im_X7_hopesBehind se_X7_hopesBehind ini_X7 gW_X7_hopesBehind
theorem hv_X7_hopesBehind : yX7_hopesBehind.cls = RX7 ∧ yX7_hopesBehind.cls ≠ "java/lang/invoke/MethodHandle" ∧ yX7_hopesBehind.cls ≠ "java/lang/invoke/VarHandle" ∧ (parseMethodDescriptor yX7_hopesBehind.desc).map (fun d => d.parameters.length) = some 2 := by decide +kernel
theorem ml_X7_111 : Cond.methodLink RX7 111 yX7_masksBefore ∈ tblG := tg 1004 (by decide +kernel) (by decide +kernel)
theorem st_X7_masksBefore : Cond.static yX7_masksBefore ∈ tblG := tg 1005 (by decide +kernel) (by decide +kernel)
theorem cd_X7_masksBefore : Cond.code yX7_masksBefore cX7_masksBefore 4 (some .int) ∈ tblG := tg 1006 (by decide +kernel) (by decide +kernel)
theorem gW_X7_masksBefore : GoodIn tblG (wsG yX7_masksBefore cX7_masksBefore 4 (some .int)) := tgi cd_X7_masksBefore
theorem gS_X7_111 : GoodIn tblG (va_wsS RX7 111 yX7_masksBefore (wsG yX7_masksBefore cX7_masksBefore 4 (some .int))) := tgS ml_X7_111 st_X7_masksBefore ini_X7 gW_X7_masksBefore
theorem hs_X7_masksBefore : yX7_masksBefore.cls ≠ "java/lang/invoke/MethodHandle" ∧ yX7_masksBefore.cls ≠ "java/lang/invoke/VarHandle" ∧ (parseMethodDescriptor yX7_masksBefore.desc).map (fun d => d.parameters.length) = some 2 := by decide +kernel
set_option maxHeartbeats 4000000 in
set_option maxRecDepth 100000 in
theorem th_anyFits (l : Launch) (G : g5_G) (a_th a_ba a_ad a_hp a_h a_k a_cn a_nx a_hl a_lv : Nat) (sz : Nat) (e_fu : Int32) (f_ba : Nat → Int64) (f_ad : Nat → Int32) (f_hp : Nat → Int32) : Met l yX7_anyFits (wsG yX7_anyFits cX7_anyFits 5 (some .boolean)) ({ frames := 2, cells := 0, slots := 0, locals := 46 }) (va_Pc [.ref a_th] (g5_P G [(a_th, (oc7 a_h a_k a_ba a_ad e_fu a_cn a_nx a_hp a_hl a_lv)), (a_ba, (arJ G 24 f_ba)), (a_ad, (arI G 1536 f_ad)), (a_hp, (arI G 1536 f_hp))] sz)) (va_Qi (fun (r : Int32) (u : va_W) => (∃ (o_r : Int32) (o_f : Nat → Int32), (0 ≤ o_r.toInt ∧ o_r.toInt ≤ 1) ∧ (r = o_r) ∧ (u = [(a_th, (oc7 a_h a_k a_ba a_ad e_fu a_cn a_nx a_hp a_hl a_lv)), (a_ba, (arJ G 24 f_ba)), (a_ad, (arI G 1536 f_ad)), (a_hp, (arI G 1536 o_f))]))) (g5_B G (va_A [(a_th, (oc7 a_h a_k a_ba a_ad e_fu a_cn a_nx a_hp a_hl a_lv)), (a_ba, (arJ G 24 f_ba)), (a_ad, (arI G 1536 f_ad)), (a_hp, (arI G 1536 f_hp))] sz)) (va_A [(a_th, (oc7 a_h a_k a_ba a_ad e_fu a_cn a_nx a_hp a_hl a_lv)), (a_ba, (arJ G 24 f_ba)), (a_ad, (arI G 1536 f_ad)), (a_hp, (arI G 1536 f_hp))] sz)) 0 0 (va_A [(a_th, (oc7 a_h a_k a_ba a_ad e_fu a_cn a_nx a_hp a_hl a_lv)), (a_ba, (arJ G 24 f_ba)), (a_ad, (arI G 1536 f_ad)), (a_hp, (arI G 1536 f_hp))] sz) := by
  refine Met.ofW (cc := cX7_anyFits) (maxL := 5) (ret := (some .boolean)) (by decide) rfl ?_
  intro p e s m args below meth c s₁ B hml hv
  obtain ⟨rfl, hsz, hP, hK, hD0, hN, hT⟩ := hv
  have hx := B.exec
  have hb := B.bytes
  have hr := B.returns
  have hts : ∀ w ∈ tblG, w.before _ s = true := fun w h => atoms_spec (ws := (wsG yX7_anyFits cX7_anyFits 5 (some .boolean))) B.pre w (List.mem_cons_of_mem _ h)
  have hown : s.vm.findClass RX7 = some m.cls := findClass_of_methodNamed B.named
  have hlocks := B.notSynchronized
  subst hsz
  have hD := hD0.self (sz := s.heap.size)
  generalize hAe : va_A [(a_th, (oc7 a_h a_k a_ba a_ad e_fu a_cn a_nx a_hp a_hl a_lv)), (a_ba, (arJ G 24 f_ba)), (a_ad, (arI G 1536 f_ad)), (a_hp, (arI G 1536 f_hp))] s.heap.size = A at hD hT ⊢
  have hA : ∀ q : Nat, s.heap.size ≤ q → A q := fun q h => by rw [← hAe]; exact Or.inr h
  have hS : va_S A s.heap s.heap [] := va_S.rf
  have hP : va_P G.1 vwCl [(a_th, (oc7 a_h a_k a_ba a_ad e_fu a_cn a_nx a_hp a_hl a_lv)), (a_ba, (arJ G 24 f_ba)), (a_ad, (arI G 1536 f_ad)), (a_hp, (arI G 1536 f_hp))] s.heap := hP
  have hl := lv_entry ([.ref a_th]) (n := 5) (Nat.le_of_ble_eq_true rfl)
  rw [lg_entry_eq]
  generalize (lg_sl ([.ref a_th]) ++ List.replicate (5 - (lg_sl ([.ref a_th])).length) Slot.unset).toArray = ls at hl ⊢
  have hl : lv_has ls 5 [(0, .ref a_th)] := hl
  refine lv_bipush (v := 23) hx hb dX7_anyFits_0 (by decide) ?_
  refine lv_istore_n (lv' := [(1, .int 23), (0, .ref a_th)]) hx hb dX7_anyFits_2 rfl hl (by decide) rfl (fun ls hl => ?_)
  refine g5_loop (α := (Int32) × (Nat → Int32)) (fun (q : (Int32) × (Nat → Int32)) (ls : Array Slot) (H : Heap) (locs : List Loc) => match q with | (k_h, k_f) => lv_has ls 5 [(1, .int k_h), (0, .ref a_th)] ∧ va_P G.1 vwCl [(a_th, (oc7 a_h a_k a_ba a_ad e_fu a_cn a_nx a_hp a_hl a_lv)), (a_ba, (arJ G 24 f_ba)), (a_ad, (arI G 1536 f_ad)), (a_hp, (arI G 1536 k_f))] H ∧ va_D A [(a_th, (oc7 a_h a_k a_ba a_ad e_fu a_cn a_nx a_hp a_hl a_lv)), (a_ba, (arJ G 24 f_ba)), (a_ad, (arI G 1536 f_ad)), (a_hp, (arI G 1536 k_f))] ∧ va_S A s.heap H locs ∧ ((-1) ≤ k_h.toInt ∧ k_h.toInt ≤ 23)) (fun (q : (Int32) × (Nat → Int32)) => match q with | (k_h, k_f) => Int.toNat (k_h.toInt + 1)) (23, f_hp) ⟨lv_sub hl [0, 1] rfl, hP, hD, hS, ⟨by decide, by decide⟩⟩ ?_
  rintro ⟨k_h, k_f⟩ ls H locs ⟨hl, hP, hD, hS, i_1⟩ ih_3_2
  have hl : lv_has ls 5 [(1, .int k_h), (0, .ref a_th)] := hl
  have i_1 : (-1) ≤ k_h.toInt ∧ k_h.toInt ≤ 23 := i_1
  refine g5_rs [(a_th, (oc7 a_h a_k a_ba a_ad e_fu a_cn a_nx a_hp a_hl a_lv)), (a_ba, (arJ G 24 f_ba)), (a_ad, (arI G 1536 f_ad)), (a_hp, (arI G 1536 k_f))] hP hD (fun hP hD => ?_)
  refine lv_iload_n hx hb dX7_anyFits_3 rfl (lv_at hl 0 rfl) ?_
  refine lv_if_lt (tgt := 76) hx hb dX7_anyFits_4 (by decide) (fun c_3 => ?_) (fun c_3 => ?_)
  ·
    have i_3 : k_h.toInt < 0 := by have z := g5_lt (a := k_h.toInt) (b := 0) (by rfl) (by decide) c_3; omega
    refine lv_iconst (v := 0) hx hb dX7_anyFits_76 (by decide) ?_
    refine lv_istore_n (lv' := [(1, .int 0), (0, .ref a_th)]) hx hb dX7_anyFits_77 rfl hl (by decide) rfl (fun ls hl => ?_)
    refine g5_loop (α := (Int32)) (fun (n_i : (Int32)) (ls : Array Slot) (H : Heap) (locs : List Loc) => lv_has ls 5 [(1, .int n_i), (0, .ref a_th)] ∧ va_P G.1 vwCl [(a_th, (oc7 a_h a_k a_ba a_ad e_fu a_cn a_nx a_hp a_hl a_lv)), (a_ba, (arJ G 24 f_ba)), (a_ad, (arI G 1536 f_ad)), (a_hp, (arI G 1536 k_f))] H ∧ va_D A [(a_th, (oc7 a_h a_k a_ba a_ad e_fu a_cn a_nx a_hp a_hl a_lv)), (a_ba, (arJ G 24 f_ba)), (a_ad, (arI G 1536 f_ad)), (a_hp, (arI G 1536 k_f))] ∧ va_S A s.heap H locs ∧ (0 ≤ n_i.toInt ∧ n_i.toInt ≤ 64)) (fun (n_i : (Int32)) => Int.toNat (64 - n_i.toInt)) 0 ⟨lv_sub hl [0, 1] rfl, hP, hD, hS, ⟨by decide, by decide⟩⟩ ?_
    rintro n_i ls H locs ⟨hl, hP, hD, hS, i_4⟩ ih_78_5
    have hl : lv_has ls 5 [(1, .int n_i), (0, .ref a_th)] := hl
    have i_4 : 0 ≤ n_i.toInt ∧ n_i.toInt ≤ 64 := i_4
    refine g5_rs [(a_th, (oc7 a_h a_k a_ba a_ad e_fu a_cn a_nx a_hp a_hl a_lv)), (a_ba, (arJ G 24 f_ba)), (a_ad, (arI G 1536 f_ad)), (a_hp, (arI G 1536 k_f))] hP hD (fun hP hD => ?_)
    refine lv_iload_n hx hb dX7_anyFits_78 rfl (lv_at hl 0 rfl) ?_
    refine lv_bipush (v := 64) hx hb dX7_anyFits_79 (by decide) ?_
    refine lv_icmp_ge (tgt := 103) hx hb dX7_anyFits_81 (by decide) (fun c_6 => ?_) (fun c_6 => ?_)
    ·
      have i_6 : n_i.toInt ≥ 64 := by have z := g5_ge (a := n_i.toInt) (b := 64) (by rfl) (by decide) c_6; omega
      refine lv_iconst (v := 0) hx hb dX7_anyFits_103 (by decide) ?_
      exact W.zret (v := 0) hx hb hr rfl (fun t ht hW => ⟨⟨0, [(a_th, (oc7 a_h a_k a_ba a_ad e_fu a_cn a_nx a_hp a_hl a_lv)), (a_ba, (arJ G 24 f_ba)), (a_ad, (arI G 1536 f_ad)), (a_hp, (arI G 1536 k_f))], rfl, ⟨0, k_f, ⟨by have zc_o_r : (0 : Int32).toInt = 0 := (by decide); omega, by have zc_o_r : (0 : Int32).toInt = 0 := (by decide); omega⟩, rfl, rfl⟩, by rw [ht]; exact hP.sub [0, 1, 2, 3] rfl, hD.sub [0, 1, 2, 3] (by decide) rfl⟩, hS.F ht⟩) hS.2.2 dX7_anyFits_104
    ·
      have i_6 : n_i.toInt < 64 := by have z := g5_geN (a := n_i.toInt) (b := 64) (by rfl) (by decide) c_6; omega
      refine lv_aload_n hx hb dX7_anyFits_84 rfl (lv_at hl 1 rfl) ?_
      refine va_get (D := G.1) (ci := 7) (v := .ref a_hp) (C := RX7) (T := TX7) (N := 10) hx hb hts inG_X7 hown hK hP 0 rfl rfl 7 (by decide) (hts _ fl_X7_25) (fun _ h9 => h9) rfl dX7_anyFits_85 ?_
      refine lv_iload_n hx hb dX7_anyFits_88 rfl (lv_at hl 0 rfl) ?_
      refine va_iald hx hb hK hP 3 0 rfl rfl (i := n_i) (vp_in_iff.mpr ⟨by omega, by omega⟩) dX7_anyFits_89 ?_
      refine lv_iconst (v := 1) hx hb dX7_anyFits_90 (by decide) ?_
      refine lv_iand hx hb dX7_anyFits_91 ?_
      refine lv_if_eq (tgt := 97) hx hb dX7_anyFits_92 (by decide) (fun c_7 => ?_) (fun c_7 => ?_)
      ·
        have i_7 : ((k_f n_i.toNatClampNeg) &&& 1).toInt = 0 := by have z := g5_eq (a := ((k_f n_i.toNatClampNeg) &&& 1).toInt) (b := 0) (by rfl) (by decide) c_7; omega
        refine lv_iinc (v := (n_i + 1)) (lv' := [(1, .int (n_i + 1)), (0, .ref a_th)]) hx hb dX7_anyFits_97 hl (k := 0) rfl rfl (by decide) rfl (fun ls hl => ?_)
        have t_8 : (n_i + 1).toInt = n_i.toInt + 1 := g5_iadd (a := n_i.toInt) (b := 1) rfl (by decide) (by omega) (by omega)
        refine lv_goto (tgt := 78) hx hb dX7_anyFits_100 (by decide) ?_
        exact ih_78_5 (n_i + 1) ls H locs (show Int.toNat (64 - (n_i + 1).toInt) < Int.toNat (64 - n_i.toInt) from g_up (show n_i.toInt < (n_i + 1).toInt by omega) (show n_i.toInt < 64 by omega)) ⟨lv_sub hl [0, 1] rfl, hP, hD, hS, ⟨by omega, by omega⟩⟩
      ·
        have n_7 : gNe (((k_f n_i.toNatClampNeg) &&& 1).toInt) (0) := by have z := g5_eqN (a := ((k_f n_i.toNatClampNeg) &&& 1).toInt) (b := 0) (by rfl) (by decide) c_7; unfold gNe; omega
        refine lv_iconst (v := 1) hx hb dX7_anyFits_95 (by decide) ?_
        exact W.zret (v := 1) hx hb hr rfl (fun t ht hW => ⟨⟨1, [(a_th, (oc7 a_h a_k a_ba a_ad e_fu a_cn a_nx a_hp a_hl a_lv)), (a_ba, (arJ G 24 f_ba)), (a_ad, (arI G 1536 f_ad)), (a_hp, (arI G 1536 k_f))], rfl, ⟨1, k_f, ⟨by have zc_o_r : (1 : Int32).toInt = 1 := (by decide); omega, by have zc_o_r : (1 : Int32).toInt = 1 := (by decide); omega⟩, rfl, rfl⟩, by rw [ht]; exact hP.sub [0, 1, 2, 3] rfl, hD.sub [0, 1, 2, 3] (by decide) rfl⟩, hS.F ht⟩) hS.2.2 dX7_anyFits_96
  ·
    have i_3 : k_h.toInt ≥ 0 := by have z := g5_ltN (a := k_h.toInt) (b := 0) (by rfl) (by decide) c_3; omega
    refine lv_iconst (v := 0) hx hb dX7_anyFits_7 (by decide) ?_
    refine lv_istore_n (lv' := [(2, .int 0), (1, .int k_h), (0, .ref a_th)]) hx hb dX7_anyFits_8 rfl hl (by decide) rfl (fun ls hl => ?_)
    refine g5_loop (α := (Int32) × (Nat → Int32)) (fun (q : (Int32) × (Nat → Int32)) (ls : Array Slot) (H : Heap) (locs : List Loc) => match q with | (m_c, m_f) => lv_has ls 5 [(2, .int m_c), (1, .int k_h), (0, .ref a_th)] ∧ va_P G.1 vwCl [(a_th, (oc7 a_h a_k a_ba a_ad e_fu a_cn a_nx a_hp a_hl a_lv)), (a_ba, (arJ G 24 f_ba)), (a_ad, (arI G 1536 f_ad)), (a_hp, (arI G 1536 m_f))] H ∧ va_D A [(a_th, (oc7 a_h a_k a_ba a_ad e_fu a_cn a_nx a_hp a_hl a_lv)), (a_ba, (arJ G 24 f_ba)), (a_ad, (arI G 1536 f_ad)), (a_hp, (arI G 1536 m_f))] ∧ va_S A s.heap H locs ∧ (0 ≤ m_c.toInt ∧ m_c.toInt ≤ 64)) (fun (q : (Int32) × (Nat → Int32)) => match q with | (m_c, m_f) => Int.toNat (64 - m_c.toInt)) (0, k_f) ⟨lv_sub hl [0, 1, 2] rfl, hP, hD, hS, ⟨by decide, by decide⟩⟩ ?_
    rintro ⟨m_c, m_f⟩ ls H locs ⟨hl, hP, hD, hS, i_9⟩ ih_9_10
    have hl : lv_has ls 5 [(2, .int m_c), (1, .int k_h), (0, .ref a_th)] := hl
    have i_9 : 0 ≤ m_c.toInt ∧ m_c.toInt ≤ 64 := i_9
    refine g5_rs [(a_th, (oc7 a_h a_k a_ba a_ad e_fu a_cn a_nx a_hp a_hl a_lv)), (a_ba, (arJ G 24 f_ba)), (a_ad, (arI G 1536 f_ad)), (a_hp, (arI G 1536 m_f))] hP hD (fun hP hD => ?_)
    refine lv_iload_n hx hb dX7_anyFits_9 rfl (lv_at hl 0 rfl) ?_
    refine lv_bipush (v := 64) hx hb dX7_anyFits_10 (by decide) ?_
    refine lv_icmp_ge (tgt := 70) hx hb dX7_anyFits_12 (by decide) (fun c_11 => ?_) (fun c_11 => ?_)
    ·
      have i_11 : m_c.toInt ≥ 64 := by have z := g5_ge (a := m_c.toInt) (b := 64) (by rfl) (by decide) c_11; omega
      obtain ⟨y12, hy_12, t_12⟩ := g_incN k_h (-1) (by decide) (by omega) (by omega)
      have t_12 : y12.toInt = k_h.toInt + (-1) := t_12
      refine lv_iinc (v := y12) (lv' := [(1, .int y12), (2, .int m_c), (0, .ref a_th)]) hx hb dX7_anyFits_70 hl (k := 1) rfl hy_12 (by decide) rfl (fun ls hl => ?_)
      refine lv_goto (tgt := 3) hx hb dX7_anyFits_73 (by decide) ?_
      exact ih_3_2 (y12, m_f) ls H locs (show Int.toNat (y12.toInt + 1) < Int.toNat (k_h.toInt + 1) from g_dn (show y12.toInt < k_h.toInt by omega) (show 0 ≤ k_h.toInt by omega)) ⟨lv_sub hl [0, 2] rfl, hP, hD, hS, ⟨by omega, by omega⟩⟩
    ·
      have i_11 : m_c.toInt < 64 := by have z := g5_geN (a := m_c.toInt) (b := 64) (by rfl) (by decide) c_11; omega
      refine lv_iload_n hx hb dX7_anyFits_15 rfl (lv_at hl 1 rfl) ?_
      refine lv_bipush (v := 64) hx hb dX7_anyFits_16 (by decide) ?_
      refine lv_imul hx hb dX7_anyFits_18 ?_
      have t_13 : (k_h * 64).toInt = k_h.toInt * 64 := g5_imul (a := k_h.toInt) (b := 64) (by rfl) (by decide) (by omega) (by omega)
      refine lv_iload_n hx hb dX7_anyFits_19 rfl (lv_at hl 0 rfl) ?_
      refine lv_iadd hx hb dX7_anyFits_20 ?_
      have t_14 : ((k_h * 64) + m_c).toInt = (k_h * 64).toInt + m_c.toInt := g5_iadd (a := (k_h * 64).toInt) (b := m_c.toInt) (by rfl) (by rfl) (by omega) (by omega)
      refine lv_istore_n (lv' := [(3, .int ((k_h * 64) + m_c)), (2, .int m_c), (1, .int k_h), (0, .ref a_th)]) hx hb dX7_anyFits_21 rfl hl (by decide) rfl (fun ls hl => ?_)
      refine lv_aload_n hx hb dX7_anyFits_22 rfl (lv_at hl 3 rfl) ?_
      refine va_get (D := G.1) (ci := 7) (v := .ref a_ba) (C := RX7) (T := TX7) (N := 10) hx hb hts inG_X7 hown hK hP 0 rfl rfl 2 (by decide) (hts _ fl_X7_9) (fun _ h9 => h9) rfl dX7_anyFits_23 ?_
      refine lv_iload_n hx hb dX7_anyFits_26 rfl (lv_at hl 2 rfl) ?_
      refine va_lald hx hb hK hP 1 1 rfl rfl (i := k_h) (vp_in_iff.mpr ⟨by omega, by omega⟩) dX7_anyFits_27 ?_
      refine lv_iload_n hx hb dX7_anyFits_28 rfl (lv_at hl 1 rfl) ?_
      obtain ⟨hPc, hDc, hFc⟩ := g5_sub3 (wc := []) hP hD hS hA [] (by decide) rfl
      refine va_calli (va_runSN (As := [.long (f_ba k_h.toNatClampNeg), .int m_c]) (rest := []) ⟨hx, hb, hml, hown, hts⟩ (k_isOn l G H.size m_c (f_ba k_h.toNatClampNeg) ⟨by omega, by omega⟩) ⟨va_cnB 2 hts gW_X11_isOn rfl rfl rfl (hN.1 _ g5_nw_X7_98) (hts _ ini_X11) hs_X11_isOn ⟨Nat.le_of_ble_eq_true rfl, Nat.le_of_ble_eq_true rfl⟩, hts _ st_X11_isOn, trivial⟩ (g5_preS hPc hK hDc hN hT hS hFc) rfl rfl hl.1 rfl (lv_room (Nat.le_of_ble_eq_true rfl)) dX7_anyFits_29 ⟨Nat.le_of_ble_eq_true rfl, Nat.le_of_ble_eq_true rfl⟩) hS (fun q _ h => hFc q h) hFc (fun r u t H1 locs ht hvm hw hB hz1 hk1 hS => ?_)
      obtain ⟨hP1, hD1⟩ := hB
      rw [ht] at hP1
      rcases hw with ⟨i_15, rfl, rfl⟩ | ⟨i_16, rfl, rfl⟩
      ·
        have i_15 : onB (f_ba k_h.toNatClampNeg) m_c.toInt = false := i_15
        have hP := g5_same hP hk1
        generalize H1 = H at hP hS ⊢
        refine lv_if_eq (tgt := 39) hx hb dX7_anyFits_32 (by decide) (fun c_17 => ?_) (fun c_17 => ?_)
        ·
          refine lv_aload_n hx hb dX7_anyFits_39 rfl (lv_at hl 3 rfl) ?_
          refine lv_iload_n hx hb dX7_anyFits_40 rfl (lv_at hl 2 rfl) ?_
          refine lv_iload_n hx hb dX7_anyFits_41 rfl (lv_at hl 1 rfl) ?_
          obtain ⟨hPc, hDc, hFc⟩ := g5_sub3 (wc := [(a_th, (oc7 a_h a_k a_ba a_ad e_fu a_cn a_nx a_hp a_hl a_lv)), (a_hp, (arI G 1536 m_f))]) hP hD hS hA [0, 3] (by decide) rfl
          refine va_calli (va_runV (As := [.int k_h, .int m_c]) (rest := []) ⟨hx, hb, hml, hown, hts⟩ (th_behind l G a_th a_hp a_h a_k a_ba a_ad a_cn a_nx a_hl a_lv H.size e_fu k_h m_c m_f ⟨by omega, by omega⟩ ⟨by omega, by omega⟩) (cwV 2 hts gV_X7_108 rfl rfl rfl hv_X7_hopesBehind ⟨Nat.le_of_ble_eq_true rfl, Nat.le_of_ble_eq_true rfl⟩) (g5_preV hPc hK hDc hN hT hS hFc (ci := 7) (q0 := 0) rfl rfl) rfl rfl hl.1 rfl (lv_room (Nat.le_of_ble_eq_true rfl)) dX7_anyFits_42 ⟨Nat.le_of_ble_eq_true rfl, Nat.le_of_ble_eq_true rfl⟩) hS (fun q _ h => hFc q h) hFc (fun r u t H1 locs ht hvm hw hB hz1 hk1 hS => ?_)
          obtain ⟨hP1, hD1⟩ := hB
          rw [ht] at hP1
          obtain ⟨z18, y19, rfl⟩ := hw
          obtain ⟨hP, hD⟩ := va_join (wr := [(a_ba, (arJ G 24 f_ba)), (a_ad, (arI G 1536 f_ad))]) hP hD [0, 3] [1, 2] rfl rfl (by decide) (by decide) hk1 hFc hP1 hD1
          generalize H1 = H at hP hS ⊢
          refine g5_rs [(a_ba, (arJ G 24 f_ba)), (a_ad, (arI G 1536 f_ad)), (a_th, (oc7 a_h a_k a_ba a_ad e_fu a_cn a_nx a_hp a_hl a_lv)), (a_hp, (arI G 1536 m_f))] hP hD (fun hP hD => ?_)
          refine g5_ti (v := z18) y19 ?_
          refine lv_istore (lv' := [(4, .int z18), (3, .int ((k_h * 64) + m_c)), (2, .int m_c), (1, .int k_h), (0, .ref a_th)]) hx hb dX7_anyFits_45 hl (by decide) rfl (fun ls hl => ?_)
          refine lv_aload_n hx hb dX7_anyFits_47 rfl (lv_at hl 4 rfl) ?_
          refine va_get (D := G.1) (ci := 7) (v := .ref a_hp) (C := RX7) (T := TX7) (N := 10) hx hb hts inG_X7 hown hK hP 2 rfl rfl 7 (by decide) (hts _ fl_X7_25) (fun _ h9 => h9) rfl dX7_anyFits_48 ?_
          refine lv_iload_n hx hb dX7_anyFits_51 rfl (lv_at hl 1 rfl) ?_
          refine lv_iload hx hb dX7_anyFits_52 (lv_at hl 0 rfl) ?_
          refine lv_aload_n hx hb dX7_anyFits_54 rfl (lv_at hl 4 rfl) ?_
          refine va_get (D := G.1) (ci := 7) (v := .ref a_ad) (C := RX7) (T := TX7) (N := 10) hx hb hts inG_X7 hown hK hP 2 rfl rfl 3 (by decide) (hts _ fl_X7_15) (fun _ h9 => h9) rfl dX7_anyFits_55 ?_
          refine lv_iload_n hx hb dX7_anyFits_58 rfl (lv_at hl 1 rfl) ?_
          refine va_iald hx hb hK hP 1 0 rfl rfl (i := ((k_h * 64) + m_c)) (vp_in_iff.mpr ⟨by omega, by omega⟩) dX7_anyFits_59 ?_
          obtain ⟨hPc, hDc, hFc⟩ := g5_sub3 (wc := []) hP hD hS hA [] (by decide) rfl
          refine va_calli (va_runS (As := [.int z18, .int (f_ad ((k_h * 64) + m_c).toNatClampNeg)]) (rest := [.int ((k_h * 64) + m_c), .ref a_hp]) ⟨hx, hb, hml, hown, hts⟩ (th_masksBefore l G H.size z18 (f_ad ((k_h * 64) + m_c).toNatClampNeg)) (va_cwS 2 hts gS_X7_111 rfl rfl rfl hs_X7_masksBefore ⟨Nat.le_of_ble_eq_true rfl, Nat.le_of_ble_eq_true rfl⟩) (g5_preS hPc hK hDc hN hT hS hFc) rfl rfl hl.1 rfl (lv_room (Nat.le_of_ble_eq_true rfl)) dX7_anyFits_60 ⟨Nat.le_of_ble_eq_true rfl, Nat.le_of_ble_eq_true rfl⟩) hS (fun q _ h => hFc q h) hFc (fun r u t H1 locs ht hvm hw hB hz1 hk1 hS => ?_)
          obtain ⟨hP1, hD1⟩ := hB
          rw [ht] at hP1
          obtain ⟨z20, y21, rfl⟩ := hw
          have hP := g5_same hP hk1
          generalize H1 = H at hP hS ⊢
          refine g5_ti (v := z20) y21 ?_
          refine va_iast hx hb hK hP hD hS 3 0 rfl rfl (i := ((k_h * 64) + m_c)) (x := z20) (vp_in_iff.mpr ⟨by omega, by omega⟩) dX7_anyFits_63 (fun H locs hP hD hS => ?_)
          refine g5_rs [(a_ba, (arJ G 24 f_ba)), (a_ad, (arI G 1536 f_ad)), (a_th, (oc7 a_h a_k a_ba a_ad e_fu a_cn a_nx a_hp a_hl a_lv)), (a_hp, (arI G 1536 (upd m_f ((k_h * 64) + m_c).toNatClampNeg z20)))] hP hD (fun hP hD => ?_)
          refine lv_iinc (v := (m_c + 1)) (lv' := [(2, .int (m_c + 1)), (4, .int z18), (3, .int ((k_h * 64) + m_c)), (1, .int k_h), (0, .ref a_th)]) hx hb dX7_anyFits_64 hl (k := 2) rfl rfl (by decide) rfl (fun ls hl => ?_)
          have t_22 : (m_c + 1).toInt = m_c.toInt + 1 := g5_iadd (a := m_c.toInt) (b := 1) rfl (by decide) (by omega) (by omega)
          refine lv_goto (tgt := 9) hx hb dX7_anyFits_67 (by decide) ?_
          exact ih_9_10 ((m_c + 1), (upd m_f ((k_h * 64) + m_c).toNatClampNeg z20)) ls H locs (show Int.toNat (64 - (m_c + 1).toInt) < Int.toNat (64 - m_c.toInt) from g_up (show m_c.toInt < (m_c + 1).toInt by omega) (show m_c.toInt < 64 by omega)) ⟨lv_sub hl [0, 3, 4] rfl, hP.sub [2, 0, 1, 3] rfl, hD.sub [2, 0, 1, 3] (by decide) rfl, hS, ⟨by omega, by omega⟩⟩
        ·
          exact absurd c_17 (by decide)
      ·
        have i_16 : onB (f_ba k_h.toNatClampNeg) m_c.toInt = true := i_16
        have hP := g5_same hP hk1
        generalize H1 = H at hP hS ⊢
        refine lv_if_eq (tgt := 39) hx hb dX7_anyFits_32 (by decide) (fun c_23 => ?_) (fun c_23 => ?_)
        ·
          exact absurd c_23 (by decide)
        ·
          refine lv_iconst (v := 0) hx hb dX7_anyFits_35 (by decide) ?_
          refine lv_goto (tgt := 45) hx hb dX7_anyFits_36 (by decide) ?_
          refine lv_istore (lv' := [(4, .int 0), (3, .int ((k_h * 64) + m_c)), (2, .int m_c), (1, .int k_h), (0, .ref a_th)]) hx hb dX7_anyFits_45 hl (by decide) rfl (fun ls hl => ?_)
          refine lv_aload_n hx hb dX7_anyFits_47 rfl (lv_at hl 4 rfl) ?_
          refine va_get (D := G.1) (ci := 7) (v := .ref a_hp) (C := RX7) (T := TX7) (N := 10) hx hb hts inG_X7 hown hK hP 0 rfl rfl 7 (by decide) (hts _ fl_X7_25) (fun _ h9 => h9) rfl dX7_anyFits_48 ?_
          refine lv_iload_n hx hb dX7_anyFits_51 rfl (lv_at hl 1 rfl) ?_
          refine lv_iload hx hb dX7_anyFits_52 (lv_at hl 0 rfl) ?_
          refine lv_aload_n hx hb dX7_anyFits_54 rfl (lv_at hl 4 rfl) ?_
          refine va_get (D := G.1) (ci := 7) (v := .ref a_ad) (C := RX7) (T := TX7) (N := 10) hx hb hts inG_X7 hown hK hP 0 rfl rfl 3 (by decide) (hts _ fl_X7_15) (fun _ h9 => h9) rfl dX7_anyFits_55 ?_
          refine lv_iload_n hx hb dX7_anyFits_58 rfl (lv_at hl 1 rfl) ?_
          refine va_iald hx hb hK hP 2 0 rfl rfl (i := ((k_h * 64) + m_c)) (vp_in_iff.mpr ⟨by omega, by omega⟩) dX7_anyFits_59 ?_
          obtain ⟨hPc, hDc, hFc⟩ := g5_sub3 (wc := []) hP hD hS hA [] (by decide) rfl
          refine va_calli (va_runS (As := [.int 0, .int (f_ad ((k_h * 64) + m_c).toNatClampNeg)]) (rest := [.int ((k_h * 64) + m_c), .ref a_hp]) ⟨hx, hb, hml, hown, hts⟩ (th_masksBefore l G H.size 0 (f_ad ((k_h * 64) + m_c).toNatClampNeg)) (va_cwS 2 hts gS_X7_111 rfl rfl rfl hs_X7_masksBefore ⟨Nat.le_of_ble_eq_true rfl, Nat.le_of_ble_eq_true rfl⟩) (g5_preS hPc hK hDc hN hT hS hFc) rfl rfl hl.1 rfl (lv_room (Nat.le_of_ble_eq_true rfl)) dX7_anyFits_60 ⟨Nat.le_of_ble_eq_true rfl, Nat.le_of_ble_eq_true rfl⟩) hS (fun q _ h => hFc q h) hFc (fun r u t H1 locs ht hvm hw hB hz1 hk1 hS => ?_)
          obtain ⟨hP1, hD1⟩ := hB
          rw [ht] at hP1
          obtain ⟨z24, y25, rfl⟩ := hw
          have hP := g5_same hP hk1
          generalize H1 = H at hP hS ⊢
          refine g5_ti (v := z24) y25 ?_
          refine va_iast hx hb hK hP hD hS 3 0 rfl rfl (i := ((k_h * 64) + m_c)) (x := z24) (vp_in_iff.mpr ⟨by omega, by omega⟩) dX7_anyFits_63 (fun H locs hP hD hS => ?_)
          refine g5_rs [(a_th, (oc7 a_h a_k a_ba a_ad e_fu a_cn a_nx a_hp a_hl a_lv)), (a_ba, (arJ G 24 f_ba)), (a_ad, (arI G 1536 f_ad)), (a_hp, (arI G 1536 (upd m_f ((k_h * 64) + m_c).toNatClampNeg z24)))] hP hD (fun hP hD => ?_)
          refine lv_iinc (v := (m_c + 1)) (lv' := [(2, .int (m_c + 1)), (4, .int 0), (3, .int ((k_h * 64) + m_c)), (1, .int k_h), (0, .ref a_th)]) hx hb dX7_anyFits_64 hl (k := 2) rfl rfl (by decide) rfl (fun ls hl => ?_)
          have t_26 : (m_c + 1).toInt = m_c.toInt + 1 := g5_iadd (a := m_c.toInt) (b := 1) rfl (by decide) (by omega) (by omega)
          refine lv_goto (tgt := 9) hx hb dX7_anyFits_67 (by decide) ?_
          exact ih_9_10 ((m_c + 1), (upd m_f ((k_h * 64) + m_c).toNatClampNeg z24)) ls H locs (show Int.toNat (64 - (m_c + 1).toInt) < Int.toNat (64 - m_c.toInt) from g_up (show m_c.toInt < (m_c + 1).toInt by omega) (show m_c.toInt < 64 by omega)) ⟨lv_sub hl [0, 3, 4] rfl, hP, hD, hS, ⟨by omega, by omega⟩⟩
theorem dgX7_lowestNext_0 : ∀ r ∈ ([(0, (.iconst 0, 1)), (1, (.istore 4, 2)), (3, (.iload 4, 2)), (5, (.getstatic 131, 3)), (8, (.arraylength, 1)), (9, (.if_icmp .ge 49, 3)), (12, (.iload_n 1, 1)), (13, (.getstatic 131, 3)), (16, (.iload 4, 2)), (18, (.iaload, 1)), (19, (.invokestatic 105, 3)), (22, (.istore 5, 2)), (24, (.iload 5, 2)), (26, (.iconst (-1), 1)), (27, (.if_icmp .eq 25, 3)), (30, (.aload_n 0, 1)), (31, (.getfield 25, 3)), (34, (.iload_n 2, 1)), (35, (.bipush 64, 2)), (37, (.imul, 1)), (38, (.iload 5, 2)), (40, (.iadd, 1)), (41, (.iaload, 1)), (42, (.iload_n 3, 1)), (43, (.iushr, 1)), (44, (.iconst 1, 1)), (45, (.iand, 1)), (46, (.ifCond .eq 6, 3)), (49, (.iload 5, 2)), (51, (.ireturn, 1)), (52, (.iinc 4 1, 3)), (55, (.goto (-52), 3)), (58, (.iload_n 1, 1)), (59, (.ireturn, 1))] : List (Nat × (Instr × Nat))), decode cX7_lowestNext r.1 = .ok r.2 := by decide +kernel
theorem dX7_lowestNext_0 : decode cX7_lowestNext 0 = .ok (.iconst 0, 1) := dgX7_lowestNext_0 (0, (.iconst 0, 1)) (List.mem_of_getElem? (i := 0) rfl)
theorem dX7_lowestNext_1 : decode cX7_lowestNext 1 = .ok (.istore 4, 2) := dgX7_lowestNext_0 (1, (.istore 4, 2)) (List.mem_of_getElem? (i := 1) rfl)
theorem dX7_lowestNext_3 : decode cX7_lowestNext 3 = .ok (.iload 4, 2) := dgX7_lowestNext_0 (3, (.iload 4, 2)) (List.mem_of_getElem? (i := 2) rfl)
theorem dX7_lowestNext_5 : decode cX7_lowestNext 5 = .ok (.getstatic 131, 3) := dgX7_lowestNext_0 (5, (.getstatic 131, 3)) (List.mem_of_getElem? (i := 3) rfl)
theorem dX7_lowestNext_8 : decode cX7_lowestNext 8 = .ok (.arraylength, 1) := dgX7_lowestNext_0 (8, (.arraylength, 1)) (List.mem_of_getElem? (i := 4) rfl)
theorem dX7_lowestNext_9 : decode cX7_lowestNext 9 = .ok (.if_icmp .ge 49, 3) := dgX7_lowestNext_0 (9, (.if_icmp .ge 49, 3)) (List.mem_of_getElem? (i := 5) rfl)
theorem dX7_lowestNext_12 : decode cX7_lowestNext 12 = .ok (.iload_n 1, 1) := dgX7_lowestNext_0 (12, (.iload_n 1, 1)) (List.mem_of_getElem? (i := 6) rfl)
theorem dX7_lowestNext_13 : decode cX7_lowestNext 13 = .ok (.getstatic 131, 3) := dgX7_lowestNext_0 (13, (.getstatic 131, 3)) (List.mem_of_getElem? (i := 7) rfl)
theorem dX7_lowestNext_16 : decode cX7_lowestNext 16 = .ok (.iload 4, 2) := dgX7_lowestNext_0 (16, (.iload 4, 2)) (List.mem_of_getElem? (i := 8) rfl)
theorem dX7_lowestNext_18 : decode cX7_lowestNext 18 = .ok (.iaload, 1) := dgX7_lowestNext_0 (18, (.iaload, 1)) (List.mem_of_getElem? (i := 9) rfl)
theorem dX7_lowestNext_19 : decode cX7_lowestNext 19 = .ok (.invokestatic 105, 3) := dgX7_lowestNext_0 (19, (.invokestatic 105, 3)) (List.mem_of_getElem? (i := 10) rfl)
theorem dX7_lowestNext_22 : decode cX7_lowestNext 22 = .ok (.istore 5, 2) := dgX7_lowestNext_0 (22, (.istore 5, 2)) (List.mem_of_getElem? (i := 11) rfl)
theorem dX7_lowestNext_24 : decode cX7_lowestNext 24 = .ok (.iload 5, 2) := dgX7_lowestNext_0 (24, (.iload 5, 2)) (List.mem_of_getElem? (i := 12) rfl)
theorem dX7_lowestNext_26 : decode cX7_lowestNext 26 = .ok (.iconst (-1), 1) := dgX7_lowestNext_0 (26, (.iconst (-1), 1)) (List.mem_of_getElem? (i := 13) rfl)
theorem dX7_lowestNext_27 : decode cX7_lowestNext 27 = .ok (.if_icmp .eq 25, 3) := dgX7_lowestNext_0 (27, (.if_icmp .eq 25, 3)) (List.mem_of_getElem? (i := 14) rfl)
theorem dX7_lowestNext_30 : decode cX7_lowestNext 30 = .ok (.aload_n 0, 1) := dgX7_lowestNext_0 (30, (.aload_n 0, 1)) (List.mem_of_getElem? (i := 15) rfl)
theorem dX7_lowestNext_31 : decode cX7_lowestNext 31 = .ok (.getfield 25, 3) := dgX7_lowestNext_0 (31, (.getfield 25, 3)) (List.mem_of_getElem? (i := 16) rfl)
theorem dX7_lowestNext_34 : decode cX7_lowestNext 34 = .ok (.iload_n 2, 1) := dgX7_lowestNext_0 (34, (.iload_n 2, 1)) (List.mem_of_getElem? (i := 17) rfl)
theorem dX7_lowestNext_35 : decode cX7_lowestNext 35 = .ok (.bipush 64, 2) := dgX7_lowestNext_0 (35, (.bipush 64, 2)) (List.mem_of_getElem? (i := 18) rfl)
theorem dX7_lowestNext_37 : decode cX7_lowestNext 37 = .ok (.imul, 1) := dgX7_lowestNext_0 (37, (.imul, 1)) (List.mem_of_getElem? (i := 19) rfl)
theorem dX7_lowestNext_38 : decode cX7_lowestNext 38 = .ok (.iload 5, 2) := dgX7_lowestNext_0 (38, (.iload 5, 2)) (List.mem_of_getElem? (i := 20) rfl)
theorem dX7_lowestNext_40 : decode cX7_lowestNext 40 = .ok (.iadd, 1) := dgX7_lowestNext_0 (40, (.iadd, 1)) (List.mem_of_getElem? (i := 21) rfl)
theorem dX7_lowestNext_41 : decode cX7_lowestNext 41 = .ok (.iaload, 1) := dgX7_lowestNext_0 (41, (.iaload, 1)) (List.mem_of_getElem? (i := 22) rfl)
theorem dX7_lowestNext_42 : decode cX7_lowestNext 42 = .ok (.iload_n 3, 1) := dgX7_lowestNext_0 (42, (.iload_n 3, 1)) (List.mem_of_getElem? (i := 23) rfl)
theorem dX7_lowestNext_43 : decode cX7_lowestNext 43 = .ok (.iushr, 1) := dgX7_lowestNext_0 (43, (.iushr, 1)) (List.mem_of_getElem? (i := 24) rfl)
theorem dX7_lowestNext_44 : decode cX7_lowestNext 44 = .ok (.iconst 1, 1) := dgX7_lowestNext_0 (44, (.iconst 1, 1)) (List.mem_of_getElem? (i := 25) rfl)
theorem dX7_lowestNext_45 : decode cX7_lowestNext 45 = .ok (.iand, 1) := dgX7_lowestNext_0 (45, (.iand, 1)) (List.mem_of_getElem? (i := 26) rfl)
theorem dX7_lowestNext_46 : decode cX7_lowestNext 46 = .ok (.ifCond .eq 6, 3) := dgX7_lowestNext_0 (46, (.ifCond .eq 6, 3)) (List.mem_of_getElem? (i := 27) rfl)
theorem dX7_lowestNext_49 : decode cX7_lowestNext 49 = .ok (.iload 5, 2) := dgX7_lowestNext_0 (49, (.iload 5, 2)) (List.mem_of_getElem? (i := 28) rfl)
theorem dX7_lowestNext_51 : decode cX7_lowestNext 51 = .ok (.ireturn, 1) := dgX7_lowestNext_0 (51, (.ireturn, 1)) (List.mem_of_getElem? (i := 29) rfl)
theorem dX7_lowestNext_52 : decode cX7_lowestNext 52 = .ok (.iinc 4 1, 3) := dgX7_lowestNext_0 (52, (.iinc 4 1, 3)) (List.mem_of_getElem? (i := 30) rfl)
theorem dX7_lowestNext_55 : decode cX7_lowestNext 55 = .ok (.goto (-52), 3) := dgX7_lowestNext_0 (55, (.goto (-52), 3)) (List.mem_of_getElem? (i := 31) rfl)
theorem dX7_lowestNext_58 : decode cX7_lowestNext 58 = .ok (.iload_n 1, 1) := dgX7_lowestNext_0 (58, (.iload_n 1, 1)) (List.mem_of_getElem? (i := 32) rfl)
theorem dX7_lowestNext_59 : decode cX7_lowestNext 59 = .ok (.ireturn, 1) := dgX7_lowestNext_0 (59, (.ireturn, 1)) (List.mem_of_getElem? (i := 33) rfl)
set_option maxHeartbeats 4000000 in
set_option maxRecDepth 100000 in
theorem th_next (l : Launch) (G : g5_G) (a_th a_hp a_h a_k a_ba a_ad a_cn a_nx a_hl a_lv : Nat) (sz : Nat) (e_fu : Int32) (p_c : Int32) (p_h : Int32) (p_m : Int32) (f_hp : Nat → Int32) (h_p_c : 0 ≤ p_c.toInt ∧ p_c.toInt ≤ 63) (h_p_h : 0 ≤ p_h.toInt ∧ p_h.toInt ≤ 23) : Met l yX7_lowestNext (wsG yX7_lowestNext cX7_lowestNext 6 (some .int)) ({ frames := 1, cells := 0, slots := 0, locals := 21 }) (va_Pc [.ref a_th, .int p_c, .int p_h, .int p_m] (g5_P G [(a_th, (oc7 a_h a_k a_ba a_ad e_fu a_cn a_nx a_hp a_hl a_lv)), (a_hp, (arI G 1536 f_hp))] sz)) (va_Qi (fun (r : Int32) (u : va_W) => (∃ (o_r : Int32), (0 ≤ o_r.toInt ∧ o_r.toInt ≤ 63) ∧ (r = o_r) ∧ (u = [(a_th, (oc7 a_h a_k a_ba a_ad e_fu a_cn a_nx a_hp a_hl a_lv)), (a_hp, (arI G 1536 f_hp))]))) (g5_B G (va_A [(a_th, (oc7 a_h a_k a_ba a_ad e_fu a_cn a_nx a_hp a_hl a_lv)), (a_hp, (arI G 1536 f_hp))] sz)) (va_A [(a_th, (oc7 a_h a_k a_ba a_ad e_fu a_cn a_nx a_hp a_hl a_lv)), (a_hp, (arI G 1536 f_hp))] sz)) 0 0 (va_A [(a_th, (oc7 a_h a_k a_ba a_ad e_fu a_cn a_nx a_hp a_hl a_lv)), (a_hp, (arI G 1536 f_hp))] sz) := by
  refine Met.ofW (cc := cX7_lowestNext) (maxL := 6) (ret := (some .int)) (by decide) rfl ?_
  intro p e s m args below meth c s₁ B hml hv
  obtain ⟨rfl, hsz, hP, hK, hD0, hN, hT⟩ := hv
  have hx := B.exec
  have hb := B.bytes
  have hr := B.returns
  have hts : ∀ w ∈ tblG, w.before _ s = true := fun w h => atoms_spec (ws := (wsG yX7_lowestNext cX7_lowestNext 6 (some .int))) B.pre w (List.mem_cons_of_mem _ h)
  have hown : s.vm.findClass RX7 = some m.cls := findClass_of_methodNamed B.named
  have hlocks := B.notSynchronized
  subst hsz
  have hD := hD0.self (sz := s.heap.size)
  generalize hAe : va_A [(a_th, (oc7 a_h a_k a_ba a_ad e_fu a_cn a_nx a_hp a_hl a_lv)), (a_hp, (arI G 1536 f_hp))] s.heap.size = A at hD hT ⊢
  have hA : ∀ q : Nat, s.heap.size ≤ q → A q := fun q h => by rw [← hAe]; exact Or.inr h
  have hS : va_S A s.heap s.heap [] := va_S.rf
  have hP : va_P G.1 vwCl [(a_th, (oc7 a_h a_k a_ba a_ad e_fu a_cn a_nx a_hp a_hl a_lv)), (a_hp, (arI G 1536 f_hp))] s.heap := hP
  have hl := lv_entry ([.ref a_th, .int p_c, .int p_h, .int p_m]) (n := 6) (Nat.le_of_ble_eq_true rfl)
  rw [lg_entry_eq]
  generalize (lg_sl ([.ref a_th, .int p_c, .int p_h, .int p_m]) ++ List.replicate (6 - (lg_sl ([.ref a_th, .int p_c, .int p_h, .int p_m])).length) Slot.unset).toArray = ls at hl ⊢
  have hl : lv_has ls 6 [(0, .ref a_th), (1, .int p_c), (2, .int p_h), (3, .int p_m)] := hl
  refine lv_iconst (v := 0) hx hb dX7_lowestNext_0 (by decide) ?_
  refine lv_istore (lv' := [(4, .int 0), (0, .ref a_th), (1, .int p_c), (2, .int p_h), (3, .int p_m)]) hx hb dX7_lowestNext_1 hl (by decide) rfl (fun ls hl => ?_)
  refine g5_loop (α := (Int32)) (fun (k_i : (Int32)) (ls : Array Slot) (H : Heap) (locs : List Loc) => lv_has ls 6 [(4, .int k_i), (0, .ref a_th), (1, .int p_c), (2, .int p_h), (3, .int p_m)] ∧ va_P G.1 vwCl [(a_th, (oc7 a_h a_k a_ba a_ad e_fu a_cn a_nx a_hp a_hl a_lv)), (a_hp, (arI G 1536 f_hp))] H ∧ va_D A [(a_th, (oc7 a_h a_k a_ba a_ad e_fu a_cn a_nx a_hp a_hl a_lv)), (a_hp, (arI G 1536 f_hp))] ∧ va_S A s.heap H locs ∧ (0 ≤ k_i.toInt ∧ k_i.toInt ≤ 5)) (fun (k_i : (Int32)) => Int.toNat (5 - k_i.toInt)) 0 ⟨lv_sub hl [0, 1, 2, 3, 4] rfl, hP, hD, hS, ⟨by decide, by decide⟩⟩ ?_
  rintro k_i ls H locs ⟨hl, hP, hD, hS, i_1⟩ ih_3_2
  have hl : lv_has ls 6 [(4, .int k_i), (0, .ref a_th), (1, .int p_c), (2, .int p_h), (3, .int p_m)] := hl
  have i_1 : 0 ≤ k_i.toInt ∧ k_i.toInt ≤ 5 := i_1
  refine g5_rs [(a_th, (oc7 a_h a_k a_ba a_ad e_fu a_cn a_nx a_hp a_hl a_lv)), (a_hp, (arI G 1536 f_hp))] hP hD (fun hP hD => ?_)
  refine lv_iload hx hb dX7_lowestNext_3 (lv_at hl 0 rfl) ?_
  obtain ⟨tH, tL, tK, tV, tF, hZH, hTH, hZL, hTL, -⟩ := id hT
  refine va_getsN hx hb hZL hS hown (hN.1 _ g5_nw_X7_131) (fun _ h9 => h9) dX7_lowestNext_5 ?_
  refine va_tlen hx hb hTL hS (v := 5) (by decide) dX7_lowestNext_8 ?_
  refine lv_icmp_ge (tgt := 58) hx hb dX7_lowestNext_9 (by decide) (fun c_3 => ?_) (fun c_3 => ?_)
  ·
    have i_3 : k_i.toInt ≥ 5 := by have z := g5_ge (a := k_i.toInt) (b := 5) (by rfl) (by decide) c_3; omega
    refine lv_iload_n hx hb dX7_lowestNext_58 rfl (lv_at hl 2 rfl) ?_
    exact W.iret (v := p_c) hx hb hr (fun t ht hW => ⟨⟨p_c, [(a_th, (oc7 a_h a_k a_ba a_ad e_fu a_cn a_nx a_hp a_hl a_lv)), (a_hp, (arI G 1536 f_hp))], rfl, ⟨p_c, h_p_c, rfl, rfl⟩, by rw [ht]; exact hP.sub [0, 1] rfl, hD.sub [0, 1] (by decide) rfl⟩, hS.F ht⟩) hS.2.2 dX7_lowestNext_59
  ·
    have i_3 : k_i.toInt < 5 := by have z := g5_geN (a := k_i.toInt) (b := 5) (by rfl) (by decide) c_3; omega
    refine lv_iload_n hx hb dX7_lowestNext_12 rfl (lv_at hl 2 rfl) ?_
    obtain ⟨tH, tL, tK, tV, tF, hZH, hTH, hZL, hTL, -⟩ := id hT
    refine va_getsN hx hb hZL hS hown (hN.1 _ g5_nw_X7_131) (fun _ h9 => h9) dX7_lowestNext_13 ?_
    refine lv_iload hx hb dX7_lowestNext_16 (lv_at hl 0 rfl) ?_
    refine va_ti hx hb hTL hS (i := k_i) (vp_in_iff.mpr ⟨by omega, by omega⟩) (v := .int (g_low k_i.toNatClampNeg)) (g_low_eq _) dX7_lowestNext_18 ?_
    obtain ⟨hPc, hDc, hFc⟩ := g5_sub3 (wc := []) hP hD hS hA [] (by decide) rfl
    refine va_calli (va_runSN (As := [.int p_c, .int (g_low k_i.toNatClampNeg)]) (rest := []) ⟨hx, hb, hml, hown, hts⟩ (k_beside l G H.size p_c (g_low k_i.toNatClampNeg) h_p_c) ⟨va_cnB 2 hts gW_X11_beside rfl rfl rfl (hN.1 _ g5_nw_X7_105) (hts _ ini_X11) hs_X11_beside ⟨Nat.le_of_ble_eq_true rfl, Nat.le_of_ble_eq_true rfl⟩, hts _ st_X11_beside, trivial⟩ (g5_preS hPc hK hDc hN hT hS hFc) rfl rfl hl.1 rfl (lv_room (Nat.le_of_ble_eq_true rfl)) dX7_lowestNext_19 ⟨Nat.le_of_ble_eq_true rfl, Nat.le_of_ble_eq_true rfl⟩) hS (fun q _ h => hFc q h) hFc (fun r u t H1 locs ht hvm hw hB hz1 hk1 hS => ?_)
    obtain ⟨hP1, hD1⟩ := hB
    rw [ht] at hP1
    obtain ⟨z6, i_4, i_5, y7, rfl⟩ := hw
    have i_4 : z6.toInt = bs p_c.toInt (g_low k_i.toNatClampNeg).toInt := i_4
    have i_5 : -1 ≤ z6.toInt ∧ z6.toInt ≤ 63 := i_5
    have hP := g5_same hP hk1
    generalize H1 = H at hP hS ⊢
    refine g5_ti (v := z6) y7 ?_
    refine lv_istore (lv' := [(5, .int z6), (4, .int k_i), (0, .ref a_th), (1, .int p_c), (2, .int p_h), (3, .int p_m)]) hx hb dX7_lowestNext_22 hl (by decide) rfl (fun ls hl => ?_)
    refine lv_iload hx hb dX7_lowestNext_24 (lv_at hl 0 rfl) ?_
    refine lv_iconst (v := (-1)) hx hb dX7_lowestNext_26 (by decide) ?_
    refine lv_icmp_eq (tgt := 52) hx hb dX7_lowestNext_27 (by decide) (fun c_8 => ?_) (fun c_8 => ?_)
    ·
      have i_8 : z6.toInt = (-1) := by have z := g5_eq (a := z6.toInt) (b := (-1)) (by rfl) (by decide) c_8; omega
      refine lv_iinc (v := (k_i + 1)) (lv' := [(4, .int (k_i + 1)), (5, .int z6), (0, .ref a_th), (1, .int p_c), (2, .int p_h), (3, .int p_m)]) hx hb dX7_lowestNext_52 hl (k := 1) rfl rfl (by decide) rfl (fun ls hl => ?_)
      have t_9 : (k_i + 1).toInt = k_i.toInt + 1 := g5_iadd (a := k_i.toInt) (b := 1) rfl (by decide) (by omega) (by omega)
      refine lv_goto (tgt := 3) hx hb dX7_lowestNext_55 (by decide) ?_
      exact ih_3_2 (k_i + 1) ls H locs (show Int.toNat (5 - (k_i + 1).toInt) < Int.toNat (5 - k_i.toInt) from g_up (show k_i.toInt < (k_i + 1).toInt by omega) (show k_i.toInt < 5 by omega)) ⟨lv_sub hl [0, 2, 3, 4, 5] rfl, hP, hD, hS, ⟨by omega, by omega⟩⟩
    ·
      have n_8 : gNe (z6.toInt) ((-1)) := by have z := g5_eqN (a := z6.toInt) (b := (-1)) (by rfl) (by decide) c_8; unfold gNe; omega
      have i_8 : z6.toInt ≥ 0 := by have z := g5_eqN (a := z6.toInt) (b := (-1)) (by rfl) (by decide) c_8; omega
      refine lv_aload_n hx hb dX7_lowestNext_30 rfl (lv_at hl 2 rfl) ?_
      refine va_get (D := G.1) (ci := 7) (v := .ref a_hp) (C := RX7) (T := TX7) (N := 10) hx hb hts inG_X7 hown hK hP 0 rfl rfl 7 (by decide) (hts _ fl_X7_25) (fun _ h9 => h9) rfl dX7_lowestNext_31 ?_
      refine lv_iload_n hx hb dX7_lowestNext_34 rfl (lv_at hl 4 rfl) ?_
      refine lv_bipush (v := 64) hx hb dX7_lowestNext_35 (by decide) ?_
      refine lv_imul hx hb dX7_lowestNext_37 ?_
      have t_10 : (p_h * 64).toInt = p_h.toInt * 64 := g5_imul (a := p_h.toInt) (b := 64) (by rfl) (by decide) (by omega) (by omega)
      refine lv_iload hx hb dX7_lowestNext_38 (lv_at hl 0 rfl) ?_
      refine lv_iadd hx hb dX7_lowestNext_40 ?_
      have t_11 : ((p_h * 64) + z6).toInt = (p_h * 64).toInt + z6.toInt := g5_iadd (a := (p_h * 64).toInt) (b := z6.toInt) (by rfl) (by rfl) (by omega) (by omega)
      refine va_iald hx hb hK hP 1 0 rfl rfl (i := ((p_h * 64) + z6)) (vp_in_iff.mpr ⟨by omega, by omega⟩) dX7_lowestNext_41 ?_
      refine lv_iload_n hx hb dX7_lowestNext_42 rfl (lv_at hl 5 rfl) ?_
      refine lv_iushr (v := (((f_hp ((p_h * 64) + z6).toNatClampNeg).toUInt32 >>> (p_m.toUInt32 &&& Int32.toUInt32 31)).toInt32)) hx hb dX7_lowestNext_43 rfl ?_
      refine lv_iconst (v := 1) hx hb dX7_lowestNext_44 (by decide) ?_
      refine lv_iand hx hb dX7_lowestNext_45 ?_
      refine lv_if_eq (tgt := 52) hx hb dX7_lowestNext_46 (by decide) (fun c_12 => ?_) (fun c_12 => ?_)
      ·
        have i_12 : ((((f_hp ((p_h * 64) + z6).toNatClampNeg).toUInt32 >>> (p_m.toUInt32 &&& Int32.toUInt32 31)).toInt32) &&& 1).toInt = 0 := by have z := g5_eq (a := ((((f_hp ((p_h * 64) + z6).toNatClampNeg).toUInt32 >>> (p_m.toUInt32 &&& Int32.toUInt32 31)).toInt32) &&& 1).toInt) (b := 0) (by rfl) (by decide) c_12; omega
        refine lv_iinc (v := (k_i + 1)) (lv' := [(4, .int (k_i + 1)), (5, .int z6), (0, .ref a_th), (1, .int p_c), (2, .int p_h), (3, .int p_m)]) hx hb dX7_lowestNext_52 hl (k := 1) rfl rfl (by decide) rfl (fun ls hl => ?_)
        have t_13 : (k_i + 1).toInt = k_i.toInt + 1 := g5_iadd (a := k_i.toInt) (b := 1) rfl (by decide) (by omega) (by omega)
        refine lv_goto (tgt := 3) hx hb dX7_lowestNext_55 (by decide) ?_
        exact ih_3_2 (k_i + 1) ls H locs (show Int.toNat (5 - (k_i + 1).toInt) < Int.toNat (5 - k_i.toInt) from g_up (show k_i.toInt < (k_i + 1).toInt by omega) (show k_i.toInt < 5 by omega)) ⟨lv_sub hl [0, 2, 3, 4, 5] rfl, hP, hD, hS, ⟨by omega, by omega⟩⟩
      ·
        have n_12 : gNe (((((f_hp ((p_h * 64) + z6).toNatClampNeg).toUInt32 >>> (p_m.toUInt32 &&& Int32.toUInt32 31)).toInt32) &&& 1).toInt) (0) := by have z := g5_eqN (a := ((((f_hp ((p_h * 64) + z6).toNatClampNeg).toUInt32 >>> (p_m.toUInt32 &&& Int32.toUInt32 31)).toInt32) &&& 1).toInt) (b := 0) (by rfl) (by decide) c_12; unfold gNe; omega
        refine lv_iload hx hb dX7_lowestNext_49 (lv_at hl 0 rfl) ?_
        exact W.iret (v := z6) hx hb hr (fun t ht hW => ⟨⟨z6, [(a_th, (oc7 a_h a_k a_ba a_ad e_fu a_cn a_nx a_hp a_hl a_lv)), (a_hp, (arI G 1536 f_hp))], rfl, ⟨z6, ⟨by omega, by omega⟩, rfl, rfl⟩, by rw [ht]; exact hP.sub [0, 1] rfl, hD.sub [0, 1] (by decide) rfl⟩, hS.F ht⟩) hS.2.2 dX7_lowestNext_51
theorem dgX7_firstRowAt_0 : ∀ r ∈ ([(0, (.aload_n 0, 1)), (1, (.invokevirtual 117, 3)), (4, (.ifCond .ne 5, 3)), (7, (.iconst (-1), 1)), (8, (.ireturn, 1)), (9, (.iconst 0, 1)), (10, (.istore_n 2, 1)), (11, (.iload_n 2, 1)), (12, (.bipush 63, 2)), (14, (.if_icmp .ge 20, 3)), (17, (.aload_n 0, 1)), (18, (.getfield 25, 3)), (21, (.iload_n 2, 1)), (22, (.iaload, 1)), (23, (.iconst 1, 1)), (24, (.iand, 1)), (25, (.ifCond .ne 9, 3)), (28, (.iinc 2 1, 3)), (31, (.goto (-20), 3)), (34, (.aload_n 0, 1)), (35, (.getfield 15, 3)), (38, (.iload_n 2, 1)), (39, (.iaload, 1)), (40, (.istore_n 3, 1)), (41, (.iconst 1, 1)), (42, (.istore 4, 2)), (44, (.iload 4, 2)), (46, (.iload_n 1, 1)), (47, (.if_icmp .gt 33, 3)), (50, (.aload_n 0, 1)), (51, (.iload_n 2, 1)), (52, (.iload 4, 2)), (54, (.iload_n 3, 1)), (55, (.invokevirtual 127, 3)), (58, (.istore_n 2, 1)), (59, (.iload_n 3, 1)), (60, (.aload_n 0, 1)), (61, (.getfield 15, 3)), (64, (.iload 4, 2)), (66, (.bipush 64, 2))] : List (Nat × (Instr × Nat))), decode cX7_firstRowAt r.1 = .ok r.2 := by decide +kernel
theorem dX7_firstRowAt_0 : decode cX7_firstRowAt 0 = .ok (.aload_n 0, 1) := dgX7_firstRowAt_0 (0, (.aload_n 0, 1)) (List.mem_of_getElem? (i := 0) rfl)
theorem dX7_firstRowAt_1 : decode cX7_firstRowAt 1 = .ok (.invokevirtual 117, 3) := dgX7_firstRowAt_0 (1, (.invokevirtual 117, 3)) (List.mem_of_getElem? (i := 1) rfl)
theorem dX7_firstRowAt_4 : decode cX7_firstRowAt 4 = .ok (.ifCond .ne 5, 3) := dgX7_firstRowAt_0 (4, (.ifCond .ne 5, 3)) (List.mem_of_getElem? (i := 2) rfl)
theorem dX7_firstRowAt_7 : decode cX7_firstRowAt 7 = .ok (.iconst (-1), 1) := dgX7_firstRowAt_0 (7, (.iconst (-1), 1)) (List.mem_of_getElem? (i := 3) rfl)
theorem dX7_firstRowAt_8 : decode cX7_firstRowAt 8 = .ok (.ireturn, 1) := dgX7_firstRowAt_0 (8, (.ireturn, 1)) (List.mem_of_getElem? (i := 4) rfl)
theorem dX7_firstRowAt_9 : decode cX7_firstRowAt 9 = .ok (.iconst 0, 1) := dgX7_firstRowAt_0 (9, (.iconst 0, 1)) (List.mem_of_getElem? (i := 5) rfl)
theorem dX7_firstRowAt_10 : decode cX7_firstRowAt 10 = .ok (.istore_n 2, 1) := dgX7_firstRowAt_0 (10, (.istore_n 2, 1)) (List.mem_of_getElem? (i := 6) rfl)
theorem dX7_firstRowAt_11 : decode cX7_firstRowAt 11 = .ok (.iload_n 2, 1) := dgX7_firstRowAt_0 (11, (.iload_n 2, 1)) (List.mem_of_getElem? (i := 7) rfl)
theorem dX7_firstRowAt_12 : decode cX7_firstRowAt 12 = .ok (.bipush 63, 2) := dgX7_firstRowAt_0 (12, (.bipush 63, 2)) (List.mem_of_getElem? (i := 8) rfl)
theorem dX7_firstRowAt_14 : decode cX7_firstRowAt 14 = .ok (.if_icmp .ge 20, 3) := dgX7_firstRowAt_0 (14, (.if_icmp .ge 20, 3)) (List.mem_of_getElem? (i := 9) rfl)
theorem dX7_firstRowAt_17 : decode cX7_firstRowAt 17 = .ok (.aload_n 0, 1) := dgX7_firstRowAt_0 (17, (.aload_n 0, 1)) (List.mem_of_getElem? (i := 10) rfl)
theorem dX7_firstRowAt_18 : decode cX7_firstRowAt 18 = .ok (.getfield 25, 3) := dgX7_firstRowAt_0 (18, (.getfield 25, 3)) (List.mem_of_getElem? (i := 11) rfl)
theorem dX7_firstRowAt_21 : decode cX7_firstRowAt 21 = .ok (.iload_n 2, 1) := dgX7_firstRowAt_0 (21, (.iload_n 2, 1)) (List.mem_of_getElem? (i := 12) rfl)
theorem dX7_firstRowAt_22 : decode cX7_firstRowAt 22 = .ok (.iaload, 1) := dgX7_firstRowAt_0 (22, (.iaload, 1)) (List.mem_of_getElem? (i := 13) rfl)
theorem dX7_firstRowAt_23 : decode cX7_firstRowAt 23 = .ok (.iconst 1, 1) := dgX7_firstRowAt_0 (23, (.iconst 1, 1)) (List.mem_of_getElem? (i := 14) rfl)
theorem dX7_firstRowAt_24 : decode cX7_firstRowAt 24 = .ok (.iand, 1) := dgX7_firstRowAt_0 (24, (.iand, 1)) (List.mem_of_getElem? (i := 15) rfl)
theorem dX7_firstRowAt_25 : decode cX7_firstRowAt 25 = .ok (.ifCond .ne 9, 3) := dgX7_firstRowAt_0 (25, (.ifCond .ne 9, 3)) (List.mem_of_getElem? (i := 16) rfl)
theorem dX7_firstRowAt_28 : decode cX7_firstRowAt 28 = .ok (.iinc 2 1, 3) := dgX7_firstRowAt_0 (28, (.iinc 2 1, 3)) (List.mem_of_getElem? (i := 17) rfl)
theorem dX7_firstRowAt_31 : decode cX7_firstRowAt 31 = .ok (.goto (-20), 3) := dgX7_firstRowAt_0 (31, (.goto (-20), 3)) (List.mem_of_getElem? (i := 18) rfl)
theorem dX7_firstRowAt_34 : decode cX7_firstRowAt 34 = .ok (.aload_n 0, 1) := dgX7_firstRowAt_0 (34, (.aload_n 0, 1)) (List.mem_of_getElem? (i := 19) rfl)
theorem dX7_firstRowAt_35 : decode cX7_firstRowAt 35 = .ok (.getfield 15, 3) := dgX7_firstRowAt_0 (35, (.getfield 15, 3)) (List.mem_of_getElem? (i := 20) rfl)
theorem dX7_firstRowAt_38 : decode cX7_firstRowAt 38 = .ok (.iload_n 2, 1) := dgX7_firstRowAt_0 (38, (.iload_n 2, 1)) (List.mem_of_getElem? (i := 21) rfl)
theorem dX7_firstRowAt_39 : decode cX7_firstRowAt 39 = .ok (.iaload, 1) := dgX7_firstRowAt_0 (39, (.iaload, 1)) (List.mem_of_getElem? (i := 22) rfl)
theorem dX7_firstRowAt_40 : decode cX7_firstRowAt 40 = .ok (.istore_n 3, 1) := dgX7_firstRowAt_0 (40, (.istore_n 3, 1)) (List.mem_of_getElem? (i := 23) rfl)
theorem dX7_firstRowAt_41 : decode cX7_firstRowAt 41 = .ok (.iconst 1, 1) := dgX7_firstRowAt_0 (41, (.iconst 1, 1)) (List.mem_of_getElem? (i := 24) rfl)
theorem dX7_firstRowAt_42 : decode cX7_firstRowAt 42 = .ok (.istore 4, 2) := dgX7_firstRowAt_0 (42, (.istore 4, 2)) (List.mem_of_getElem? (i := 25) rfl)
theorem dX7_firstRowAt_44 : decode cX7_firstRowAt 44 = .ok (.iload 4, 2) := dgX7_firstRowAt_0 (44, (.iload 4, 2)) (List.mem_of_getElem? (i := 26) rfl)
theorem dX7_firstRowAt_46 : decode cX7_firstRowAt 46 = .ok (.iload_n 1, 1) := dgX7_firstRowAt_0 (46, (.iload_n 1, 1)) (List.mem_of_getElem? (i := 27) rfl)
theorem dX7_firstRowAt_47 : decode cX7_firstRowAt 47 = .ok (.if_icmp .gt 33, 3) := dgX7_firstRowAt_0 (47, (.if_icmp .gt 33, 3)) (List.mem_of_getElem? (i := 28) rfl)
theorem dX7_firstRowAt_50 : decode cX7_firstRowAt 50 = .ok (.aload_n 0, 1) := dgX7_firstRowAt_0 (50, (.aload_n 0, 1)) (List.mem_of_getElem? (i := 29) rfl)
theorem dX7_firstRowAt_51 : decode cX7_firstRowAt 51 = .ok (.iload_n 2, 1) := dgX7_firstRowAt_0 (51, (.iload_n 2, 1)) (List.mem_of_getElem? (i := 30) rfl)
theorem dX7_firstRowAt_52 : decode cX7_firstRowAt 52 = .ok (.iload 4, 2) := dgX7_firstRowAt_0 (52, (.iload 4, 2)) (List.mem_of_getElem? (i := 31) rfl)
theorem dX7_firstRowAt_54 : decode cX7_firstRowAt 54 = .ok (.iload_n 3, 1) := dgX7_firstRowAt_0 (54, (.iload_n 3, 1)) (List.mem_of_getElem? (i := 32) rfl)
theorem dX7_firstRowAt_55 : decode cX7_firstRowAt 55 = .ok (.invokevirtual 127, 3) := dgX7_firstRowAt_0 (55, (.invokevirtual 127, 3)) (List.mem_of_getElem? (i := 33) rfl)
theorem dX7_firstRowAt_58 : decode cX7_firstRowAt 58 = .ok (.istore_n 2, 1) := dgX7_firstRowAt_0 (58, (.istore_n 2, 1)) (List.mem_of_getElem? (i := 34) rfl)
theorem dX7_firstRowAt_59 : decode cX7_firstRowAt 59 = .ok (.iload_n 3, 1) := dgX7_firstRowAt_0 (59, (.iload_n 3, 1)) (List.mem_of_getElem? (i := 35) rfl)
theorem dX7_firstRowAt_60 : decode cX7_firstRowAt 60 = .ok (.aload_n 0, 1) := dgX7_firstRowAt_0 (60, (.aload_n 0, 1)) (List.mem_of_getElem? (i := 36) rfl)
theorem dX7_firstRowAt_61 : decode cX7_firstRowAt 61 = .ok (.getfield 15, 3) := dgX7_firstRowAt_0 (61, (.getfield 15, 3)) (List.mem_of_getElem? (i := 37) rfl)
theorem dX7_firstRowAt_64 : decode cX7_firstRowAt 64 = .ok (.iload 4, 2) := dgX7_firstRowAt_0 (64, (.iload 4, 2)) (List.mem_of_getElem? (i := 38) rfl)
theorem dX7_firstRowAt_66 : decode cX7_firstRowAt 66 = .ok (.bipush 64, 2) := dgX7_firstRowAt_0 (66, (.bipush 64, 2)) (List.mem_of_getElem? (i := 39) rfl)
theorem dgX7_firstRowAt_1 : ∀ r ∈ ([(68, (.imul, 1)), (69, (.iload_n 2, 1)), (70, (.iadd, 1)), (71, (.iaload, 1)), (72, (.ior, 1)), (73, (.istore_n 3, 1)), (74, (.iinc 4 1, 3)), (77, (.goto (-33), 3)), (80, (.iload_n 2, 1)), (81, (.ireturn, 1))] : List (Nat × (Instr × Nat))), decode cX7_firstRowAt r.1 = .ok r.2 := by decide +kernel
theorem dX7_firstRowAt_68 : decode cX7_firstRowAt 68 = .ok (.imul, 1) := dgX7_firstRowAt_1 (68, (.imul, 1)) (List.mem_of_getElem? (i := 0) rfl)
theorem dX7_firstRowAt_69 : decode cX7_firstRowAt 69 = .ok (.iload_n 2, 1) := dgX7_firstRowAt_1 (69, (.iload_n 2, 1)) (List.mem_of_getElem? (i := 1) rfl)
theorem dX7_firstRowAt_70 : decode cX7_firstRowAt 70 = .ok (.iadd, 1) := dgX7_firstRowAt_1 (70, (.iadd, 1)) (List.mem_of_getElem? (i := 2) rfl)
theorem dX7_firstRowAt_71 : decode cX7_firstRowAt 71 = .ok (.iaload, 1) := dgX7_firstRowAt_1 (71, (.iaload, 1)) (List.mem_of_getElem? (i := 3) rfl)
theorem dX7_firstRowAt_72 : decode cX7_firstRowAt 72 = .ok (.ior, 1) := dgX7_firstRowAt_1 (72, (.ior, 1)) (List.mem_of_getElem? (i := 4) rfl)
theorem dX7_firstRowAt_73 : decode cX7_firstRowAt 73 = .ok (.istore_n 3, 1) := dgX7_firstRowAt_1 (73, (.istore_n 3, 1)) (List.mem_of_getElem? (i := 5) rfl)
theorem dX7_firstRowAt_74 : decode cX7_firstRowAt 74 = .ok (.iinc 4 1, 3) := dgX7_firstRowAt_1 (74, (.iinc 4 1, 3)) (List.mem_of_getElem? (i := 6) rfl)
theorem dX7_firstRowAt_77 : decode cX7_firstRowAt 77 = .ok (.goto (-33), 3) := dgX7_firstRowAt_1 (77, (.goto (-33), 3)) (List.mem_of_getElem? (i := 7) rfl)
theorem dX7_firstRowAt_80 : decode cX7_firstRowAt 80 = .ok (.iload_n 2, 1) := dgX7_firstRowAt_1 (80, (.iload_n 2, 1)) (List.mem_of_getElem? (i := 8) rfl)
theorem dX7_firstRowAt_81 : decode cX7_firstRowAt 81 = .ok (.ireturn, 1) := dgX7_firstRowAt_1 (81, (.ireturn, 1)) (List.mem_of_getElem? (i := 9) rfl)
theorem ml_X7_117 : Cond.methodLink RX7 117 yX7_anyFits ∈ tblG := tg 996 (by decide +kernel) (by decide +kernel)
theorem im_X7_anyFits : Cond.instanceMethod yX7_anyFits ∈ tblG := tg 998 (by decide +kernel) (by decide +kernel)
theorem se_X7_anyFits : Cond.selects RX7 yX7_anyFits yX7_anyFits ∈ tblG := tg 22 (by decide +kernel) (by decide +kernel)
theorem cd_X7_anyFits : Cond.code yX7_anyFits cX7_anyFits 5 (some .boolean) ∈ tblG := tg 999 (by decide +kernel) (by decide +kernel)
theorem gW_X7_anyFits : GoodIn tblG (wsG yX7_anyFits cX7_anyFits 5 (some .boolean)) := tgi cd_X7_anyFits
theorem gV_X7_117 : GoodIn tblG (wsV RX7 117 RX7 yX7_anyFits (wsG yX7_anyFits cX7_anyFits 5 (some .boolean))) := tgV ml_X7_117 im_X7_anyFits se_X7_anyFits ini_X7 gW_X7_anyFits
theorem hv_X7_anyFits : yX7_anyFits.cls = RX7 ∧ yX7_anyFits.cls ≠ "java/lang/invoke/MethodHandle" ∧ yX7_anyFits.cls ≠ "java/lang/invoke/VarHandle" ∧ (parseMethodDescriptor yX7_anyFits.desc).map (fun d => d.parameters.length) = some 0 := by decide +kernel
theorem ml_X7_127 : Cond.methodLink RX7 127 yX7_lowestNext ∈ tblG := tg 1024 (by decide +kernel) (by decide +kernel)
theorem im_X7_lowestNext : Cond.instanceMethod yX7_lowestNext ∈ tblG := tg 1026 (by decide +kernel) (by decide +kernel)
theorem se_X7_lowestNext : Cond.selects RX7 yX7_lowestNext yX7_lowestNext ∈ tblG := tg 25 (by decide +kernel) (by decide +kernel)
theorem cd_X7_lowestNext : Cond.code yX7_lowestNext cX7_lowestNext 6 (some .int) ∈ tblG := tg 1027 (by decide +kernel) (by decide +kernel)
theorem gW_X7_lowestNext : GoodIn tblG (wsG yX7_lowestNext cX7_lowestNext 6 (some .int)) := tgi cd_X7_lowestNext
theorem gV_X7_127 : GoodIn tblG (wsV RX7 127 RX7 yX7_lowestNext (wsG yX7_lowestNext cX7_lowestNext 6 (some .int))) := tgV ml_X7_127 im_X7_lowestNext se_X7_lowestNext ini_X7 gW_X7_lowestNext
theorem hv_X7_lowestNext : yX7_lowestNext.cls = RX7 ∧ yX7_lowestNext.cls ≠ "java/lang/invoke/MethodHandle" ∧ yX7_lowestNext.cls ≠ "java/lang/invoke/VarHandle" ∧ (parseMethodDescriptor yX7_lowestNext.desc).map (fun d => d.parameters.length) = some 3 := by decide +kernel
set_option maxHeartbeats 4000000 in
set_option maxRecDepth 100000 in
theorem th_row (l : Launch) (G : g5_G) (a_th a_ba a_ad a_hp a_h a_k a_cn a_nx a_hl a_lv : Nat) (sz : Nat) (e_fu : Int32) (p_h : Int32) (f_ba : Nat → Int64) (f_ad : Nat → Int32) (f_hp : Nat → Int32) (h_p_h : 0 ≤ p_h.toInt ∧ p_h.toInt ≤ 23) : Met l yX7_firstRowAt (wsG yX7_firstRowAt cX7_firstRowAt 5 (some .int)) ({ frames := 3, cells := 0, slots := 0, locals := 70 }) (va_Pc [.ref a_th, .int p_h] (g5_P G [(a_th, (oc7 a_h a_k a_ba a_ad e_fu a_cn a_nx a_hp a_hl a_lv)), (a_ba, (arJ G 24 f_ba)), (a_ad, (arI G 1536 f_ad)), (a_hp, (arI G 1536 f_hp))] sz)) (va_Qi (fun (r : Int32) (u : va_W) => (∃ (o_r : Int32) (o_f : Nat → Int32), (-1 ≤ o_r.toInt ∧ o_r.toInt ≤ 63) ∧ (r = o_r) ∧ (u = [(a_th, (oc7 a_h a_k a_ba a_ad e_fu a_cn a_nx a_hp a_hl a_lv)), (a_ba, (arJ G 24 f_ba)), (a_ad, (arI G 1536 f_ad)), (a_hp, (arI G 1536 o_f))]))) (g5_B G (va_A [(a_th, (oc7 a_h a_k a_ba a_ad e_fu a_cn a_nx a_hp a_hl a_lv)), (a_ba, (arJ G 24 f_ba)), (a_ad, (arI G 1536 f_ad)), (a_hp, (arI G 1536 f_hp))] sz)) (va_A [(a_th, (oc7 a_h a_k a_ba a_ad e_fu a_cn a_nx a_hp a_hl a_lv)), (a_ba, (arJ G 24 f_ba)), (a_ad, (arI G 1536 f_ad)), (a_hp, (arI G 1536 f_hp))] sz)) 0 0 (va_A [(a_th, (oc7 a_h a_k a_ba a_ad e_fu a_cn a_nx a_hp a_hl a_lv)), (a_ba, (arJ G 24 f_ba)), (a_ad, (arI G 1536 f_ad)), (a_hp, (arI G 1536 f_hp))] sz) := by
  refine Met.ofW (cc := cX7_firstRowAt) (maxL := 5) (ret := (some .int)) (by decide) rfl ?_
  intro p e s m args below meth c s₁ B hml hv
  obtain ⟨rfl, hsz, hP, hK, hD0, hN, hT⟩ := hv
  have hx := B.exec
  have hb := B.bytes
  have hr := B.returns
  have hts : ∀ w ∈ tblG, w.before _ s = true := fun w h => atoms_spec (ws := (wsG yX7_firstRowAt cX7_firstRowAt 5 (some .int))) B.pre w (List.mem_cons_of_mem _ h)
  have hown : s.vm.findClass RX7 = some m.cls := findClass_of_methodNamed B.named
  have hlocks := B.notSynchronized
  subst hsz
  have hD := hD0.self (sz := s.heap.size)
  generalize hAe : va_A [(a_th, (oc7 a_h a_k a_ba a_ad e_fu a_cn a_nx a_hp a_hl a_lv)), (a_ba, (arJ G 24 f_ba)), (a_ad, (arI G 1536 f_ad)), (a_hp, (arI G 1536 f_hp))] s.heap.size = A at hD hT ⊢
  have hA : ∀ q : Nat, s.heap.size ≤ q → A q := fun q h => by rw [← hAe]; exact Or.inr h
  have hS : va_S A s.heap s.heap [] := va_S.rf
  have hP : va_P G.1 vwCl [(a_th, (oc7 a_h a_k a_ba a_ad e_fu a_cn a_nx a_hp a_hl a_lv)), (a_ba, (arJ G 24 f_ba)), (a_ad, (arI G 1536 f_ad)), (a_hp, (arI G 1536 f_hp))] s.heap := hP
  have hl := lv_entry ([.ref a_th, .int p_h]) (n := 5) (Nat.le_of_ble_eq_true rfl)
  rw [lg_entry_eq]
  generalize (lg_sl ([.ref a_th, .int p_h]) ++ List.replicate (5 - (lg_sl ([.ref a_th, .int p_h])).length) Slot.unset).toArray = ls at hl ⊢
  have hl : lv_has ls 5 [(0, .ref a_th), (1, .int p_h)] := hl
  refine lv_aload_n hx hb dX7_firstRowAt_0 rfl (lv_at hl 0 rfl) ?_
  obtain ⟨hPc, hDc, hFc⟩ := g5_sub3 (wc := [(a_th, (oc7 a_h a_k a_ba a_ad e_fu a_cn a_nx a_hp a_hl a_lv)), (a_ba, (arJ G 24 f_ba)), (a_ad, (arI G 1536 f_ad)), (a_hp, (arI G 1536 f_hp))]) hP hD hS hA [0, 1, 2, 3] (by decide) rfl
  refine va_calli (va_runV (As := []) (rest := []) ⟨hx, hb, hml, hown, hts⟩ (th_anyFits l G a_th a_ba a_ad a_hp a_h a_k a_cn a_nx a_hl a_lv s.heap.size e_fu f_ba f_ad f_hp) (cwV 0 hts gV_X7_117 rfl rfl rfl hv_X7_anyFits ⟨Nat.le_of_ble_eq_true rfl, Nat.le_of_ble_eq_true rfl⟩) (g5_preV hPc hK hDc hN hT hS hFc (ci := 7) (q0 := 0) rfl rfl) rfl rfl hl.1 rfl (lv_room (Nat.le_of_ble_eq_true rfl)) dX7_firstRowAt_1 ⟨Nat.le_of_ble_eq_true rfl, Nat.le_of_ble_eq_true rfl⟩) hS (fun q _ h => hFc q h) hFc (fun r u t H1 locs ht hvm hw hB hz1 hk1 hS => ?_)
  obtain ⟨hP1, hD1⟩ := hB
  rw [ht] at hP1
  obtain ⟨z2, z3, i_1, y4, rfl⟩ := hw
  have i_1 : 0 ≤ z2.toInt ∧ z2.toInt ≤ 1 := i_1
  obtain ⟨hP, hD⟩ := va_join (wr := []) hP hD [0, 1, 2, 3] [] rfl rfl (by decide) (by decide) hk1 hFc hP1 hD1
  generalize H1 = H at hP hS ⊢
  refine g5_rs [(a_th, (oc7 a_h a_k a_ba a_ad e_fu a_cn a_nx a_hp a_hl a_lv)), (a_ba, (arJ G 24 f_ba)), (a_ad, (arI G 1536 f_ad)), (a_hp, (arI G 1536 z3))] hP hD (fun hP hD => ?_)
  refine g5_ti (v := z2) y4 ?_
  refine lv_if_ne (tgt := 9) hx hb dX7_firstRowAt_4 (by decide) (fun c_5 => ?_) (fun c_5 => ?_)
  ·
    have n_5 : gNe (z2.toInt) (0) := by have z := g5_ne (a := z2.toInt) (b := 0) (by rfl) (by decide) c_5; unfold gNe; omega
    have i_5 : z2.toInt ≥ 1 := by have z := g5_ne (a := z2.toInt) (b := 0) (by rfl) (by decide) c_5; omega
    refine lv_iconst (v := 0) hx hb dX7_firstRowAt_9 (by decide) ?_
    refine lv_istore_n (lv' := [(2, .int 0), (0, .ref a_th), (1, .int p_h)]) hx hb dX7_firstRowAt_10 rfl hl (by decide) rfl (fun ls hl => ?_)
    refine g5_loop (α := (Int32)) (fun (k_a : (Int32)) (ls : Array Slot) (H : Heap) (locs : List Loc) => lv_has ls 5 [(2, .int k_a), (0, .ref a_th), (1, .int p_h)] ∧ va_P G.1 vwCl [(a_th, (oc7 a_h a_k a_ba a_ad e_fu a_cn a_nx a_hp a_hl a_lv)), (a_ba, (arJ G 24 f_ba)), (a_ad, (arI G 1536 f_ad)), (a_hp, (arI G 1536 z3))] H ∧ va_D A [(a_th, (oc7 a_h a_k a_ba a_ad e_fu a_cn a_nx a_hp a_hl a_lv)), (a_ba, (arJ G 24 f_ba)), (a_ad, (arI G 1536 f_ad)), (a_hp, (arI G 1536 z3))] ∧ va_S A s.heap H locs ∧ (0 ≤ k_a.toInt ∧ k_a.toInt ≤ 63)) (fun (k_a : (Int32)) => Int.toNat (63 - k_a.toInt)) 0 ⟨lv_sub hl [0, 1, 2] rfl, hP, hD, hS, ⟨by decide, by decide⟩⟩ ?_
    rintro k_a ls H locs ⟨hl, hP, hD, hS, i_6⟩ ih_11_7
    have hl : lv_has ls 5 [(2, .int k_a), (0, .ref a_th), (1, .int p_h)] := hl
    have i_6 : 0 ≤ k_a.toInt ∧ k_a.toInt ≤ 63 := i_6
    refine g5_rs [(a_th, (oc7 a_h a_k a_ba a_ad e_fu a_cn a_nx a_hp a_hl a_lv)), (a_ba, (arJ G 24 f_ba)), (a_ad, (arI G 1536 f_ad)), (a_hp, (arI G 1536 z3))] hP hD (fun hP hD => ?_)
    refine lv_iload_n hx hb dX7_firstRowAt_11 rfl (lv_at hl 0 rfl) ?_
    refine lv_bipush (v := 63) hx hb dX7_firstRowAt_12 (by decide) ?_
    refine lv_icmp_ge (tgt := 34) hx hb dX7_firstRowAt_14 (by decide) (fun c_8 => ?_) (fun c_8 => ?_)
    ·
      have i_8 : k_a.toInt ≥ 63 := by have z := g5_ge (a := k_a.toInt) (b := 63) (by rfl) (by decide) c_8; omega
      refine lv_aload_n hx hb dX7_firstRowAt_34 rfl (lv_at hl 1 rfl) ?_
      refine va_get (D := G.1) (ci := 7) (v := .ref a_ad) (C := RX7) (T := TX7) (N := 10) hx hb hts inG_X7 hown hK hP 0 rfl rfl 3 (by decide) (hts _ fl_X7_15) (fun _ h9 => h9) rfl dX7_firstRowAt_35 ?_
      refine lv_iload_n hx hb dX7_firstRowAt_38 rfl (lv_at hl 0 rfl) ?_
      refine va_iald hx hb hK hP 2 0 rfl rfl (i := k_a) (vp_in_iff.mpr ⟨by omega, by omega⟩) dX7_firstRowAt_39 ?_
      refine lv_istore_n (lv' := [(3, .int (f_ad k_a.toNatClampNeg)), (2, .int k_a), (0, .ref a_th), (1, .int p_h)]) hx hb dX7_firstRowAt_40 rfl hl (by decide) rfl (fun ls hl => ?_)
      refine lv_iconst (v := 1) hx hb dX7_firstRowAt_41 (by decide) ?_
      refine lv_istore (lv' := [(4, .int 1), (3, .int (f_ad k_a.toNatClampNeg)), (2, .int k_a), (0, .ref a_th), (1, .int p_h)]) hx hb dX7_firstRowAt_42 hl (by decide) rfl (fun ls hl => ?_)
      refine g5_loop (α := (Int32) × (Int32) × (Int32)) (fun (q : (Int32) × (Int32) × (Int32)) (ls : Array Slot) (H : Heap) (locs : List Loc) => match q with | (m_a, m_m, m_h) => lv_has ls 5 [(2, .int m_a), (3, .int m_m), (4, .int m_h), (0, .ref a_th), (1, .int p_h)] ∧ va_P G.1 vwCl [(a_th, (oc7 a_h a_k a_ba a_ad e_fu a_cn a_nx a_hp a_hl a_lv)), (a_ba, (arJ G 24 f_ba)), (a_ad, (arI G 1536 f_ad)), (a_hp, (arI G 1536 z3))] H ∧ va_D A [(a_th, (oc7 a_h a_k a_ba a_ad e_fu a_cn a_nx a_hp a_hl a_lv)), (a_ba, (arJ G 24 f_ba)), (a_ad, (arI G 1536 f_ad)), (a_hp, (arI G 1536 z3))] ∧ va_S A s.heap H locs ∧ (0 ≤ m_a.toInt ∧ m_a.toInt ≤ 63) ∧ (1 ≤ m_h.toInt ∧ m_h.toInt ≤ 24)) (fun (q : (Int32) × (Int32) × (Int32)) => match q with | (m_a, m_m, m_h) => Int.toNat (24 - m_h.toInt)) (k_a, (f_ad k_a.toNatClampNeg), 1) ⟨lv_sub hl [2, 1, 0, 3, 4] rfl, hP, hD, hS, i_6, ⟨by decide, by decide⟩⟩ ?_
      rintro ⟨m_a, m_m, m_h⟩ ls H locs ⟨hl, hP, hD, hS, i_9, i_10⟩ ih_44_11
      have hl : lv_has ls 5 [(2, .int m_a), (3, .int m_m), (4, .int m_h), (0, .ref a_th), (1, .int p_h)] := hl
      have i_9 : 0 ≤ m_a.toInt ∧ m_a.toInt ≤ 63 := i_9
      have i_10 : 1 ≤ m_h.toInt ∧ m_h.toInt ≤ 24 := i_10
      refine g5_rs [(a_th, (oc7 a_h a_k a_ba a_ad e_fu a_cn a_nx a_hp a_hl a_lv)), (a_ba, (arJ G 24 f_ba)), (a_ad, (arI G 1536 f_ad)), (a_hp, (arI G 1536 z3))] hP hD (fun hP hD => ?_)
      refine lv_iload hx hb dX7_firstRowAt_44 (lv_at hl 2 rfl) ?_
      refine lv_iload_n hx hb dX7_firstRowAt_46 rfl (lv_at hl 4 rfl) ?_
      refine lv_icmp_gt (tgt := 80) hx hb dX7_firstRowAt_47 (by decide) (fun c_12 => ?_) (fun c_12 => ?_)
      ·
        have i_12 : m_h.toInt > p_h.toInt := by have z := g5_gt (a := m_h.toInt) (b := p_h.toInt) (by rfl) (by rfl) c_12; omega
        refine lv_iload_n hx hb dX7_firstRowAt_80 rfl (lv_at hl 0 rfl) ?_
        exact W.iret (v := m_a) hx hb hr (fun t ht hW => ⟨⟨m_a, [(a_th, (oc7 a_h a_k a_ba a_ad e_fu a_cn a_nx a_hp a_hl a_lv)), (a_ba, (arJ G 24 f_ba)), (a_ad, (arI G 1536 f_ad)), (a_hp, (arI G 1536 z3))], rfl, ⟨m_a, z3, ⟨by omega, by omega⟩, rfl, rfl⟩, by rw [ht]; exact hP.sub [0, 1, 2, 3] rfl, hD.sub [0, 1, 2, 3] (by decide) rfl⟩, hS.F ht⟩) hS.2.2 dX7_firstRowAt_81
      ·
        have i_12 : m_h.toInt ≤ p_h.toInt := by have z := g5_gtN (a := m_h.toInt) (b := p_h.toInt) (by rfl) (by rfl) c_12; omega
        refine lv_aload_n hx hb dX7_firstRowAt_50 rfl (lv_at hl 3 rfl) ?_
        refine lv_iload_n hx hb dX7_firstRowAt_51 rfl (lv_at hl 0 rfl) ?_
        refine lv_iload hx hb dX7_firstRowAt_52 (lv_at hl 2 rfl) ?_
        refine lv_iload_n hx hb dX7_firstRowAt_54 rfl (lv_at hl 1 rfl) ?_
        obtain ⟨hPc, hDc, hFc⟩ := g5_sub3 (wc := [(a_th, (oc7 a_h a_k a_ba a_ad e_fu a_cn a_nx a_hp a_hl a_lv)), (a_hp, (arI G 1536 z3))]) hP hD hS hA [0, 3] (by decide) rfl
        refine va_calli (va_runV (As := [.int m_a, .int m_h, .int m_m]) (rest := []) ⟨hx, hb, hml, hown, hts⟩ (th_next l G a_th a_hp a_h a_k a_ba a_ad a_cn a_nx a_hl a_lv H.size e_fu m_a m_h m_m z3 i_9 ⟨by omega, by omega⟩) (cwV 3 hts gV_X7_127 rfl rfl rfl hv_X7_lowestNext ⟨Nat.le_of_ble_eq_true rfl, Nat.le_of_ble_eq_true rfl⟩) (g5_preV hPc hK hDc hN hT hS hFc (ci := 7) (q0 := 0) rfl rfl) rfl rfl hl.1 rfl (lv_room (Nat.le_of_ble_eq_true rfl)) dX7_firstRowAt_55 ⟨Nat.le_of_ble_eq_true rfl, Nat.le_of_ble_eq_true rfl⟩) hS (fun q _ h => hFc q h) hFc (fun r u t H1 locs ht hvm hw hB hz1 hk1 hS => ?_)
        obtain ⟨hP1, hD1⟩ := hB
        rw [ht] at hP1
        obtain ⟨z14, i_13, y15, rfl⟩ := hw
        have i_13 : 0 ≤ z14.toInt ∧ z14.toInt ≤ 63 := i_13
        obtain ⟨hP, hD⟩ := va_join (wr := [(a_ba, (arJ G 24 f_ba)), (a_ad, (arI G 1536 f_ad))]) hP hD [0, 3] [1, 2] rfl rfl (by decide) (by decide) hk1 hFc hP1 hD1
        generalize H1 = H at hP hS ⊢
        refine g5_rs [(a_ba, (arJ G 24 f_ba)), (a_ad, (arI G 1536 f_ad)), (a_th, (oc7 a_h a_k a_ba a_ad e_fu a_cn a_nx a_hp a_hl a_lv)), (a_hp, (arI G 1536 z3))] hP hD (fun hP hD => ?_)
        refine g5_ti (v := z14) y15 ?_
        refine lv_istore_n (lv' := [(2, .int z14), (3, .int m_m), (4, .int m_h), (0, .ref a_th), (1, .int p_h)]) hx hb dX7_firstRowAt_58 rfl hl (by decide) rfl (fun ls hl => ?_)
        refine lv_iload_n hx hb dX7_firstRowAt_59 rfl (lv_at hl 1 rfl) ?_
        refine lv_aload_n hx hb dX7_firstRowAt_60 rfl (lv_at hl 3 rfl) ?_
        refine va_get (D := G.1) (ci := 7) (v := .ref a_ad) (C := RX7) (T := TX7) (N := 10) hx hb hts inG_X7 hown hK hP 2 rfl rfl 3 (by decide) (hts _ fl_X7_15) (fun _ h9 => h9) rfl dX7_firstRowAt_61 ?_
        refine lv_iload hx hb dX7_firstRowAt_64 (lv_at hl 2 rfl) ?_
        refine lv_bipush (v := 64) hx hb dX7_firstRowAt_66 (by decide) ?_
        refine lv_imul hx hb dX7_firstRowAt_68 ?_
        have t_16 : (m_h * 64).toInt = m_h.toInt * 64 := g5_imul (a := m_h.toInt) (b := 64) (by rfl) (by decide) (by omega) (by omega)
        refine lv_iload_n hx hb dX7_firstRowAt_69 rfl (lv_at hl 0 rfl) ?_
        refine lv_iadd hx hb dX7_firstRowAt_70 ?_
        have t_17 : ((m_h * 64) + z14).toInt = (m_h * 64).toInt + z14.toInt := g5_iadd (a := (m_h * 64).toInt) (b := z14.toInt) (by rfl) (by rfl) (by omega) (by omega)
        refine va_iald hx hb hK hP 1 0 rfl rfl (i := ((m_h * 64) + z14)) (vp_in_iff.mpr ⟨by omega, by omega⟩) dX7_firstRowAt_71 ?_
        refine lv_ior hx hb dX7_firstRowAt_72 ?_
        refine lv_istore_n (lv' := [(3, .int (m_m ||| (f_ad ((m_h * 64) + z14).toNatClampNeg))), (2, .int z14), (4, .int m_h), (0, .ref a_th), (1, .int p_h)]) hx hb dX7_firstRowAt_73 rfl hl (by decide) rfl (fun ls hl => ?_)
        refine lv_iinc (v := (m_h + 1)) (lv' := [(4, .int (m_h + 1)), (3, .int (m_m ||| (f_ad ((m_h * 64) + z14).toNatClampNeg))), (2, .int z14), (0, .ref a_th), (1, .int p_h)]) hx hb dX7_firstRowAt_74 hl (k := 2) rfl rfl (by decide) rfl (fun ls hl => ?_)
        have t_18 : (m_h + 1).toInt = m_h.toInt + 1 := g5_iadd (a := m_h.toInt) (b := 1) rfl (by decide) (by omega) (by omega)
        refine lv_goto (tgt := 44) hx hb dX7_firstRowAt_77 (by decide) ?_
        exact ih_44_11 (z14, (m_m ||| (f_ad ((m_h * 64) + z14).toNatClampNeg)), (m_h + 1)) ls H locs (show Int.toNat (24 - (m_h + 1).toInt) < Int.toNat (24 - m_h.toInt) from g_up (show m_h.toInt < (m_h + 1).toInt by omega) (show m_h.toInt < 24 by omega)) ⟨lv_sub hl [2, 1, 0, 3, 4] rfl, hP.sub [2, 0, 1, 3] rfl, hD.sub [2, 0, 1, 3] (by decide) rfl, hS, i_13, ⟨by omega, by omega⟩⟩
    ·
      have i_8 : k_a.toInt < 63 := by have z := g5_geN (a := k_a.toInt) (b := 63) (by rfl) (by decide) c_8; omega
      refine lv_aload_n hx hb dX7_firstRowAt_17 rfl (lv_at hl 1 rfl) ?_
      refine va_get (D := G.1) (ci := 7) (v := .ref a_hp) (C := RX7) (T := TX7) (N := 10) hx hb hts inG_X7 hown hK hP 0 rfl rfl 7 (by decide) (hts _ fl_X7_25) (fun _ h9 => h9) rfl dX7_firstRowAt_18 ?_
      refine lv_iload_n hx hb dX7_firstRowAt_21 rfl (lv_at hl 0 rfl) ?_
      refine va_iald hx hb hK hP 3 0 rfl rfl (i := k_a) (vp_in_iff.mpr ⟨by omega, by omega⟩) dX7_firstRowAt_22 ?_
      refine lv_iconst (v := 1) hx hb dX7_firstRowAt_23 (by decide) ?_
      refine lv_iand hx hb dX7_firstRowAt_24 ?_
      refine lv_if_ne (tgt := 34) hx hb dX7_firstRowAt_25 (by decide) (fun c_19 => ?_) (fun c_19 => ?_)
      ·
        have n_19 : gNe (((z3 k_a.toNatClampNeg) &&& 1).toInt) (0) := by have z := g5_ne (a := ((z3 k_a.toNatClampNeg) &&& 1).toInt) (b := 0) (by rfl) (by decide) c_19; unfold gNe; omega
        refine lv_aload_n hx hb dX7_firstRowAt_34 rfl (lv_at hl 1 rfl) ?_
        refine va_get (D := G.1) (ci := 7) (v := .ref a_ad) (C := RX7) (T := TX7) (N := 10) hx hb hts inG_X7 hown hK hP 0 rfl rfl 3 (by decide) (hts _ fl_X7_15) (fun _ h9 => h9) rfl dX7_firstRowAt_35 ?_
        refine lv_iload_n hx hb dX7_firstRowAt_38 rfl (lv_at hl 0 rfl) ?_
        refine va_iald hx hb hK hP 2 0 rfl rfl (i := k_a) (vp_in_iff.mpr ⟨by omega, by omega⟩) dX7_firstRowAt_39 ?_
        refine lv_istore_n (lv' := [(3, .int (f_ad k_a.toNatClampNeg)), (2, .int k_a), (0, .ref a_th), (1, .int p_h)]) hx hb dX7_firstRowAt_40 rfl hl (by decide) rfl (fun ls hl => ?_)
        refine lv_iconst (v := 1) hx hb dX7_firstRowAt_41 (by decide) ?_
        refine lv_istore (lv' := [(4, .int 1), (3, .int (f_ad k_a.toNatClampNeg)), (2, .int k_a), (0, .ref a_th), (1, .int p_h)]) hx hb dX7_firstRowAt_42 hl (by decide) rfl (fun ls hl => ?_)
        refine g5_loop (α := (Int32) × (Int32) × (Int32)) (fun (q : (Int32) × (Int32) × (Int32)) (ls : Array Slot) (H : Heap) (locs : List Loc) => match q with | (m_a, m_m, m_h) => lv_has ls 5 [(2, .int m_a), (3, .int m_m), (4, .int m_h), (0, .ref a_th), (1, .int p_h)] ∧ va_P G.1 vwCl [(a_th, (oc7 a_h a_k a_ba a_ad e_fu a_cn a_nx a_hp a_hl a_lv)), (a_ba, (arJ G 24 f_ba)), (a_ad, (arI G 1536 f_ad)), (a_hp, (arI G 1536 z3))] H ∧ va_D A [(a_th, (oc7 a_h a_k a_ba a_ad e_fu a_cn a_nx a_hp a_hl a_lv)), (a_ba, (arJ G 24 f_ba)), (a_ad, (arI G 1536 f_ad)), (a_hp, (arI G 1536 z3))] ∧ va_S A s.heap H locs ∧ (0 ≤ m_a.toInt ∧ m_a.toInt ≤ 63) ∧ (1 ≤ m_h.toInt ∧ m_h.toInt ≤ 24)) (fun (q : (Int32) × (Int32) × (Int32)) => match q with | (m_a, m_m, m_h) => Int.toNat (24 - m_h.toInt)) (k_a, (f_ad k_a.toNatClampNeg), 1) ⟨lv_sub hl [2, 1, 0, 3, 4] rfl, hP, hD, hS, i_6, ⟨by decide, by decide⟩⟩ ?_
        rintro ⟨m_a, m_m, m_h⟩ ls H locs ⟨hl, hP, hD, hS, i_20, i_21⟩ ih_44_22
        have hl : lv_has ls 5 [(2, .int m_a), (3, .int m_m), (4, .int m_h), (0, .ref a_th), (1, .int p_h)] := hl
        have i_20 : 0 ≤ m_a.toInt ∧ m_a.toInt ≤ 63 := i_20
        have i_21 : 1 ≤ m_h.toInt ∧ m_h.toInt ≤ 24 := i_21
        refine g5_rs [(a_th, (oc7 a_h a_k a_ba a_ad e_fu a_cn a_nx a_hp a_hl a_lv)), (a_ba, (arJ G 24 f_ba)), (a_ad, (arI G 1536 f_ad)), (a_hp, (arI G 1536 z3))] hP hD (fun hP hD => ?_)
        refine lv_iload hx hb dX7_firstRowAt_44 (lv_at hl 2 rfl) ?_
        refine lv_iload_n hx hb dX7_firstRowAt_46 rfl (lv_at hl 4 rfl) ?_
        refine lv_icmp_gt (tgt := 80) hx hb dX7_firstRowAt_47 (by decide) (fun c_23 => ?_) (fun c_23 => ?_)
        ·
          have i_23 : m_h.toInt > p_h.toInt := by have z := g5_gt (a := m_h.toInt) (b := p_h.toInt) (by rfl) (by rfl) c_23; omega
          refine lv_iload_n hx hb dX7_firstRowAt_80 rfl (lv_at hl 0 rfl) ?_
          exact W.iret (v := m_a) hx hb hr (fun t ht hW => ⟨⟨m_a, [(a_th, (oc7 a_h a_k a_ba a_ad e_fu a_cn a_nx a_hp a_hl a_lv)), (a_ba, (arJ G 24 f_ba)), (a_ad, (arI G 1536 f_ad)), (a_hp, (arI G 1536 z3))], rfl, ⟨m_a, z3, ⟨by omega, by omega⟩, rfl, rfl⟩, by rw [ht]; exact hP.sub [0, 1, 2, 3] rfl, hD.sub [0, 1, 2, 3] (by decide) rfl⟩, hS.F ht⟩) hS.2.2 dX7_firstRowAt_81
        ·
          have i_23 : m_h.toInt ≤ p_h.toInt := by have z := g5_gtN (a := m_h.toInt) (b := p_h.toInt) (by rfl) (by rfl) c_23; omega
          refine lv_aload_n hx hb dX7_firstRowAt_50 rfl (lv_at hl 3 rfl) ?_
          refine lv_iload_n hx hb dX7_firstRowAt_51 rfl (lv_at hl 0 rfl) ?_
          refine lv_iload hx hb dX7_firstRowAt_52 (lv_at hl 2 rfl) ?_
          refine lv_iload_n hx hb dX7_firstRowAt_54 rfl (lv_at hl 1 rfl) ?_
          obtain ⟨hPc, hDc, hFc⟩ := g5_sub3 (wc := [(a_th, (oc7 a_h a_k a_ba a_ad e_fu a_cn a_nx a_hp a_hl a_lv)), (a_hp, (arI G 1536 z3))]) hP hD hS hA [0, 3] (by decide) rfl
          refine va_calli (va_runV (As := [.int m_a, .int m_h, .int m_m]) (rest := []) ⟨hx, hb, hml, hown, hts⟩ (th_next l G a_th a_hp a_h a_k a_ba a_ad a_cn a_nx a_hl a_lv H.size e_fu m_a m_h m_m z3 i_20 ⟨by omega, by omega⟩) (cwV 3 hts gV_X7_127 rfl rfl rfl hv_X7_lowestNext ⟨Nat.le_of_ble_eq_true rfl, Nat.le_of_ble_eq_true rfl⟩) (g5_preV hPc hK hDc hN hT hS hFc (ci := 7) (q0 := 0) rfl rfl) rfl rfl hl.1 rfl (lv_room (Nat.le_of_ble_eq_true rfl)) dX7_firstRowAt_55 ⟨Nat.le_of_ble_eq_true rfl, Nat.le_of_ble_eq_true rfl⟩) hS (fun q _ h => hFc q h) hFc (fun r u t H1 locs ht hvm hw hB hz1 hk1 hS => ?_)
          obtain ⟨hP1, hD1⟩ := hB
          rw [ht] at hP1
          obtain ⟨z25, i_24, y26, rfl⟩ := hw
          have i_24 : 0 ≤ z25.toInt ∧ z25.toInt ≤ 63 := i_24
          obtain ⟨hP, hD⟩ := va_join (wr := [(a_ba, (arJ G 24 f_ba)), (a_ad, (arI G 1536 f_ad))]) hP hD [0, 3] [1, 2] rfl rfl (by decide) (by decide) hk1 hFc hP1 hD1
          generalize H1 = H at hP hS ⊢
          refine g5_rs [(a_ba, (arJ G 24 f_ba)), (a_ad, (arI G 1536 f_ad)), (a_th, (oc7 a_h a_k a_ba a_ad e_fu a_cn a_nx a_hp a_hl a_lv)), (a_hp, (arI G 1536 z3))] hP hD (fun hP hD => ?_)
          refine g5_ti (v := z25) y26 ?_
          refine lv_istore_n (lv' := [(2, .int z25), (3, .int m_m), (4, .int m_h), (0, .ref a_th), (1, .int p_h)]) hx hb dX7_firstRowAt_58 rfl hl (by decide) rfl (fun ls hl => ?_)
          refine lv_iload_n hx hb dX7_firstRowAt_59 rfl (lv_at hl 1 rfl) ?_
          refine lv_aload_n hx hb dX7_firstRowAt_60 rfl (lv_at hl 3 rfl) ?_
          refine va_get (D := G.1) (ci := 7) (v := .ref a_ad) (C := RX7) (T := TX7) (N := 10) hx hb hts inG_X7 hown hK hP 2 rfl rfl 3 (by decide) (hts _ fl_X7_15) (fun _ h9 => h9) rfl dX7_firstRowAt_61 ?_
          refine lv_iload hx hb dX7_firstRowAt_64 (lv_at hl 2 rfl) ?_
          refine lv_bipush (v := 64) hx hb dX7_firstRowAt_66 (by decide) ?_
          refine lv_imul hx hb dX7_firstRowAt_68 ?_
          have t_27 : (m_h * 64).toInt = m_h.toInt * 64 := g5_imul (a := m_h.toInt) (b := 64) (by rfl) (by decide) (by omega) (by omega)
          refine lv_iload_n hx hb dX7_firstRowAt_69 rfl (lv_at hl 0 rfl) ?_
          refine lv_iadd hx hb dX7_firstRowAt_70 ?_
          have t_28 : ((m_h * 64) + z25).toInt = (m_h * 64).toInt + z25.toInt := g5_iadd (a := (m_h * 64).toInt) (b := z25.toInt) (by rfl) (by rfl) (by omega) (by omega)
          refine va_iald hx hb hK hP 1 0 rfl rfl (i := ((m_h * 64) + z25)) (vp_in_iff.mpr ⟨by omega, by omega⟩) dX7_firstRowAt_71 ?_
          refine lv_ior hx hb dX7_firstRowAt_72 ?_
          refine lv_istore_n (lv' := [(3, .int (m_m ||| (f_ad ((m_h * 64) + z25).toNatClampNeg))), (2, .int z25), (4, .int m_h), (0, .ref a_th), (1, .int p_h)]) hx hb dX7_firstRowAt_73 rfl hl (by decide) rfl (fun ls hl => ?_)
          refine lv_iinc (v := (m_h + 1)) (lv' := [(4, .int (m_h + 1)), (3, .int (m_m ||| (f_ad ((m_h * 64) + z25).toNatClampNeg))), (2, .int z25), (0, .ref a_th), (1, .int p_h)]) hx hb dX7_firstRowAt_74 hl (k := 2) rfl rfl (by decide) rfl (fun ls hl => ?_)
          have t_29 : (m_h + 1).toInt = m_h.toInt + 1 := g5_iadd (a := m_h.toInt) (b := 1) rfl (by decide) (by omega) (by omega)
          refine lv_goto (tgt := 44) hx hb dX7_firstRowAt_77 (by decide) ?_
          exact ih_44_22 (z25, (m_m ||| (f_ad ((m_h * 64) + z25).toNatClampNeg)), (m_h + 1)) ls H locs (show Int.toNat (24 - (m_h + 1).toInt) < Int.toNat (24 - m_h.toInt) from g_up (show m_h.toInt < (m_h + 1).toInt by omega) (show m_h.toInt < 24 by omega)) ⟨lv_sub hl [2, 1, 0, 3, 4] rfl, hP.sub [2, 0, 1, 3] rfl, hD.sub [2, 0, 1, 3] (by decide) rfl, hS, i_24, ⟨by omega, by omega⟩⟩
      ·
        have i_19 : ((z3 k_a.toNatClampNeg) &&& 1).toInt = 0 := by have z := g5_neN (a := ((z3 k_a.toNatClampNeg) &&& 1).toInt) (b := 0) (by rfl) (by decide) c_19; omega
        refine lv_iinc (v := (k_a + 1)) (lv' := [(2, .int (k_a + 1)), (0, .ref a_th), (1, .int p_h)]) hx hb dX7_firstRowAt_28 hl (k := 0) rfl rfl (by decide) rfl (fun ls hl => ?_)
        have t_30 : (k_a + 1).toInt = k_a.toInt + 1 := g5_iadd (a := k_a.toInt) (b := 1) rfl (by decide) (by omega) (by omega)
        refine lv_goto (tgt := 11) hx hb dX7_firstRowAt_31 (by decide) ?_
        exact ih_11_7 (k_a + 1) ls H locs (show Int.toNat (63 - (k_a + 1).toInt) < Int.toNat (63 - k_a.toInt) from g_up (show k_a.toInt < (k_a + 1).toInt by omega) (show k_a.toInt < 63 by omega)) ⟨lv_sub hl [0, 1, 2] rfl, hP, hD, hS, ⟨by omega, by omega⟩⟩
  ·
    have i_5 : z2.toInt = 0 := by have z := g5_neN (a := z2.toInt) (b := 0) (by rfl) (by decide) c_5; omega
    refine lv_iconst (v := (-1)) hx hb dX7_firstRowAt_7 (by decide) ?_
    exact W.iret (v := (-1)) hx hb hr (fun t ht hW => ⟨⟨(-1), [(a_th, (oc7 a_h a_k a_ba a_ad e_fu a_cn a_nx a_hp a_hl a_lv)), (a_ba, (arJ G 24 f_ba)), (a_ad, (arI G 1536 f_ad)), (a_hp, (arI G 1536 z3))], rfl, ⟨(-1), z3, ⟨by have zc_o_r : ((-1) : Int32).toInt = (-1) := (by decide); omega, by have zc_o_r : ((-1) : Int32).toInt = (-1) := (by decide); omega⟩, rfl, rfl⟩, by rw [ht]; exact hP.sub [0, 1, 2, 3] rfl, hD.sub [0, 1, 2, 3] (by decide) rfl⟩, hS.F ht⟩) hS.2.2 dX7_firstRowAt_8
theorem dgX7_holdIn_0 : ∀ r ∈ ([(0, (.iconst 0, 1)), (1, (.istore_n 2, 1)), (2, (.iload_n 2, 1)), (3, (.bipush 64, 2)), (5, (.if_icmp .ge 37, 3)), (8, (.aload_n 0, 1)), (9, (.getfield 31, 3)), (12, (.iload_n 2, 1)), (13, (.aload_n 0, 1)), (14, (.getfield 28, 3)), (17, (.iload_n 2, 1)), (18, (.iaload, 1)), (19, (.aload_n 0, 1)), (20, (.getfield 15, 3)), (23, (.iload_n 1, 1)), (24, (.iconst 1, 1)), (25, (.isub, 1)), (26, (.bipush 64, 2)), (28, (.imul, 1)), (29, (.iload_n 2, 1)), (30, (.iadd, 1)), (31, (.iaload, 1)), (32, (.invokestatic 124, 3)), (35, (.iastore, 1)), (36, (.iinc 2 1, 3)), (39, (.goto (-37), 3)), (42, (.iconst 0, 1)), (43, (.istore_n 2, 1)), (44, (.iload_n 2, 1)), (45, (.bipush 64, 2)), (47, (.if_icmp .ge 74, 3)), (50, (.iconst 0, 1)), (51, (.istore_n 3, 1)), (52, (.iconst 0, 1)), (53, (.istore 4, 2)), (55, (.iload 4, 2)), (57, (.iconst 4, 1)), (58, (.if_icmp .gt 50, 3)), (61, (.aload_n 0, 1)), (62, (.getfield 9, 3))] : List (Nat × (Instr × Nat))), decode cX7_holdIn r.1 = .ok r.2 := by decide +kernel
theorem dX7_holdIn_0 : decode cX7_holdIn 0 = .ok (.iconst 0, 1) := dgX7_holdIn_0 (0, (.iconst 0, 1)) (List.mem_of_getElem? (i := 0) rfl)
theorem dX7_holdIn_1 : decode cX7_holdIn 1 = .ok (.istore_n 2, 1) := dgX7_holdIn_0 (1, (.istore_n 2, 1)) (List.mem_of_getElem? (i := 1) rfl)
theorem dX7_holdIn_2 : decode cX7_holdIn 2 = .ok (.iload_n 2, 1) := dgX7_holdIn_0 (2, (.iload_n 2, 1)) (List.mem_of_getElem? (i := 2) rfl)
theorem dX7_holdIn_3 : decode cX7_holdIn 3 = .ok (.bipush 64, 2) := dgX7_holdIn_0 (3, (.bipush 64, 2)) (List.mem_of_getElem? (i := 3) rfl)
theorem dX7_holdIn_5 : decode cX7_holdIn 5 = .ok (.if_icmp .ge 37, 3) := dgX7_holdIn_0 (5, (.if_icmp .ge 37, 3)) (List.mem_of_getElem? (i := 4) rfl)
theorem dX7_holdIn_8 : decode cX7_holdIn 8 = .ok (.aload_n 0, 1) := dgX7_holdIn_0 (8, (.aload_n 0, 1)) (List.mem_of_getElem? (i := 5) rfl)
theorem dX7_holdIn_9 : decode cX7_holdIn 9 = .ok (.getfield 31, 3) := dgX7_holdIn_0 (9, (.getfield 31, 3)) (List.mem_of_getElem? (i := 6) rfl)
theorem dX7_holdIn_12 : decode cX7_holdIn 12 = .ok (.iload_n 2, 1) := dgX7_holdIn_0 (12, (.iload_n 2, 1)) (List.mem_of_getElem? (i := 7) rfl)
theorem dX7_holdIn_13 : decode cX7_holdIn 13 = .ok (.aload_n 0, 1) := dgX7_holdIn_0 (13, (.aload_n 0, 1)) (List.mem_of_getElem? (i := 8) rfl)
theorem dX7_holdIn_14 : decode cX7_holdIn 14 = .ok (.getfield 28, 3) := dgX7_holdIn_0 (14, (.getfield 28, 3)) (List.mem_of_getElem? (i := 9) rfl)
theorem dX7_holdIn_17 : decode cX7_holdIn 17 = .ok (.iload_n 2, 1) := dgX7_holdIn_0 (17, (.iload_n 2, 1)) (List.mem_of_getElem? (i := 10) rfl)
theorem dX7_holdIn_18 : decode cX7_holdIn 18 = .ok (.iaload, 1) := dgX7_holdIn_0 (18, (.iaload, 1)) (List.mem_of_getElem? (i := 11) rfl)
theorem dX7_holdIn_19 : decode cX7_holdIn 19 = .ok (.aload_n 0, 1) := dgX7_holdIn_0 (19, (.aload_n 0, 1)) (List.mem_of_getElem? (i := 12) rfl)
theorem dX7_holdIn_20 : decode cX7_holdIn 20 = .ok (.getfield 15, 3) := dgX7_holdIn_0 (20, (.getfield 15, 3)) (List.mem_of_getElem? (i := 13) rfl)
theorem dX7_holdIn_23 : decode cX7_holdIn 23 = .ok (.iload_n 1, 1) := dgX7_holdIn_0 (23, (.iload_n 1, 1)) (List.mem_of_getElem? (i := 14) rfl)
theorem dX7_holdIn_24 : decode cX7_holdIn 24 = .ok (.iconst 1, 1) := dgX7_holdIn_0 (24, (.iconst 1, 1)) (List.mem_of_getElem? (i := 15) rfl)
theorem dX7_holdIn_25 : decode cX7_holdIn 25 = .ok (.isub, 1) := dgX7_holdIn_0 (25, (.isub, 1)) (List.mem_of_getElem? (i := 16) rfl)
theorem dX7_holdIn_26 : decode cX7_holdIn 26 = .ok (.bipush 64, 2) := dgX7_holdIn_0 (26, (.bipush 64, 2)) (List.mem_of_getElem? (i := 17) rfl)
theorem dX7_holdIn_28 : decode cX7_holdIn 28 = .ok (.imul, 1) := dgX7_holdIn_0 (28, (.imul, 1)) (List.mem_of_getElem? (i := 18) rfl)
theorem dX7_holdIn_29 : decode cX7_holdIn 29 = .ok (.iload_n 2, 1) := dgX7_holdIn_0 (29, (.iload_n 2, 1)) (List.mem_of_getElem? (i := 19) rfl)
theorem dX7_holdIn_30 : decode cX7_holdIn 30 = .ok (.iadd, 1) := dgX7_holdIn_0 (30, (.iadd, 1)) (List.mem_of_getElem? (i := 20) rfl)
theorem dX7_holdIn_31 : decode cX7_holdIn 31 = .ok (.iaload, 1) := dgX7_holdIn_0 (31, (.iaload, 1)) (List.mem_of_getElem? (i := 21) rfl)
theorem dX7_holdIn_32 : decode cX7_holdIn 32 = .ok (.invokestatic 124, 3) := dgX7_holdIn_0 (32, (.invokestatic 124, 3)) (List.mem_of_getElem? (i := 22) rfl)
theorem dX7_holdIn_35 : decode cX7_holdIn 35 = .ok (.iastore, 1) := dgX7_holdIn_0 (35, (.iastore, 1)) (List.mem_of_getElem? (i := 23) rfl)
theorem dX7_holdIn_36 : decode cX7_holdIn 36 = .ok (.iinc 2 1, 3) := dgX7_holdIn_0 (36, (.iinc 2 1, 3)) (List.mem_of_getElem? (i := 24) rfl)
theorem dX7_holdIn_39 : decode cX7_holdIn 39 = .ok (.goto (-37), 3) := dgX7_holdIn_0 (39, (.goto (-37), 3)) (List.mem_of_getElem? (i := 25) rfl)
theorem dX7_holdIn_42 : decode cX7_holdIn 42 = .ok (.iconst 0, 1) := dgX7_holdIn_0 (42, (.iconst 0, 1)) (List.mem_of_getElem? (i := 26) rfl)
theorem dX7_holdIn_43 : decode cX7_holdIn 43 = .ok (.istore_n 2, 1) := dgX7_holdIn_0 (43, (.istore_n 2, 1)) (List.mem_of_getElem? (i := 27) rfl)
theorem dX7_holdIn_44 : decode cX7_holdIn 44 = .ok (.iload_n 2, 1) := dgX7_holdIn_0 (44, (.iload_n 2, 1)) (List.mem_of_getElem? (i := 28) rfl)
theorem dX7_holdIn_45 : decode cX7_holdIn 45 = .ok (.bipush 64, 2) := dgX7_holdIn_0 (45, (.bipush 64, 2)) (List.mem_of_getElem? (i := 29) rfl)
theorem dX7_holdIn_47 : decode cX7_holdIn 47 = .ok (.if_icmp .ge 74, 3) := dgX7_holdIn_0 (47, (.if_icmp .ge 74, 3)) (List.mem_of_getElem? (i := 30) rfl)
theorem dX7_holdIn_50 : decode cX7_holdIn 50 = .ok (.iconst 0, 1) := dgX7_holdIn_0 (50, (.iconst 0, 1)) (List.mem_of_getElem? (i := 31) rfl)
theorem dX7_holdIn_51 : decode cX7_holdIn 51 = .ok (.istore_n 3, 1) := dgX7_holdIn_0 (51, (.istore_n 3, 1)) (List.mem_of_getElem? (i := 32) rfl)
theorem dX7_holdIn_52 : decode cX7_holdIn 52 = .ok (.iconst 0, 1) := dgX7_holdIn_0 (52, (.iconst 0, 1)) (List.mem_of_getElem? (i := 33) rfl)
theorem dX7_holdIn_53 : decode cX7_holdIn 53 = .ok (.istore 4, 2) := dgX7_holdIn_0 (53, (.istore 4, 2)) (List.mem_of_getElem? (i := 34) rfl)
theorem dX7_holdIn_55 : decode cX7_holdIn 55 = .ok (.iload 4, 2) := dgX7_holdIn_0 (55, (.iload 4, 2)) (List.mem_of_getElem? (i := 35) rfl)
theorem dX7_holdIn_57 : decode cX7_holdIn 57 = .ok (.iconst 4, 1) := dgX7_holdIn_0 (57, (.iconst 4, 1)) (List.mem_of_getElem? (i := 36) rfl)
theorem dX7_holdIn_58 : decode cX7_holdIn 58 = .ok (.if_icmp .gt 50, 3) := dgX7_holdIn_0 (58, (.if_icmp .gt 50, 3)) (List.mem_of_getElem? (i := 37) rfl)
theorem dX7_holdIn_61 : decode cX7_holdIn 61 = .ok (.aload_n 0, 1) := dgX7_holdIn_0 (61, (.aload_n 0, 1)) (List.mem_of_getElem? (i := 38) rfl)
theorem dX7_holdIn_62 : decode cX7_holdIn 62 = .ok (.getfield 9, 3) := dgX7_holdIn_0 (62, (.getfield 9, 3)) (List.mem_of_getElem? (i := 39) rfl)
theorem dgX7_holdIn_1 : ∀ r ∈ ([(65, (.iload_n 1, 1)), (66, (.laload, 1)), (67, (.iload_n 2, 1)), (68, (.invokestatic 98, 3)), (71, (.ifCond .ne 37, 3)), (74, (.iload_n 2, 1)), (75, (.iload 4, 2)), (77, (.invokestatic 105, 3)), (80, (.istore 5, 2)), (82, (.iload_n 3, 1)), (83, (.iload 5, 2)), (85, (.iconst (-1), 1)), (86, (.if_icmp .ne 7, 3)), (89, (.iconst 0, 1)), (90, (.goto 10, 3)), (93, (.aload_n 0, 1)), (94, (.getfield 31, 3)), (97, (.iload 5, 2)), (99, (.iaload, 1)), (100, (.ior, 1)), (101, (.istore_n 3, 1)), (102, (.iinc 4 1, 3)), (105, (.goto (-50), 3)), (108, (.aload_n 0, 1)), (109, (.getfield 28, 3)), (112, (.iload_n 2, 1)), (113, (.iload_n 3, 1)), (114, (.iastore, 1)), (115, (.iinc 2 1, 3)), (118, (.goto (-74), 3)), (121, (.return_, 1))] : List (Nat × (Instr × Nat))), decode cX7_holdIn r.1 = .ok r.2 := by decide +kernel
theorem dX7_holdIn_65 : decode cX7_holdIn 65 = .ok (.iload_n 1, 1) := dgX7_holdIn_1 (65, (.iload_n 1, 1)) (List.mem_of_getElem? (i := 0) rfl)
theorem dX7_holdIn_66 : decode cX7_holdIn 66 = .ok (.laload, 1) := dgX7_holdIn_1 (66, (.laload, 1)) (List.mem_of_getElem? (i := 1) rfl)
theorem dX7_holdIn_67 : decode cX7_holdIn 67 = .ok (.iload_n 2, 1) := dgX7_holdIn_1 (67, (.iload_n 2, 1)) (List.mem_of_getElem? (i := 2) rfl)
theorem dX7_holdIn_68 : decode cX7_holdIn 68 = .ok (.invokestatic 98, 3) := dgX7_holdIn_1 (68, (.invokestatic 98, 3)) (List.mem_of_getElem? (i := 3) rfl)
theorem dX7_holdIn_71 : decode cX7_holdIn 71 = .ok (.ifCond .ne 37, 3) := dgX7_holdIn_1 (71, (.ifCond .ne 37, 3)) (List.mem_of_getElem? (i := 4) rfl)
theorem dX7_holdIn_74 : decode cX7_holdIn 74 = .ok (.iload_n 2, 1) := dgX7_holdIn_1 (74, (.iload_n 2, 1)) (List.mem_of_getElem? (i := 5) rfl)
theorem dX7_holdIn_75 : decode cX7_holdIn 75 = .ok (.iload 4, 2) := dgX7_holdIn_1 (75, (.iload 4, 2)) (List.mem_of_getElem? (i := 6) rfl)
theorem dX7_holdIn_77 : decode cX7_holdIn 77 = .ok (.invokestatic 105, 3) := dgX7_holdIn_1 (77, (.invokestatic 105, 3)) (List.mem_of_getElem? (i := 7) rfl)
theorem dX7_holdIn_80 : decode cX7_holdIn 80 = .ok (.istore 5, 2) := dgX7_holdIn_1 (80, (.istore 5, 2)) (List.mem_of_getElem? (i := 8) rfl)
theorem dX7_holdIn_82 : decode cX7_holdIn 82 = .ok (.iload_n 3, 1) := dgX7_holdIn_1 (82, (.iload_n 3, 1)) (List.mem_of_getElem? (i := 9) rfl)
theorem dX7_holdIn_83 : decode cX7_holdIn 83 = .ok (.iload 5, 2) := dgX7_holdIn_1 (83, (.iload 5, 2)) (List.mem_of_getElem? (i := 10) rfl)
theorem dX7_holdIn_85 : decode cX7_holdIn 85 = .ok (.iconst (-1), 1) := dgX7_holdIn_1 (85, (.iconst (-1), 1)) (List.mem_of_getElem? (i := 11) rfl)
theorem dX7_holdIn_86 : decode cX7_holdIn 86 = .ok (.if_icmp .ne 7, 3) := dgX7_holdIn_1 (86, (.if_icmp .ne 7, 3)) (List.mem_of_getElem? (i := 12) rfl)
theorem dX7_holdIn_89 : decode cX7_holdIn 89 = .ok (.iconst 0, 1) := dgX7_holdIn_1 (89, (.iconst 0, 1)) (List.mem_of_getElem? (i := 13) rfl)
theorem dX7_holdIn_90 : decode cX7_holdIn 90 = .ok (.goto 10, 3) := dgX7_holdIn_1 (90, (.goto 10, 3)) (List.mem_of_getElem? (i := 14) rfl)
theorem dX7_holdIn_93 : decode cX7_holdIn 93 = .ok (.aload_n 0, 1) := dgX7_holdIn_1 (93, (.aload_n 0, 1)) (List.mem_of_getElem? (i := 15) rfl)
theorem dX7_holdIn_94 : decode cX7_holdIn 94 = .ok (.getfield 31, 3) := dgX7_holdIn_1 (94, (.getfield 31, 3)) (List.mem_of_getElem? (i := 16) rfl)
theorem dX7_holdIn_97 : decode cX7_holdIn 97 = .ok (.iload 5, 2) := dgX7_holdIn_1 (97, (.iload 5, 2)) (List.mem_of_getElem? (i := 17) rfl)
theorem dX7_holdIn_99 : decode cX7_holdIn 99 = .ok (.iaload, 1) := dgX7_holdIn_1 (99, (.iaload, 1)) (List.mem_of_getElem? (i := 18) rfl)
theorem dX7_holdIn_100 : decode cX7_holdIn 100 = .ok (.ior, 1) := dgX7_holdIn_1 (100, (.ior, 1)) (List.mem_of_getElem? (i := 19) rfl)
theorem dX7_holdIn_101 : decode cX7_holdIn 101 = .ok (.istore_n 3, 1) := dgX7_holdIn_1 (101, (.istore_n 3, 1)) (List.mem_of_getElem? (i := 20) rfl)
theorem dX7_holdIn_102 : decode cX7_holdIn 102 = .ok (.iinc 4 1, 3) := dgX7_holdIn_1 (102, (.iinc 4 1, 3)) (List.mem_of_getElem? (i := 21) rfl)
theorem dX7_holdIn_105 : decode cX7_holdIn 105 = .ok (.goto (-50), 3) := dgX7_holdIn_1 (105, (.goto (-50), 3)) (List.mem_of_getElem? (i := 22) rfl)
theorem dX7_holdIn_108 : decode cX7_holdIn 108 = .ok (.aload_n 0, 1) := dgX7_holdIn_1 (108, (.aload_n 0, 1)) (List.mem_of_getElem? (i := 23) rfl)
theorem dX7_holdIn_109 : decode cX7_holdIn 109 = .ok (.getfield 28, 3) := dgX7_holdIn_1 (109, (.getfield 28, 3)) (List.mem_of_getElem? (i := 24) rfl)
theorem dX7_holdIn_112 : decode cX7_holdIn 112 = .ok (.iload_n 2, 1) := dgX7_holdIn_1 (112, (.iload_n 2, 1)) (List.mem_of_getElem? (i := 25) rfl)
theorem dX7_holdIn_113 : decode cX7_holdIn 113 = .ok (.iload_n 3, 1) := dgX7_holdIn_1 (113, (.iload_n 3, 1)) (List.mem_of_getElem? (i := 26) rfl)
theorem dX7_holdIn_114 : decode cX7_holdIn 114 = .ok (.iastore, 1) := dgX7_holdIn_1 (114, (.iastore, 1)) (List.mem_of_getElem? (i := 27) rfl)
theorem dX7_holdIn_115 : decode cX7_holdIn 115 = .ok (.iinc 2 1, 3) := dgX7_holdIn_1 (115, (.iinc 2 1, 3)) (List.mem_of_getElem? (i := 28) rfl)
theorem dX7_holdIn_118 : decode cX7_holdIn 118 = .ok (.goto (-74), 3) := dgX7_holdIn_1 (118, (.goto (-74), 3)) (List.mem_of_getElem? (i := 29) rfl)
theorem dX7_holdIn_121 : decode cX7_holdIn 121 = .ok (.return_, 1) := dgX7_holdIn_1 (121, (.return_, 1)) (List.mem_of_getElem? (i := 30) rfl)
theorem fl_X7_28 : Cond.fieldLink RX7 28 "LateGlass$Thief" "held" "[I" ∈ tblG := tg 326 (by decide +kernel) (by decide +kernel)
theorem fl_X7_31 : Cond.fieldLink RX7 31 "LateGlass$Thief" "leaving" "[I" ∈ tblG := tg 327 (by decide +kernel) (by decide +kernel)
theorem ml_X7_124 : Cond.methodLink RX7 124 yX7_masksAfter ∈ tblG := tg 1013 (by decide +kernel) (by decide +kernel)
theorem st_X7_masksAfter : Cond.static yX7_masksAfter ∈ tblG := tg 1014 (by decide +kernel) (by decide +kernel)
theorem cd_X7_masksAfter : Cond.code yX7_masksAfter cX7_masksAfter 4 (some .int) ∈ tblG := tg 1015 (by decide +kernel) (by decide +kernel)
theorem gW_X7_masksAfter : GoodIn tblG (wsG yX7_masksAfter cX7_masksAfter 4 (some .int)) := tgi cd_X7_masksAfter
theorem gS_X7_124 : GoodIn tblG (va_wsS RX7 124 yX7_masksAfter (wsG yX7_masksAfter cX7_masksAfter 4 (some .int))) := tgS ml_X7_124 st_X7_masksAfter ini_X7 gW_X7_masksAfter
theorem hs_X7_masksAfter : yX7_masksAfter.cls ≠ "java/lang/invoke/MethodHandle" ∧ yX7_masksAfter.cls ≠ "java/lang/invoke/VarHandle" ∧ (parseMethodDescriptor yX7_masksAfter.desc).map (fun d => d.parameters.length) = some 2 := by decide +kernel
set_option maxHeartbeats 4000000 in
set_option maxRecDepth 100000 in
theorem th_hold (l : Launch) (G : g5_G) (a_th a_ba a_ad a_hl a_lv a_h a_k a_cn a_nx a_hp : Nat) (sz : Nat) (e_fu : Int32) (p_h : Int32) (f_ba : Nat → Int64) (f_ad : Nat → Int32) (f_hl : Nat → Int32) (f_lv : Nat → Int32) (h_p_h : 1 ≤ p_h.toInt ∧ p_h.toInt ≤ 23) : Met l yX7_holdIn (wsG yX7_holdIn cX7_holdIn 6 none) ({ frames := 1, cells := 0, slots := 0, locals := 23 }) (va_Pc [.ref a_th, .int p_h] (g5_P G [(a_th, (oc7 a_h a_k a_ba a_ad e_fu a_cn a_nx a_hp a_hl a_lv)), (a_ba, (arJ G 24 f_ba)), (a_ad, (arI G 1536 f_ad)), (a_hl, (arI G 64 f_hl)), (a_lv, (arI G 64 f_lv))] sz)) (va_Qv (fun (u : va_W) => (∃ (o_f : Nat → Int32) (o_g : Nat → Int32), (u = [(a_th, (oc7 a_h a_k a_ba a_ad e_fu a_cn a_nx a_hp a_hl a_lv)), (a_ba, (arJ G 24 f_ba)), (a_ad, (arI G 1536 f_ad)), (a_hl, (arI G 64 o_f)), (a_lv, (arI G 64 o_g))]))) (g5_B G (va_A [(a_th, (oc7 a_h a_k a_ba a_ad e_fu a_cn a_nx a_hp a_hl a_lv)), (a_ba, (arJ G 24 f_ba)), (a_ad, (arI G 1536 f_ad)), (a_hl, (arI G 64 f_hl)), (a_lv, (arI G 64 f_lv))] sz)) (va_A [(a_th, (oc7 a_h a_k a_ba a_ad e_fu a_cn a_nx a_hp a_hl a_lv)), (a_ba, (arJ G 24 f_ba)), (a_ad, (arI G 1536 f_ad)), (a_hl, (arI G 64 f_hl)), (a_lv, (arI G 64 f_lv))] sz)) 0 0 (va_A [(a_th, (oc7 a_h a_k a_ba a_ad e_fu a_cn a_nx a_hp a_hl a_lv)), (a_ba, (arJ G 24 f_ba)), (a_ad, (arI G 1536 f_ad)), (a_hl, (arI G 64 f_hl)), (a_lv, (arI G 64 f_lv))] sz) := by
  refine Met.ofW (cc := cX7_holdIn) (maxL := 6) (ret := none) (by decide) rfl ?_
  intro p e s m args below meth c s₁ B hml hv
  obtain ⟨rfl, hsz, hP, hK, hD0, hN, hT⟩ := hv
  have hx := B.exec
  have hb := B.bytes
  have hr := B.returns
  have hts : ∀ w ∈ tblG, w.before _ s = true := fun w h => atoms_spec (ws := (wsG yX7_holdIn cX7_holdIn 6 none)) B.pre w (List.mem_cons_of_mem _ h)
  have hown : s.vm.findClass RX7 = some m.cls := findClass_of_methodNamed B.named
  have hlocks := B.notSynchronized
  subst hsz
  have hD := hD0.self (sz := s.heap.size)
  generalize hAe : va_A [(a_th, (oc7 a_h a_k a_ba a_ad e_fu a_cn a_nx a_hp a_hl a_lv)), (a_ba, (arJ G 24 f_ba)), (a_ad, (arI G 1536 f_ad)), (a_hl, (arI G 64 f_hl)), (a_lv, (arI G 64 f_lv))] s.heap.size = A at hD hT ⊢
  have hA : ∀ q : Nat, s.heap.size ≤ q → A q := fun q h => by rw [← hAe]; exact Or.inr h
  have hS : va_S A s.heap s.heap [] := va_S.rf
  have hP : va_P G.1 vwCl [(a_th, (oc7 a_h a_k a_ba a_ad e_fu a_cn a_nx a_hp a_hl a_lv)), (a_ba, (arJ G 24 f_ba)), (a_ad, (arI G 1536 f_ad)), (a_hl, (arI G 64 f_hl)), (a_lv, (arI G 64 f_lv))] s.heap := hP
  have hl := lv_entry ([.ref a_th, .int p_h]) (n := 6) (Nat.le_of_ble_eq_true rfl)
  rw [lg_entry_eq]
  generalize (lg_sl ([.ref a_th, .int p_h]) ++ List.replicate (6 - (lg_sl ([.ref a_th, .int p_h])).length) Slot.unset).toArray = ls at hl ⊢
  have hl : lv_has ls 6 [(0, .ref a_th), (1, .int p_h)] := hl
  refine lv_iconst (v := 0) hx hb dX7_holdIn_0 (by decide) ?_
  refine lv_istore_n (lv' := [(2, .int 0), (0, .ref a_th), (1, .int p_h)]) hx hb dX7_holdIn_1 rfl hl (by decide) rfl (fun ls hl => ?_)
  refine g5_loop (α := (Int32) × (Nat → Int32)) (fun (q : (Int32) × (Nat → Int32)) (ls : Array Slot) (H : Heap) (locs : List Loc) => match q with | (k_i, k_f) => lv_has ls 6 [(2, .int k_i), (0, .ref a_th), (1, .int p_h)] ∧ va_P G.1 vwCl [(a_th, (oc7 a_h a_k a_ba a_ad e_fu a_cn a_nx a_hp a_hl a_lv)), (a_ba, (arJ G 24 f_ba)), (a_ad, (arI G 1536 f_ad)), (a_hl, (arI G 64 f_hl)), (a_lv, (arI G 64 k_f))] H ∧ va_D A [(a_th, (oc7 a_h a_k a_ba a_ad e_fu a_cn a_nx a_hp a_hl a_lv)), (a_ba, (arJ G 24 f_ba)), (a_ad, (arI G 1536 f_ad)), (a_hl, (arI G 64 f_hl)), (a_lv, (arI G 64 k_f))] ∧ va_S A s.heap H locs ∧ (0 ≤ k_i.toInt ∧ k_i.toInt ≤ 64)) (fun (q : (Int32) × (Nat → Int32)) => match q with | (k_i, k_f) => Int.toNat (64 - k_i.toInt)) (0, f_lv) ⟨lv_sub hl [0, 1, 2] rfl, hP, hD, hS, ⟨by decide, by decide⟩⟩ ?_
  rintro ⟨k_i, k_f⟩ ls H locs ⟨hl, hP, hD, hS, i_1⟩ ih_2_2
  have hl : lv_has ls 6 [(2, .int k_i), (0, .ref a_th), (1, .int p_h)] := hl
  have i_1 : 0 ≤ k_i.toInt ∧ k_i.toInt ≤ 64 := i_1
  refine g5_rs [(a_th, (oc7 a_h a_k a_ba a_ad e_fu a_cn a_nx a_hp a_hl a_lv)), (a_ba, (arJ G 24 f_ba)), (a_ad, (arI G 1536 f_ad)), (a_hl, (arI G 64 f_hl)), (a_lv, (arI G 64 k_f))] hP hD (fun hP hD => ?_)
  refine lv_iload_n hx hb dX7_holdIn_2 rfl (lv_at hl 0 rfl) ?_
  refine lv_bipush (v := 64) hx hb dX7_holdIn_3 (by decide) ?_
  refine lv_icmp_ge (tgt := 42) hx hb dX7_holdIn_5 (by decide) (fun c_3 => ?_) (fun c_3 => ?_)
  ·
    have i_3 : k_i.toInt ≥ 64 := by have z := g5_ge (a := k_i.toInt) (b := 64) (by rfl) (by decide) c_3; omega
    refine lv_iconst (v := 0) hx hb dX7_holdIn_42 (by decide) ?_
    refine lv_istore_n (lv' := [(2, .int 0), (0, .ref a_th), (1, .int p_h)]) hx hb dX7_holdIn_43 rfl hl (by decide) rfl (fun ls hl => ?_)
    refine g5_loop (α := (Int32) × (Nat → Int32)) (fun (q : (Int32) × (Nat → Int32)) (ls : Array Slot) (H : Heap) (locs : List Loc) => match q with | (m_i, m_f) => lv_has ls 6 [(2, .int m_i), (0, .ref a_th), (1, .int p_h)] ∧ va_P G.1 vwCl [(a_th, (oc7 a_h a_k a_ba a_ad e_fu a_cn a_nx a_hp a_hl a_lv)), (a_ba, (arJ G 24 f_ba)), (a_ad, (arI G 1536 f_ad)), (a_hl, (arI G 64 m_f)), (a_lv, (arI G 64 k_f))] H ∧ va_D A [(a_th, (oc7 a_h a_k a_ba a_ad e_fu a_cn a_nx a_hp a_hl a_lv)), (a_ba, (arJ G 24 f_ba)), (a_ad, (arI G 1536 f_ad)), (a_hl, (arI G 64 m_f)), (a_lv, (arI G 64 k_f))] ∧ va_S A s.heap H locs ∧ (0 ≤ m_i.toInt ∧ m_i.toInt ≤ 64)) (fun (q : (Int32) × (Nat → Int32)) => match q with | (m_i, m_f) => Int.toNat (64 - m_i.toInt)) (0, f_hl) ⟨lv_sub hl [0, 1, 2] rfl, hP, hD, hS, ⟨by decide, by decide⟩⟩ ?_
    rintro ⟨m_i, m_f⟩ ls H locs ⟨hl, hP, hD, hS, i_4⟩ ih_44_5
    have hl : lv_has ls 6 [(2, .int m_i), (0, .ref a_th), (1, .int p_h)] := hl
    have i_4 : 0 ≤ m_i.toInt ∧ m_i.toInt ≤ 64 := i_4
    refine g5_rs [(a_th, (oc7 a_h a_k a_ba a_ad e_fu a_cn a_nx a_hp a_hl a_lv)), (a_ba, (arJ G 24 f_ba)), (a_ad, (arI G 1536 f_ad)), (a_hl, (arI G 64 m_f)), (a_lv, (arI G 64 k_f))] hP hD (fun hP hD => ?_)
    refine lv_iload_n hx hb dX7_holdIn_44 rfl (lv_at hl 0 rfl) ?_
    refine lv_bipush (v := 64) hx hb dX7_holdIn_45 (by decide) ?_
    refine lv_icmp_ge (tgt := 121) hx hb dX7_holdIn_47 (by decide) (fun c_6 => ?_) (fun c_6 => ?_)
    ·
      have i_6 : m_i.toInt ≥ 64 := by have z := g5_ge (a := m_i.toInt) (b := 64) (by rfl) (by decide) c_6; omega
      exact W.vret hx hb hr (fun t ht hW => ⟨⟨[(a_th, (oc7 a_h a_k a_ba a_ad e_fu a_cn a_nx a_hp a_hl a_lv)), (a_ba, (arJ G 24 f_ba)), (a_ad, (arI G 1536 f_ad)), (a_hl, (arI G 64 m_f)), (a_lv, (arI G 64 k_f))], rfl, ⟨m_f, k_f, rfl⟩, by rw [ht]; exact hP.sub [0, 1, 2, 3, 4] rfl, hD.sub [0, 1, 2, 3, 4] (by decide) rfl⟩, hS.F ht⟩) hS.2.2 dX7_holdIn_121
    ·
      have i_6 : m_i.toInt < 64 := by have z := g5_geN (a := m_i.toInt) (b := 64) (by rfl) (by decide) c_6; omega
      refine lv_iconst (v := 0) hx hb dX7_holdIn_50 (by decide) ?_
      refine lv_istore_n (lv' := [(3, .int 0), (2, .int m_i), (0, .ref a_th), (1, .int p_h)]) hx hb dX7_holdIn_51 rfl hl (by decide) rfl (fun ls hl => ?_)
      refine lv_iconst (v := 0) hx hb dX7_holdIn_52 (by decide) ?_
      refine lv_istore (lv' := [(4, .int 0), (3, .int 0), (2, .int m_i), (0, .ref a_th), (1, .int p_h)]) hx hb dX7_holdIn_53 hl (by decide) rfl (fun ls hl => ?_)
      refine g5_loop (α := (Int32) × (Int32)) (fun (q : (Int32) × (Int32)) (ls : Array Slot) (H : Heap) (locs : List Loc) => match q with | (n_w, n_t) => lv_has ls 6 [(3, .int n_t), (4, .int n_w), (2, .int m_i), (0, .ref a_th), (1, .int p_h)] ∧ va_P G.1 vwCl [(a_th, (oc7 a_h a_k a_ba a_ad e_fu a_cn a_nx a_hp a_hl a_lv)), (a_ba, (arJ G 24 f_ba)), (a_ad, (arI G 1536 f_ad)), (a_hl, (arI G 64 m_f)), (a_lv, (arI G 64 k_f))] H ∧ va_D A [(a_th, (oc7 a_h a_k a_ba a_ad e_fu a_cn a_nx a_hp a_hl a_lv)), (a_ba, (arJ G 24 f_ba)), (a_ad, (arI G 1536 f_ad)), (a_hl, (arI G 64 m_f)), (a_lv, (arI G 64 k_f))] ∧ va_S A s.heap H locs ∧ (0 ≤ n_w.toInt ∧ n_w.toInt ≤ 5)) (fun (q : (Int32) × (Int32)) => match q with | (n_w, n_t) => Int.toNat (5 - n_w.toInt)) (0, 0) ⟨lv_sub hl [1, 0, 2, 3, 4] rfl, hP, hD, hS, ⟨by decide, by decide⟩⟩ ?_
      rintro ⟨n_w, n_t⟩ ls H locs ⟨hl, hP, hD, hS, i_7⟩ ih_55_8
      have hl : lv_has ls 6 [(3, .int n_t), (4, .int n_w), (2, .int m_i), (0, .ref a_th), (1, .int p_h)] := hl
      have i_7 : 0 ≤ n_w.toInt ∧ n_w.toInt ≤ 5 := i_7
      refine g5_rs [(a_th, (oc7 a_h a_k a_ba a_ad e_fu a_cn a_nx a_hp a_hl a_lv)), (a_ba, (arJ G 24 f_ba)), (a_ad, (arI G 1536 f_ad)), (a_hl, (arI G 64 m_f)), (a_lv, (arI G 64 k_f))] hP hD (fun hP hD => ?_)
      refine lv_iload hx hb dX7_holdIn_55 (lv_at hl 1 rfl) ?_
      refine lv_iconst (v := 4) hx hb dX7_holdIn_57 (by decide) ?_
      refine lv_icmp_gt (tgt := 108) hx hb dX7_holdIn_58 (by decide) (fun c_9 => ?_) (fun c_9 => ?_)
      ·
        have i_9 : n_w.toInt > 4 := by have z := g5_gt (a := n_w.toInt) (b := 4) (by rfl) (by decide) c_9; omega
        refine lv_aload_n hx hb dX7_holdIn_108 rfl (lv_at hl 3 rfl) ?_
        refine va_get (D := G.1) (ci := 7) (v := .ref a_hl) (C := RX7) (T := TX7) (N := 10) hx hb hts inG_X7 hown hK hP 0 rfl rfl 8 (by decide) (hts _ fl_X7_28) (fun _ h9 => h9) rfl dX7_holdIn_109 ?_
        refine lv_iload_n hx hb dX7_holdIn_112 rfl (lv_at hl 2 rfl) ?_
        refine lv_iload_n hx hb dX7_holdIn_113 rfl (lv_at hl 0 rfl) ?_
        refine va_iast hx hb hK hP hD hS 3 0 rfl rfl (i := m_i) (x := n_t) (vp_in_iff.mpr ⟨by omega, by omega⟩) dX7_holdIn_114 (fun H locs hP hD hS => ?_)
        refine g5_rs [(a_th, (oc7 a_h a_k a_ba a_ad e_fu a_cn a_nx a_hp a_hl a_lv)), (a_ba, (arJ G 24 f_ba)), (a_ad, (arI G 1536 f_ad)), (a_hl, (arI G 64 (upd m_f m_i.toNatClampNeg n_t))), (a_lv, (arI G 64 k_f))] hP hD (fun hP hD => ?_)
        refine lv_iinc (v := (m_i + 1)) (lv' := [(2, .int (m_i + 1)), (3, .int n_t), (4, .int n_w), (0, .ref a_th), (1, .int p_h)]) hx hb dX7_holdIn_115 hl (k := 2) rfl rfl (by decide) rfl (fun ls hl => ?_)
        have t_10 : (m_i + 1).toInt = m_i.toInt + 1 := g5_iadd (a := m_i.toInt) (b := 1) rfl (by decide) (by omega) (by omega)
        refine lv_goto (tgt := 44) hx hb dX7_holdIn_118 (by decide) ?_
        exact ih_44_5 ((m_i + 1), (upd m_f m_i.toNatClampNeg n_t)) ls H locs (show Int.toNat (64 - (m_i + 1).toInt) < Int.toNat (64 - m_i.toInt) from g_up (show m_i.toInt < (m_i + 1).toInt by omega) (show m_i.toInt < 64 by omega)) ⟨lv_sub hl [0, 3, 4] rfl, hP, hD, hS, ⟨by omega, by omega⟩⟩
      ·
        have i_9 : n_w.toInt ≤ 4 := by have z := g5_gtN (a := n_w.toInt) (b := 4) (by rfl) (by decide) c_9; omega
        refine lv_aload_n hx hb dX7_holdIn_61 rfl (lv_at hl 3 rfl) ?_
        refine va_get (D := G.1) (ci := 7) (v := .ref a_ba) (C := RX7) (T := TX7) (N := 10) hx hb hts inG_X7 hown hK hP 0 rfl rfl 2 (by decide) (hts _ fl_X7_9) (fun _ h9 => h9) rfl dX7_holdIn_62 ?_
        refine lv_iload_n hx hb dX7_holdIn_65 rfl (lv_at hl 4 rfl) ?_
        refine va_lald hx hb hK hP 1 1 rfl rfl (i := p_h) (vp_in_iff.mpr ⟨by omega, by omega⟩) dX7_holdIn_66 ?_
        refine lv_iload_n hx hb dX7_holdIn_67 rfl (lv_at hl 2 rfl) ?_
        obtain ⟨hPc, hDc, hFc⟩ := g5_sub3 (wc := []) hP hD hS hA [] (by decide) rfl
        refine va_calli (va_runSN (As := [.long (f_ba p_h.toNatClampNeg), .int m_i]) (rest := []) ⟨hx, hb, hml, hown, hts⟩ (k_isOn l G H.size m_i (f_ba p_h.toNatClampNeg) ⟨by omega, by omega⟩) ⟨va_cnB 2 hts gW_X11_isOn rfl rfl rfl (hN.1 _ g5_nw_X7_98) (hts _ ini_X11) hs_X11_isOn ⟨Nat.le_of_ble_eq_true rfl, Nat.le_of_ble_eq_true rfl⟩, hts _ st_X11_isOn, trivial⟩ (g5_preS hPc hK hDc hN hT hS hFc) rfl rfl hl.1 rfl (lv_room (Nat.le_of_ble_eq_true rfl)) dX7_holdIn_68 ⟨Nat.le_of_ble_eq_true rfl, Nat.le_of_ble_eq_true rfl⟩) hS (fun q _ h => hFc q h) hFc (fun r u t H1 locs ht hvm hw hB hz1 hk1 hS => ?_)
        obtain ⟨hP1, hD1⟩ := hB
        rw [ht] at hP1
        rcases hw with ⟨i_11, rfl, rfl⟩ | ⟨i_12, rfl, rfl⟩
        ·
          have i_11 : onB (f_ba p_h.toNatClampNeg) m_i.toInt = false := i_11
          have hP := g5_same hP hk1
          generalize H1 = H at hP hS ⊢
          refine lv_if_ne (tgt := 108) hx hb dX7_holdIn_71 (by decide) (fun c_13 => ?_) (fun c_13 => ?_)
          ·
            exact absurd c_13 (by decide)
          ·
            refine lv_iload_n hx hb dX7_holdIn_74 rfl (lv_at hl 2 rfl) ?_
            refine lv_iload hx hb dX7_holdIn_75 (lv_at hl 1 rfl) ?_
            obtain ⟨hPc, hDc, hFc⟩ := g5_sub3 (wc := []) hP hD hS hA [] (by decide) rfl
            refine va_calli (va_runSN (As := [.int m_i, .int n_w]) (rest := []) ⟨hx, hb, hml, hown, hts⟩ (k_beside l G H.size m_i n_w ⟨by omega, by omega⟩) ⟨va_cnB 2 hts gW_X11_beside rfl rfl rfl (hN.1 _ g5_nw_X7_105) (hts _ ini_X11) hs_X11_beside ⟨Nat.le_of_ble_eq_true rfl, Nat.le_of_ble_eq_true rfl⟩, hts _ st_X11_beside, trivial⟩ (g5_preS hPc hK hDc hN hT hS hFc) rfl rfl hl.1 rfl (lv_room (Nat.le_of_ble_eq_true rfl)) dX7_holdIn_77 ⟨Nat.le_of_ble_eq_true rfl, Nat.le_of_ble_eq_true rfl⟩) hS (fun q _ h => hFc q h) hFc (fun r u t H1 locs ht hvm hw hB hz1 hk1 hS => ?_)
            obtain ⟨hP1, hD1⟩ := hB
            rw [ht] at hP1
            obtain ⟨z16, i_14, i_15, y17, rfl⟩ := hw
            have i_14 : z16.toInt = bs m_i.toInt n_w.toInt := i_14
            have i_15 : -1 ≤ z16.toInt ∧ z16.toInt ≤ 63 := i_15
            have hP := g5_same hP hk1
            generalize H1 = H at hP hS ⊢
            refine g5_ti (v := z16) y17 ?_
            refine lv_istore (lv' := [(5, .int z16), (3, .int n_t), (4, .int n_w), (2, .int m_i), (0, .ref a_th), (1, .int p_h)]) hx hb dX7_holdIn_80 hl (by decide) rfl (fun ls hl => ?_)
            refine lv_iload_n hx hb dX7_holdIn_82 rfl (lv_at hl 1 rfl) ?_
            refine lv_iload hx hb dX7_holdIn_83 (lv_at hl 0 rfl) ?_
            refine lv_iconst (v := (-1)) hx hb dX7_holdIn_85 (by decide) ?_
            refine lv_icmp_ne (tgt := 93) hx hb dX7_holdIn_86 (by decide) (fun c_18 => ?_) (fun c_18 => ?_)
            ·
              have n_18 : gNe (z16.toInt) ((-1)) := by have z := g5_ne (a := z16.toInt) (b := (-1)) (by rfl) (by decide) c_18; unfold gNe; omega
              have i_18 : z16.toInt ≥ 0 := by have z := g5_ne (a := z16.toInt) (b := (-1)) (by rfl) (by decide) c_18; omega
              refine lv_aload_n hx hb dX7_holdIn_93 rfl (lv_at hl 4 rfl) ?_
              refine va_get (D := G.1) (ci := 7) (v := .ref a_lv) (C := RX7) (T := TX7) (N := 10) hx hb hts inG_X7 hown hK hP 0 rfl rfl 9 (by decide) (hts _ fl_X7_31) (fun _ h9 => h9) rfl dX7_holdIn_94 ?_
              refine lv_iload hx hb dX7_holdIn_97 (lv_at hl 0 rfl) ?_
              refine va_iald hx hb hK hP 4 0 rfl rfl (i := z16) (vp_in_iff.mpr ⟨by omega, by omega⟩) dX7_holdIn_99 ?_
              refine lv_ior hx hb dX7_holdIn_100 ?_
              refine lv_istore_n (lv' := [(3, .int (n_t ||| (k_f z16.toNatClampNeg))), (5, .int z16), (4, .int n_w), (2, .int m_i), (0, .ref a_th), (1, .int p_h)]) hx hb dX7_holdIn_101 rfl hl (by decide) rfl (fun ls hl => ?_)
              refine lv_iinc (v := (n_w + 1)) (lv' := [(4, .int (n_w + 1)), (3, .int (n_t ||| (k_f z16.toNatClampNeg))), (5, .int z16), (2, .int m_i), (0, .ref a_th), (1, .int p_h)]) hx hb dX7_holdIn_102 hl (k := 2) rfl rfl (by decide) rfl (fun ls hl => ?_)
              have t_19 : (n_w + 1).toInt = n_w.toInt + 1 := g5_iadd (a := n_w.toInt) (b := 1) rfl (by decide) (by omega) (by omega)
              refine lv_goto (tgt := 55) hx hb dX7_holdIn_105 (by decide) ?_
              exact ih_55_8 ((n_w + 1), (n_t ||| (k_f z16.toNatClampNeg))) ls H locs (show Int.toNat (5 - (n_w + 1).toInt) < Int.toNat (5 - n_w.toInt) from g_up (show n_w.toInt < (n_w + 1).toInt by omega) (show n_w.toInt < 5 by omega)) ⟨lv_sub hl [1, 0, 3, 4, 5] rfl, hP, hD, hS, ⟨by omega, by omega⟩⟩
            ·
              have i_18 : z16.toInt = (-1) := by have z := g5_neN (a := z16.toInt) (b := (-1)) (by rfl) (by decide) c_18; omega
              refine lv_iconst (v := 0) hx hb dX7_holdIn_89 (by decide) ?_
              refine lv_goto (tgt := 100) hx hb dX7_holdIn_90 (by decide) ?_
              refine lv_ior hx hb dX7_holdIn_100 ?_
              refine g5_ti (v := n_t) (by simp) ?_
              refine lv_istore_n (lv' := [(3, .int n_t), (5, .int z16), (4, .int n_w), (2, .int m_i), (0, .ref a_th), (1, .int p_h)]) hx hb dX7_holdIn_101 rfl hl (by decide) rfl (fun ls hl => ?_)
              refine lv_iinc (v := (n_w + 1)) (lv' := [(4, .int (n_w + 1)), (3, .int n_t), (5, .int z16), (2, .int m_i), (0, .ref a_th), (1, .int p_h)]) hx hb dX7_holdIn_102 hl (k := 2) rfl rfl (by decide) rfl (fun ls hl => ?_)
              have t_20 : (n_w + 1).toInt = n_w.toInt + 1 := g5_iadd (a := n_w.toInt) (b := 1) rfl (by decide) (by omega) (by omega)
              refine lv_goto (tgt := 55) hx hb dX7_holdIn_105 (by decide) ?_
              exact ih_55_8 ((n_w + 1), n_t) ls H locs (show Int.toNat (5 - (n_w + 1).toInt) < Int.toNat (5 - n_w.toInt) from g_up (show n_w.toInt < (n_w + 1).toInt by omega) (show n_w.toInt < 5 by omega)) ⟨lv_sub hl [1, 0, 3, 4, 5] rfl, hP, hD, hS, ⟨by omega, by omega⟩⟩
        ·
          have i_12 : onB (f_ba p_h.toNatClampNeg) m_i.toInt = true := i_12
          have hP := g5_same hP hk1
          generalize H1 = H at hP hS ⊢
          refine lv_if_ne (tgt := 108) hx hb dX7_holdIn_71 (by decide) (fun c_21 => ?_) (fun c_21 => ?_)
          ·
            refine lv_aload_n hx hb dX7_holdIn_108 rfl (lv_at hl 3 rfl) ?_
            refine va_get (D := G.1) (ci := 7) (v := .ref a_hl) (C := RX7) (T := TX7) (N := 10) hx hb hts inG_X7 hown hK hP 0 rfl rfl 8 (by decide) (hts _ fl_X7_28) (fun _ h9 => h9) rfl dX7_holdIn_109 ?_
            refine lv_iload_n hx hb dX7_holdIn_112 rfl (lv_at hl 2 rfl) ?_
            refine lv_iload_n hx hb dX7_holdIn_113 rfl (lv_at hl 0 rfl) ?_
            refine va_iast hx hb hK hP hD hS 3 0 rfl rfl (i := m_i) (x := n_t) (vp_in_iff.mpr ⟨by omega, by omega⟩) dX7_holdIn_114 (fun H locs hP hD hS => ?_)
            refine g5_rs [(a_th, (oc7 a_h a_k a_ba a_ad e_fu a_cn a_nx a_hp a_hl a_lv)), (a_ba, (arJ G 24 f_ba)), (a_ad, (arI G 1536 f_ad)), (a_hl, (arI G 64 (upd m_f m_i.toNatClampNeg n_t))), (a_lv, (arI G 64 k_f))] hP hD (fun hP hD => ?_)
            refine lv_iinc (v := (m_i + 1)) (lv' := [(2, .int (m_i + 1)), (3, .int n_t), (4, .int n_w), (0, .ref a_th), (1, .int p_h)]) hx hb dX7_holdIn_115 hl (k := 2) rfl rfl (by decide) rfl (fun ls hl => ?_)
            have t_22 : (m_i + 1).toInt = m_i.toInt + 1 := g5_iadd (a := m_i.toInt) (b := 1) rfl (by decide) (by omega) (by omega)
            refine lv_goto (tgt := 44) hx hb dX7_holdIn_118 (by decide) ?_
            exact ih_44_5 ((m_i + 1), (upd m_f m_i.toNatClampNeg n_t)) ls H locs (show Int.toNat (64 - (m_i + 1).toInt) < Int.toNat (64 - m_i.toInt) from g_up (show m_i.toInt < (m_i + 1).toInt by omega) (show m_i.toInt < 64 by omega)) ⟨lv_sub hl [0, 3, 4] rfl, hP, hD, hS, ⟨by omega, by omega⟩⟩
          ·
            exact absurd c_21 (by decide)
  ·
    have i_3 : k_i.toInt < 64 := by have z := g5_geN (a := k_i.toInt) (b := 64) (by rfl) (by decide) c_3; omega
    refine lv_aload_n hx hb dX7_holdIn_8 rfl (lv_at hl 1 rfl) ?_
    refine va_get (D := G.1) (ci := 7) (v := .ref a_lv) (C := RX7) (T := TX7) (N := 10) hx hb hts inG_X7 hown hK hP 0 rfl rfl 9 (by decide) (hts _ fl_X7_31) (fun _ h9 => h9) rfl dX7_holdIn_9 ?_
    refine lv_iload_n hx hb dX7_holdIn_12 rfl (lv_at hl 0 rfl) ?_
    refine lv_aload_n hx hb dX7_holdIn_13 rfl (lv_at hl 1 rfl) ?_
    refine va_get (D := G.1) (ci := 7) (v := .ref a_hl) (C := RX7) (T := TX7) (N := 10) hx hb hts inG_X7 hown hK hP 0 rfl rfl 8 (by decide) (hts _ fl_X7_28) (fun _ h9 => h9) rfl dX7_holdIn_14 ?_
    refine lv_iload_n hx hb dX7_holdIn_17 rfl (lv_at hl 0 rfl) ?_
    refine va_iald hx hb hK hP 3 0 rfl rfl (i := k_i) (vp_in_iff.mpr ⟨by omega, by omega⟩) dX7_holdIn_18 ?_
    refine lv_aload_n hx hb dX7_holdIn_19 rfl (lv_at hl 1 rfl) ?_
    refine va_get (D := G.1) (ci := 7) (v := .ref a_ad) (C := RX7) (T := TX7) (N := 10) hx hb hts inG_X7 hown hK hP 0 rfl rfl 3 (by decide) (hts _ fl_X7_15) (fun _ h9 => h9) rfl dX7_holdIn_20 ?_
    refine lv_iload_n hx hb dX7_holdIn_23 rfl (lv_at hl 2 rfl) ?_
    refine lv_iconst (v := 1) hx hb dX7_holdIn_24 (by decide) ?_
    refine lv_isub hx hb dX7_holdIn_25 ?_
    have t_23 : (p_h - 1).toInt = p_h.toInt - 1 := g5_isub (a := p_h.toInt) (b := 1) (by rfl) (by decide) (by omega) (by omega)
    refine lv_bipush (v := 64) hx hb dX7_holdIn_26 (by decide) ?_
    refine lv_imul hx hb dX7_holdIn_28 ?_
    have t_24 : ((p_h - 1) * 64).toInt = (p_h - 1).toInt * 64 := g5_imul (a := (p_h - 1).toInt) (b := 64) (by rfl) (by decide) (by omega) (by omega)
    refine lv_iload_n hx hb dX7_holdIn_29 rfl (lv_at hl 0 rfl) ?_
    refine lv_iadd hx hb dX7_holdIn_30 ?_
    have t_25 : (((p_h - 1) * 64) + k_i).toInt = ((p_h - 1) * 64).toInt + k_i.toInt := g5_iadd (a := ((p_h - 1) * 64).toInt) (b := k_i.toInt) (by rfl) (by rfl) (by omega) (by omega)
    refine va_iald hx hb hK hP 2 0 rfl rfl (i := (((p_h - 1) * 64) + k_i)) (vp_in_iff.mpr ⟨by omega, by omega⟩) dX7_holdIn_31 ?_
    obtain ⟨hPc, hDc, hFc⟩ := g5_sub3 (wc := []) hP hD hS hA [] (by decide) rfl
    refine va_calli (va_runS (As := [.int (f_hl k_i.toNatClampNeg), .int (f_ad (((p_h - 1) * 64) + k_i).toNatClampNeg)]) (rest := [.int k_i, .ref a_lv]) ⟨hx, hb, hml, hown, hts⟩ (th_masksAfter l G H.size (f_hl k_i.toNatClampNeg) (f_ad (((p_h - 1) * 64) + k_i).toNatClampNeg)) (va_cwS 2 hts gS_X7_124 rfl rfl rfl hs_X7_masksAfter ⟨Nat.le_of_ble_eq_true rfl, Nat.le_of_ble_eq_true rfl⟩) (g5_preS hPc hK hDc hN hT hS hFc) rfl rfl hl.1 rfl (lv_room (Nat.le_of_ble_eq_true rfl)) dX7_holdIn_32 ⟨Nat.le_of_ble_eq_true rfl, Nat.le_of_ble_eq_true rfl⟩) hS (fun q _ h => hFc q h) hFc (fun r u t H1 locs ht hvm hw hB hz1 hk1 hS => ?_)
    obtain ⟨hP1, hD1⟩ := hB
    rw [ht] at hP1
    obtain ⟨z26, y27, rfl⟩ := hw
    have hP := g5_same hP hk1
    generalize H1 = H at hP hS ⊢
    refine g5_ti (v := z26) y27 ?_
    refine va_iast hx hb hK hP hD hS 4 0 rfl rfl (i := k_i) (x := z26) (vp_in_iff.mpr ⟨by omega, by omega⟩) dX7_holdIn_35 (fun H locs hP hD hS => ?_)
    refine g5_rs [(a_th, (oc7 a_h a_k a_ba a_ad e_fu a_cn a_nx a_hp a_hl a_lv)), (a_ba, (arJ G 24 f_ba)), (a_ad, (arI G 1536 f_ad)), (a_hl, (arI G 64 f_hl)), (a_lv, (arI G 64 (upd k_f k_i.toNatClampNeg z26)))] hP hD (fun hP hD => ?_)
    refine lv_iinc (v := (k_i + 1)) (lv' := [(2, .int (k_i + 1)), (0, .ref a_th), (1, .int p_h)]) hx hb dX7_holdIn_36 hl (k := 0) rfl rfl (by decide) rfl (fun ls hl => ?_)
    have t_28 : (k_i + 1).toInt = k_i.toInt + 1 := g5_iadd (a := k_i.toInt) (b := 1) rfl (by decide) (by omega) (by omega)
    refine lv_goto (tgt := 2) hx hb dX7_holdIn_39 (by decide) ?_
    exact ih_2_2 ((k_i + 1), (upd k_f k_i.toNatClampNeg z26)) ls H locs (show Int.toNat (64 - (k_i + 1).toInt) < Int.toNat (64 - k_i.toInt) from g_up (show k_i.toInt < (k_i + 1).toInt by omega) (show k_i.toInt < 64 by omega)) ⟨lv_sub hl [0, 1, 2] rfl, hP, hD, hS, ⟨by omega, by omega⟩⟩
theorem dgX7_cellsIn_0 : ∀ r ∈ ([(0, (.aload_n 0, 1)), (1, (.invokevirtual 117, 3)), (4, (.ifCond .ne 5, 3)), (7, (.lconst 0, 1)), (8, (.lreturn, 1)), (9, (.iconst 0, 1)), (10, (.istore_n 2, 1)), (11, (.iload_n 2, 1)), (12, (.bipush 64, 2)), (14, (.if_icmp .ge 33, 3)), (17, (.aload_n 0, 1)), (18, (.getfield 28, 3)), (21, (.iload_n 2, 1)), (22, (.aload_n 0, 1)), (23, (.getfield 9, 3)), (26, (.iconst 0, 1)), (27, (.laload, 1)), (28, (.iload_n 2, 1)), (29, (.invokestatic 98, 3)), (32, (.ifCond .eq 7, 3)), (35, (.iconst 0, 1)), (36, (.goto 4, 3)), (39, (.iconst 1, 1)), (40, (.iastore, 1)), (41, (.iinc 2 1, 3)), (44, (.goto (-33), 3)), (47, (.iconst 1, 1)), (48, (.istore_n 2, 1)), (49, (.iload_n 2, 1)), (50, (.iload_n 1, 1)), (51, (.if_icmp .gt 14, 3)), (54, (.aload_n 0, 1)), (55, (.iload_n 2, 1)), (56, (.invokevirtual 121, 3)), (59, (.iinc 2 1, 3)), (62, (.goto (-13), 3)), (65, (.lconst 0, 1)), (66, (.lstore_n 2, 1)), (67, (.iconst 0, 1)), (68, (.istore 4, 2))] : List (Nat × (Instr × Nat))), decode cX7_cellsIn r.1 = .ok r.2 := by decide +kernel
theorem dX7_cellsIn_0 : decode cX7_cellsIn 0 = .ok (.aload_n 0, 1) := dgX7_cellsIn_0 (0, (.aload_n 0, 1)) (List.mem_of_getElem? (i := 0) rfl)
theorem dX7_cellsIn_1 : decode cX7_cellsIn 1 = .ok (.invokevirtual 117, 3) := dgX7_cellsIn_0 (1, (.invokevirtual 117, 3)) (List.mem_of_getElem? (i := 1) rfl)
theorem dX7_cellsIn_4 : decode cX7_cellsIn 4 = .ok (.ifCond .ne 5, 3) := dgX7_cellsIn_0 (4, (.ifCond .ne 5, 3)) (List.mem_of_getElem? (i := 2) rfl)
theorem dX7_cellsIn_7 : decode cX7_cellsIn 7 = .ok (.lconst 0, 1) := dgX7_cellsIn_0 (7, (.lconst 0, 1)) (List.mem_of_getElem? (i := 3) rfl)
theorem dX7_cellsIn_8 : decode cX7_cellsIn 8 = .ok (.lreturn, 1) := dgX7_cellsIn_0 (8, (.lreturn, 1)) (List.mem_of_getElem? (i := 4) rfl)
theorem dX7_cellsIn_9 : decode cX7_cellsIn 9 = .ok (.iconst 0, 1) := dgX7_cellsIn_0 (9, (.iconst 0, 1)) (List.mem_of_getElem? (i := 5) rfl)
theorem dX7_cellsIn_10 : decode cX7_cellsIn 10 = .ok (.istore_n 2, 1) := dgX7_cellsIn_0 (10, (.istore_n 2, 1)) (List.mem_of_getElem? (i := 6) rfl)
theorem dX7_cellsIn_11 : decode cX7_cellsIn 11 = .ok (.iload_n 2, 1) := dgX7_cellsIn_0 (11, (.iload_n 2, 1)) (List.mem_of_getElem? (i := 7) rfl)
theorem dX7_cellsIn_12 : decode cX7_cellsIn 12 = .ok (.bipush 64, 2) := dgX7_cellsIn_0 (12, (.bipush 64, 2)) (List.mem_of_getElem? (i := 8) rfl)
theorem dX7_cellsIn_14 : decode cX7_cellsIn 14 = .ok (.if_icmp .ge 33, 3) := dgX7_cellsIn_0 (14, (.if_icmp .ge 33, 3)) (List.mem_of_getElem? (i := 9) rfl)
theorem dX7_cellsIn_17 : decode cX7_cellsIn 17 = .ok (.aload_n 0, 1) := dgX7_cellsIn_0 (17, (.aload_n 0, 1)) (List.mem_of_getElem? (i := 10) rfl)
theorem dX7_cellsIn_18 : decode cX7_cellsIn 18 = .ok (.getfield 28, 3) := dgX7_cellsIn_0 (18, (.getfield 28, 3)) (List.mem_of_getElem? (i := 11) rfl)
theorem dX7_cellsIn_21 : decode cX7_cellsIn 21 = .ok (.iload_n 2, 1) := dgX7_cellsIn_0 (21, (.iload_n 2, 1)) (List.mem_of_getElem? (i := 12) rfl)
theorem dX7_cellsIn_22 : decode cX7_cellsIn 22 = .ok (.aload_n 0, 1) := dgX7_cellsIn_0 (22, (.aload_n 0, 1)) (List.mem_of_getElem? (i := 13) rfl)
theorem dX7_cellsIn_23 : decode cX7_cellsIn 23 = .ok (.getfield 9, 3) := dgX7_cellsIn_0 (23, (.getfield 9, 3)) (List.mem_of_getElem? (i := 14) rfl)
theorem dX7_cellsIn_26 : decode cX7_cellsIn 26 = .ok (.iconst 0, 1) := dgX7_cellsIn_0 (26, (.iconst 0, 1)) (List.mem_of_getElem? (i := 15) rfl)
theorem dX7_cellsIn_27 : decode cX7_cellsIn 27 = .ok (.laload, 1) := dgX7_cellsIn_0 (27, (.laload, 1)) (List.mem_of_getElem? (i := 16) rfl)
theorem dX7_cellsIn_28 : decode cX7_cellsIn 28 = .ok (.iload_n 2, 1) := dgX7_cellsIn_0 (28, (.iload_n 2, 1)) (List.mem_of_getElem? (i := 17) rfl)
theorem dX7_cellsIn_29 : decode cX7_cellsIn 29 = .ok (.invokestatic 98, 3) := dgX7_cellsIn_0 (29, (.invokestatic 98, 3)) (List.mem_of_getElem? (i := 18) rfl)
theorem dX7_cellsIn_32 : decode cX7_cellsIn 32 = .ok (.ifCond .eq 7, 3) := dgX7_cellsIn_0 (32, (.ifCond .eq 7, 3)) (List.mem_of_getElem? (i := 19) rfl)
theorem dX7_cellsIn_35 : decode cX7_cellsIn 35 = .ok (.iconst 0, 1) := dgX7_cellsIn_0 (35, (.iconst 0, 1)) (List.mem_of_getElem? (i := 20) rfl)
theorem dX7_cellsIn_36 : decode cX7_cellsIn 36 = .ok (.goto 4, 3) := dgX7_cellsIn_0 (36, (.goto 4, 3)) (List.mem_of_getElem? (i := 21) rfl)
theorem dX7_cellsIn_39 : decode cX7_cellsIn 39 = .ok (.iconst 1, 1) := dgX7_cellsIn_0 (39, (.iconst 1, 1)) (List.mem_of_getElem? (i := 22) rfl)
theorem dX7_cellsIn_40 : decode cX7_cellsIn 40 = .ok (.iastore, 1) := dgX7_cellsIn_0 (40, (.iastore, 1)) (List.mem_of_getElem? (i := 23) rfl)
theorem dX7_cellsIn_41 : decode cX7_cellsIn 41 = .ok (.iinc 2 1, 3) := dgX7_cellsIn_0 (41, (.iinc 2 1, 3)) (List.mem_of_getElem? (i := 24) rfl)
theorem dX7_cellsIn_44 : decode cX7_cellsIn 44 = .ok (.goto (-33), 3) := dgX7_cellsIn_0 (44, (.goto (-33), 3)) (List.mem_of_getElem? (i := 25) rfl)
theorem dX7_cellsIn_47 : decode cX7_cellsIn 47 = .ok (.iconst 1, 1) := dgX7_cellsIn_0 (47, (.iconst 1, 1)) (List.mem_of_getElem? (i := 26) rfl)
theorem dX7_cellsIn_48 : decode cX7_cellsIn 48 = .ok (.istore_n 2, 1) := dgX7_cellsIn_0 (48, (.istore_n 2, 1)) (List.mem_of_getElem? (i := 27) rfl)
theorem dX7_cellsIn_49 : decode cX7_cellsIn 49 = .ok (.iload_n 2, 1) := dgX7_cellsIn_0 (49, (.iload_n 2, 1)) (List.mem_of_getElem? (i := 28) rfl)
theorem dX7_cellsIn_50 : decode cX7_cellsIn 50 = .ok (.iload_n 1, 1) := dgX7_cellsIn_0 (50, (.iload_n 1, 1)) (List.mem_of_getElem? (i := 29) rfl)
theorem dX7_cellsIn_51 : decode cX7_cellsIn 51 = .ok (.if_icmp .gt 14, 3) := dgX7_cellsIn_0 (51, (.if_icmp .gt 14, 3)) (List.mem_of_getElem? (i := 30) rfl)
theorem dX7_cellsIn_54 : decode cX7_cellsIn 54 = .ok (.aload_n 0, 1) := dgX7_cellsIn_0 (54, (.aload_n 0, 1)) (List.mem_of_getElem? (i := 31) rfl)
theorem dX7_cellsIn_55 : decode cX7_cellsIn 55 = .ok (.iload_n 2, 1) := dgX7_cellsIn_0 (55, (.iload_n 2, 1)) (List.mem_of_getElem? (i := 32) rfl)
theorem dX7_cellsIn_56 : decode cX7_cellsIn 56 = .ok (.invokevirtual 121, 3) := dgX7_cellsIn_0 (56, (.invokevirtual 121, 3)) (List.mem_of_getElem? (i := 33) rfl)
theorem dX7_cellsIn_59 : decode cX7_cellsIn 59 = .ok (.iinc 2 1, 3) := dgX7_cellsIn_0 (59, (.iinc 2 1, 3)) (List.mem_of_getElem? (i := 34) rfl)
theorem dX7_cellsIn_62 : decode cX7_cellsIn 62 = .ok (.goto (-13), 3) := dgX7_cellsIn_0 (62, (.goto (-13), 3)) (List.mem_of_getElem? (i := 35) rfl)
theorem dX7_cellsIn_65 : decode cX7_cellsIn 65 = .ok (.lconst 0, 1) := dgX7_cellsIn_0 (65, (.lconst 0, 1)) (List.mem_of_getElem? (i := 36) rfl)
theorem dX7_cellsIn_66 : decode cX7_cellsIn 66 = .ok (.lstore_n 2, 1) := dgX7_cellsIn_0 (66, (.lstore_n 2, 1)) (List.mem_of_getElem? (i := 37) rfl)
theorem dX7_cellsIn_67 : decode cX7_cellsIn 67 = .ok (.iconst 0, 1) := dgX7_cellsIn_0 (67, (.iconst 0, 1)) (List.mem_of_getElem? (i := 38) rfl)
theorem dX7_cellsIn_68 : decode cX7_cellsIn 68 = .ok (.istore 4, 2) := dgX7_cellsIn_0 (68, (.istore 4, 2)) (List.mem_of_getElem? (i := 39) rfl)
theorem dgX7_cellsIn_1 : ∀ r ∈ ([(70, (.iload 4, 2)), (72, (.bipush 64, 2)), (74, (.if_icmp .ge 39, 3)), (77, (.aload_n 0, 1)), (78, (.getfield 28, 3)), (81, (.iload 4, 2)), (83, (.iaload, 1)), (84, (.aload_n 0, 1)), (85, (.getfield 25, 3)), (88, (.iload_n 1, 1)), (89, (.bipush 64, 2)), (91, (.imul, 1)), (92, (.iload 4, 2)), (94, (.iadd, 1)), (95, (.iaload, 1)), (96, (.iand, 1)), (97, (.ifCond .eq 10, 3)), (100, (.lload_n 2, 1)), (101, (.lconst 1, 1)), (102, (.iload 4, 2)), (104, (.lshl, 1)), (105, (.lor, 1)), (106, (.lstore_n 2, 1)), (107, (.iinc 4 1, 3)), (110, (.goto (-40), 3)), (113, (.lload_n 2, 1)), (114, (.lreturn, 1))] : List (Nat × (Instr × Nat))), decode cX7_cellsIn r.1 = .ok r.2 := by decide +kernel
theorem dX7_cellsIn_70 : decode cX7_cellsIn 70 = .ok (.iload 4, 2) := dgX7_cellsIn_1 (70, (.iload 4, 2)) (List.mem_of_getElem? (i := 0) rfl)
theorem dX7_cellsIn_72 : decode cX7_cellsIn 72 = .ok (.bipush 64, 2) := dgX7_cellsIn_1 (72, (.bipush 64, 2)) (List.mem_of_getElem? (i := 1) rfl)
theorem dX7_cellsIn_74 : decode cX7_cellsIn 74 = .ok (.if_icmp .ge 39, 3) := dgX7_cellsIn_1 (74, (.if_icmp .ge 39, 3)) (List.mem_of_getElem? (i := 2) rfl)
theorem dX7_cellsIn_77 : decode cX7_cellsIn 77 = .ok (.aload_n 0, 1) := dgX7_cellsIn_1 (77, (.aload_n 0, 1)) (List.mem_of_getElem? (i := 3) rfl)
theorem dX7_cellsIn_78 : decode cX7_cellsIn 78 = .ok (.getfield 28, 3) := dgX7_cellsIn_1 (78, (.getfield 28, 3)) (List.mem_of_getElem? (i := 4) rfl)
theorem dX7_cellsIn_81 : decode cX7_cellsIn 81 = .ok (.iload 4, 2) := dgX7_cellsIn_1 (81, (.iload 4, 2)) (List.mem_of_getElem? (i := 5) rfl)
theorem dX7_cellsIn_83 : decode cX7_cellsIn 83 = .ok (.iaload, 1) := dgX7_cellsIn_1 (83, (.iaload, 1)) (List.mem_of_getElem? (i := 6) rfl)
theorem dX7_cellsIn_84 : decode cX7_cellsIn 84 = .ok (.aload_n 0, 1) := dgX7_cellsIn_1 (84, (.aload_n 0, 1)) (List.mem_of_getElem? (i := 7) rfl)
theorem dX7_cellsIn_85 : decode cX7_cellsIn 85 = .ok (.getfield 25, 3) := dgX7_cellsIn_1 (85, (.getfield 25, 3)) (List.mem_of_getElem? (i := 8) rfl)
theorem dX7_cellsIn_88 : decode cX7_cellsIn 88 = .ok (.iload_n 1, 1) := dgX7_cellsIn_1 (88, (.iload_n 1, 1)) (List.mem_of_getElem? (i := 9) rfl)
theorem dX7_cellsIn_89 : decode cX7_cellsIn 89 = .ok (.bipush 64, 2) := dgX7_cellsIn_1 (89, (.bipush 64, 2)) (List.mem_of_getElem? (i := 10) rfl)
theorem dX7_cellsIn_91 : decode cX7_cellsIn 91 = .ok (.imul, 1) := dgX7_cellsIn_1 (91, (.imul, 1)) (List.mem_of_getElem? (i := 11) rfl)
theorem dX7_cellsIn_92 : decode cX7_cellsIn 92 = .ok (.iload 4, 2) := dgX7_cellsIn_1 (92, (.iload 4, 2)) (List.mem_of_getElem? (i := 12) rfl)
theorem dX7_cellsIn_94 : decode cX7_cellsIn 94 = .ok (.iadd, 1) := dgX7_cellsIn_1 (94, (.iadd, 1)) (List.mem_of_getElem? (i := 13) rfl)
theorem dX7_cellsIn_95 : decode cX7_cellsIn 95 = .ok (.iaload, 1) := dgX7_cellsIn_1 (95, (.iaload, 1)) (List.mem_of_getElem? (i := 14) rfl)
theorem dX7_cellsIn_96 : decode cX7_cellsIn 96 = .ok (.iand, 1) := dgX7_cellsIn_1 (96, (.iand, 1)) (List.mem_of_getElem? (i := 15) rfl)
theorem dX7_cellsIn_97 : decode cX7_cellsIn 97 = .ok (.ifCond .eq 10, 3) := dgX7_cellsIn_1 (97, (.ifCond .eq 10, 3)) (List.mem_of_getElem? (i := 16) rfl)
theorem dX7_cellsIn_100 : decode cX7_cellsIn 100 = .ok (.lload_n 2, 1) := dgX7_cellsIn_1 (100, (.lload_n 2, 1)) (List.mem_of_getElem? (i := 17) rfl)
theorem dX7_cellsIn_101 : decode cX7_cellsIn 101 = .ok (.lconst 1, 1) := dgX7_cellsIn_1 (101, (.lconst 1, 1)) (List.mem_of_getElem? (i := 18) rfl)
theorem dX7_cellsIn_102 : decode cX7_cellsIn 102 = .ok (.iload 4, 2) := dgX7_cellsIn_1 (102, (.iload 4, 2)) (List.mem_of_getElem? (i := 19) rfl)
theorem dX7_cellsIn_104 : decode cX7_cellsIn 104 = .ok (.lshl, 1) := dgX7_cellsIn_1 (104, (.lshl, 1)) (List.mem_of_getElem? (i := 20) rfl)
theorem dX7_cellsIn_105 : decode cX7_cellsIn 105 = .ok (.lor, 1) := dgX7_cellsIn_1 (105, (.lor, 1)) (List.mem_of_getElem? (i := 21) rfl)
theorem dX7_cellsIn_106 : decode cX7_cellsIn 106 = .ok (.lstore_n 2, 1) := dgX7_cellsIn_1 (106, (.lstore_n 2, 1)) (List.mem_of_getElem? (i := 22) rfl)
theorem dX7_cellsIn_107 : decode cX7_cellsIn 107 = .ok (.iinc 4 1, 3) := dgX7_cellsIn_1 (107, (.iinc 4 1, 3)) (List.mem_of_getElem? (i := 23) rfl)
theorem dX7_cellsIn_110 : decode cX7_cellsIn 110 = .ok (.goto (-40), 3) := dgX7_cellsIn_1 (110, (.goto (-40), 3)) (List.mem_of_getElem? (i := 24) rfl)
theorem dX7_cellsIn_113 : decode cX7_cellsIn 113 = .ok (.lload_n 2, 1) := dgX7_cellsIn_1 (113, (.lload_n 2, 1)) (List.mem_of_getElem? (i := 25) rfl)
theorem dX7_cellsIn_114 : decode cX7_cellsIn 114 = .ok (.lreturn, 1) := dgX7_cellsIn_1 (114, (.lreturn, 1)) (List.mem_of_getElem? (i := 26) rfl)
theorem ml_X7_121 : Cond.methodLink RX7 121 yX7_holdIn ∈ tblG := tg 1009 (by decide +kernel) (by decide +kernel)
theorem im_X7_holdIn : Cond.instanceMethod yX7_holdIn ∈ tblG := tg 1011 (by decide +kernel) (by decide +kernel)
theorem se_X7_holdIn : Cond.selects RX7 yX7_holdIn yX7_holdIn ∈ tblG := tg 24 (by decide +kernel) (by decide +kernel)
theorem cd_X7_holdIn : Cond.code yX7_holdIn cX7_holdIn 6 none ∈ tblG := tg 1012 (by decide +kernel) (by decide +kernel)
theorem gW_X7_holdIn : GoodIn tblG (wsG yX7_holdIn cX7_holdIn 6 none) := tgi cd_X7_holdIn
theorem gV_X7_121 : GoodIn tblG (wsV RX7 121 RX7 yX7_holdIn (wsG yX7_holdIn cX7_holdIn 6 none)) := tgV ml_X7_121 im_X7_holdIn se_X7_holdIn ini_X7 gW_X7_holdIn
theorem hv_X7_holdIn : yX7_holdIn.cls = RX7 ∧ yX7_holdIn.cls ≠ "java/lang/invoke/MethodHandle" ∧ yX7_holdIn.cls ≠ "java/lang/invoke/VarHandle" ∧ (parseMethodDescriptor yX7_holdIn.desc).map (fun d => d.parameters.length) = some 1 := by decide +kernel
