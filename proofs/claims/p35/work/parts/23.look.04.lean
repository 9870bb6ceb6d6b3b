set_option maxHeartbeats 4000000 in
set_option maxRecDepth 100000 in
theorem k_mgpL1 {p : Program} {l : Launch} {e : Env} {s : State} {m : MethodId} {args : Array Value} {below : List Frame} {meth : Method} {c : Code} {Q : State → Prop} {A : Nat → Prop} {H : Heap} {locs : List Loc} {ls : Array Slot} (G : g5_G) (a_k a_h a_g a_gn a_p a_pn a_j a_as a_sk a_l a_lo a_sr a_cd a_hd a_pt a_b a_s a_w a_bb n_sr n_cd n_hd : Nat) (e_ln : Int32) (e_se : Int32) (e_lh : Int32) (e_br : Int32) (e_we : Int32) (e_me : Int32) (e_ce : Int32) (e_wy : Int32) (e_ho : Int32) (e_ov : Int32) (e_le : Int32) (e_st : Int32) (e_fo : Int32) (e_lc : Int32) (e_wa : Int64) (e_gb : Int64) (e_g : Int32) (f_g : Nat → Int32) (e_p : Int32) (f_p : Nat → Int32) (f_as : Nat → Int32) (f_sk : Nat → Int64) (f_l : Nat → Option Nat) (e_cl : Int32) (f_sr : Nat → Int32) (f_cd : Nat → Int32) (f_hd : Nat → Int32) (k_r : Int32) (k_n : Int32) (hx : p.tables.exec = Jvm.exec) (hb : c.code = cX5_meetGlass) (hml : c.maxLocals = 9) (hown : s.vm.findClass RX5 = some m.cls) (hts : ∀ w ∈ tblG, w.before args s = true) (hK : va_K G.1 vwCl (T5 G) s) (hN : g5_N s) (hT : g5_S A s s.heap) (hA : ∀ q : Nat, s.heap.size ≤ q → A q) (hP : va_P G.1 vwCl [(a_k, (oc5 a_h a_j a_pt e_ln e_se e_lh e_br e_we e_me e_ce e_wy e_ho e_ov)), (a_h, (oc1 e_wa e_le e_st e_fo e_lc a_l a_g a_b a_s a_p a_w e_gb a_bb)), (a_g, (oc6 6 5 a_gn e_g)), (a_gn, (arI G 30 f_g)), (a_p, (oc6 8 5 a_pn e_p)), (a_pn, (arI G 40 f_p)), (a_j, (oc2 a_as a_sk)), (a_as, (arI G 8 f_as)), (a_sk, (arJ G 50 f_sk)), (a_l, (arW G 6 f_l)), (a_lo, (oc3 e_cl a_hd a_sr a_cd)), (a_sr, (arI G n_sr f_sr)), (a_cd, (arI G n_cd f_cd)), (a_hd, (arI G n_hd f_hd))] H) (hD : va_D A [(a_k, (oc5 a_h a_j a_pt e_ln e_se e_lh e_br e_we e_me e_ce e_wy e_ho e_ov)), (a_h, (oc1 e_wa e_le e_st e_fo e_lc a_l a_g a_b a_s a_p a_w e_gb a_bb)), (a_g, (oc6 6 5 a_gn e_g)), (a_gn, (arI G 30 f_g)), (a_p, (oc6 8 5 a_pn e_p)), (a_pn, (arI G 40 f_p)), (a_j, (oc2 a_as a_sk)), (a_as, (arI G 8 f_as)), (a_sk, (arJ G 50 f_sk)), (a_l, (arW G 6 f_l)), (a_lo, (oc3 e_cl a_hd a_sr a_cd)), (a_sr, (arI G n_sr f_sr)), (a_cd, (arI G n_cd f_cd)), (a_hd, (arI G n_hd f_hd))]) (hS : va_S A s.heap H locs) (hl : lv_has ls 9 [(0, .ref a_k), (2, .ref a_p), (3, .int k_r), (4, .int k_n)]) (h_e_br : 0 ≤ e_br.toInt ∧ e_br.toInt ≤ 1000000) (h_e_ce : 0 ≤ e_ce.toInt ∧ e_ce.toInt ≤ 63) (h_e_wy : 0 ≤ e_wy.toInt ∧ e_wy.toInt ≤ 3) (h_e_ho : 0 ≤ e_ho.toInt ∧ e_ho.toInt ≤ 23) (h_e_ov : 0 ≤ e_ov.toInt ∧ e_ov.toInt ≤ 1) (h_e_g : 0 ≤ e_g.toInt ∧ e_g.toInt ≤ 6) (h_e_p : 0 ≤ e_p.toInt ∧ e_p.toInt ≤ 8) (h_e_cl : 0 ≤ e_cl.toInt ∧ e_cl.toInt ≤ 12) (h_k_r : 0 ≤ k_r.toInt ∧ k_r.toInt ≤ 7) (e_gk : gOK f_g e_g.toInt) (e_pk : gOK f_p e_p.toInt) (e_f : 0 ≤ e_fo.toInt ∧ e_fo.toInt < e_lc.toInt ∧ e_lc.toInt ≤ 6) (e_a : f_l e_fo.toNatClampNeg = some a_lo) (e_hn : n_cd ≤ 400) (e_hs : ∀ j : Nat, j < n_sr → 0 ≤ (f_sr j).toInt ∧ (f_sr j).toInt ≤ (n_cd : Int)) (e_hk : ∀ j : Nat, j < n_cd → (f_cd j >>> (12 &&& 31)).toInt = 1 → (f_cd j &&& 4095).toInt < 8) (e_c : (e_cl.toInt : Int) ≤ (n_hd : Int) ∧ (e_cl.toInt + 1 : Int) ≤ (n_sr : Int)) (e_r : k_r.toInt < e_p.toInt) (kk : ∀ (pc1 : Nat), decode cX5_meetGlass pc1 = .ok (.return_, 1) → ∀ (o_b : Int32) (o_w : Int32) (o_m : Int32) (o_y : Int32) (o_h : Int32) (o_v : Int32) (o_a : Nat → Int32) (o_k : Nat → Int64) (ls : Array Slot) (H : Heap) (locs : List Loc), va_P G.1 vwCl [(a_k, (oc5 a_h a_j a_pt e_ln e_se e_lh o_b o_w o_m e_ce o_y o_h o_v)), (a_h, (oc1 e_wa e_le e_st e_fo e_lc a_l a_g a_b a_s a_p a_w e_gb a_bb)), (a_g, (oc6 6 5 a_gn e_g)), (a_gn, (arI G 30 f_g)), (a_p, (oc6 8 5 a_pn e_p)), (a_pn, (arI G 40 f_p)), (a_j, (oc2 a_as a_sk)), (a_as, (arI G 8 o_a)), (a_sk, (arJ G 50 o_k)), (a_l, (arW G 6 f_l)), (a_lo, (oc3 e_cl a_hd a_sr a_cd)), (a_sr, (arI G n_sr f_sr)), (a_cd, (arI G n_cd f_cd)), (a_hd, (arI G n_hd f_hd))] H → va_D A [(a_k, (oc5 a_h a_j a_pt e_ln e_se e_lh o_b o_w o_m e_ce o_y o_h o_v)), (a_h, (oc1 e_wa e_le e_st e_fo e_lc a_l a_g a_b a_s a_p a_w e_gb a_bb)), (a_g, (oc6 6 5 a_gn e_g)), (a_gn, (arI G 30 f_g)), (a_p, (oc6 8 5 a_pn e_p)), (a_pn, (arI G 40 f_p)), (a_j, (oc2 a_as a_sk)), (a_as, (arI G 8 o_a)), (a_sk, (arJ G 50 o_k)), (a_l, (arW G 6 f_l)), (a_lo, (oc3 e_cl a_hd a_sr a_cd)), (a_sr, (arI G n_sr f_sr)), (a_cd, (arI G n_cd f_cd)), (a_hd, (arI G n_hd f_hd))] → va_S A s.heap H locs → (0 ≤ o_b.toInt ∧ o_b.toInt ≤ 1000000) → (0 ≤ o_y.toInt ∧ o_y.toInt ≤ 3) → (0 ≤ o_h.toInt ∧ o_h.toInt ≤ 23) → (0 ≤ o_v.toInt ∧ o_v.toInt ≤ 1) → W p l e ({ frames := 12, cells := 0, slots := 0, locals := 500 } : Room) s m args below meth c H locs 0 0 Q (F0 m pc1 ls [])) : W p l e ({ frames := 12, cells := 0, slots := 0, locals := 500 } : Room) s m args below meth c H locs 0 0 Q (F0 m 84 ls []) := by
  refine lv_aload_n hx hb dX5_meetGlass_84 rfl (lv_at hl 1 rfl) ?_
  refine lv_iload_n hx hb dX5_meetGlass_85 rfl (lv_at hl 2 rfl) ?_
  refine lv_iconst (v := 1) hx hb dX5_meetGlass_86 (by decide +kernel) ?_
  obtain ⟨hPc, hDc, hFc⟩ := g5_sub3 (wc := [(a_p, (oc6 8 5 a_pn e_p)), (a_pn, (arI G 40 f_p))]) hP hD hS hA [4, 5] (by decide +kernel) rfl
  refine va_calli (va_runV (As := [.int k_r, .int 1]) (rest := []) ⟨hx, hb, hml, hown, hts⟩ (t_get_P l G a_p a_pn H.size e_p k_r 1 f_p ⟨by omega, by omega⟩) (cwV 2 hts gV_X5_107 rfl rfl rfl hv_X6_get ⟨Nat.le_of_ble_eq_true rfl, Nat.le_of_ble_eq_true rfl⟩) (g5_preV hPc hK hDc hN hT hS hFc (ci := 6) (q0 := 0) rfl rfl) rfl rfl hl.1 rfl (lv_room (Nat.le_of_ble_eq_true rfl)) dX5_meetGlass_87 ⟨Nat.le_of_ble_eq_true rfl, Nat.le_of_ble_eq_true rfl⟩) hS (fun q _ h => hFc q h) hFc (fun r u t H locs ht hvm hw hB hz1 hk1 hS => ?_)
  obtain ⟨hP1, hD1⟩ := hB
  have hP1 := g5_ht ht hP1
  obtain ⟨z2, (i_1 : z2 = tget f_p e_p.toInt 5 k_r.toInt (1 : Int32).toInt), y3, rfl⟩ := hw
  have hJ9 := va_join (wr := [(a_k, (oc5 a_h a_j a_pt e_ln e_se e_lh e_br e_we e_me e_ce e_wy e_ho e_ov)), (a_h, (oc1 e_wa e_le e_st e_fo e_lc a_l a_g a_b a_s a_p a_w e_gb a_bb)), (a_g, (oc6 6 5 a_gn e_g)), (a_gn, (arI G 30 f_g)), (a_j, (oc2 a_as a_sk)), (a_as, (arI G 8 f_as)), (a_sk, (arJ G 50 f_sk)), (a_l, (arW G 6 f_l)), (a_lo, (oc3 e_cl a_hd a_sr a_cd)), (a_sr, (arI G n_sr f_sr)), (a_cd, (arI G n_cd f_cd)), (a_hd, (arI G n_hd f_hd))]) hP hD [4, 5] [0, 1, 2, 3, 6, 7, 8, 9, 10, 11, 12, 13] rfl rfl (by decide +kernel) (by decide +kernel) hk1 hFc hP1 hD1
  clear hP hD hPc hDc hFc ht hvm hz1 hk1 hP1 hD1
  obtain ⟨hP, hD⟩ := hJ9
  refine g5_rs [(a_k, (oc5 a_h a_j a_pt e_ln e_se e_lh e_br e_we e_me e_ce e_wy e_ho e_ov)), (a_h, (oc1 e_wa e_le e_st e_fo e_lc a_l a_g a_b a_s a_p a_w e_gb a_bb)), (a_g, (oc6 6 5 a_gn e_g)), (a_gn, (arI G 30 f_g)), (a_j, (oc2 a_as a_sk)), (a_as, (arI G 8 f_as)), (a_sk, (arJ G 50 f_sk)), (a_l, (arW G 6 f_l)), (a_lo, (oc3 e_cl a_hd a_sr a_cd)), (a_sr, (arI G n_sr f_sr)), (a_cd, (arI G n_cd f_cd)), (a_hd, (arI G n_hd f_hd)), (a_p, (oc6 8 5 a_pn e_p)), (a_pn, (arI G 40 f_p))] hP hD ?_
  clear hP hD
  intro hP hD
  refine g5_ti (v := z2) y3 ?_
  have hg_4 : 0 ≤ z2.toInt ∧ z2.toInt ≤ 5 := by rw [i_1]; exact (e_pk k_r.toInt (by omega) (by omega)).2.1
  refine W.eq (g2 := F0 m 90 ls [.int z2]) rfl ?_
  refine lv_istore (lv' := [(5, .int z2), (0, .ref a_k), (2, .ref a_p), (3, .int k_r), (4, .int k_n)]) hx hb dX5_meetGlass_90 hl (by decide +kernel) rfl ?_
  clear hl
  intro ls hl
  refine lv_aload_n hx hb dX5_meetGlass_92 rfl (lv_at hl 1 rfl) ?_
  refine lv_dup hx hb dX5_meetGlass_93 rfl ?_
  refine va_get (D := G.1) (ci := 5) (v := .int e_me) (C := RX5) (T := TX5) (N := 13) hx hb hts inG_X5 hown hK hP 0 rfl rfl 8 (by decide +kernel) (hts _ fl_X5_95) (fun _ h9 => h9) rfl dX5_meetGlass_94 ?_
  refine lv_iconst (v := 1) hx hb dX5_meetGlass_97 (by decide +kernel) ?_
  refine W.eq (g2 := F0 m 98 ls [.int 1, .int e_me, .ref a_k]) rfl ?_
  refine lv_iload hx hb dX5_meetGlass_98 (lv_at hl 4 rfl) ?_
  refine lv_ishl hx hb dX5_meetGlass_100 ?_
  refine lv_ior hx hb dX5_meetGlass_101 ?_
  refine va_put (D := G.1) (ci := 5) (v := .int (e_me ||| (1 <<< (k_n &&& 31)))) (ty := .int) (C := RX5) (T := TX5) (N := 13) hx hb hts inG_X5 tyX5 tyX5_ok nmX5 hown hK hP hD hS 0 rfl rfl 8 (by decide +kernel) (hts _ fl_X5_95) (fun _ h9 => h9) rfl (by decide +kernel) rfl rfl (Nat.le_of_ble_eq_true rfl) dX5_meetGlass_102 ?_
  clear hP hD hS
  intro H locs hP hD hS
  refine g5_rs [(a_k, (oc5 a_h a_j a_pt e_ln e_se e_lh e_br e_we (e_me ||| (1 <<< (k_n &&& 31))) e_ce e_wy e_ho e_ov)), (a_h, (oc1 e_wa e_le e_st e_fo e_lc a_l a_g a_b a_s a_p a_w e_gb a_bb)), (a_g, (oc6 6 5 a_gn e_g)), (a_gn, (arI G 30 f_g)), (a_j, (oc2 a_as a_sk)), (a_as, (arI G 8 f_as)), (a_sk, (arJ G 50 f_sk)), (a_l, (arW G 6 f_l)), (a_lo, (oc3 e_cl a_hd a_sr a_cd)), (a_sr, (arI G n_sr f_sr)), (a_cd, (arI G n_cd f_cd)), (a_hd, (arI G n_hd f_hd)), (a_p, (oc6 8 5 a_pn e_p)), (a_pn, (arI G 40 f_p))] hP hD ?_
  clear hP hD
  intro hP hD
  refine lv_aload_n hx hb dX5_meetGlass_105 rfl (lv_at hl 1 rfl) ?_
  refine W.eq (g2 := F0 m 106 ls [.ref a_k]) rfl ?_
  refine va_get (D := G.1) (ci := 5) (v := .ref a_h) (C := RX5) (T := TX5) (N := 13) hx hb hts inG_X5 hown hK hP 0 rfl rfl 0 (by decide +kernel) (hts _ fl_X5_22) (fun _ h9 => h9) rfl dX5_meetGlass_106 ?_
  obtain ⟨hPc, hDc, hFc⟩ := g5_sub3 (wc := [(a_h, (oc1 e_wa e_le e_st e_fo e_lc a_l a_g a_b a_s a_p a_w e_gb a_bb)), (a_l, (arW G 6 f_l))]) hP hD hS hA [1, 7] (by decide +kernel) rfl
  refine va_callq (va_runV (As := []) (rest := []) ⟨hx, hb, hml, hown, hts⟩ (h_lawL l G a_h a_l a_g a_b a_s a_p a_w a_bb a_lo H.size e_le e_st e_fo e_lc e_wa e_gb f_l (e_f) (e_a)) (cwV 0 hts gV_X5_113 rfl rfl rfl hv_X1_lawInForce ⟨Nat.le_of_ble_eq_true rfl, Nat.le_of_ble_eq_true rfl⟩) (g5_preV hPc hK hDc hN hT hS hFc (ci := 1) (q0 := 0) rfl rfl) rfl rfl hl.1 rfl (lv_room (Nat.le_of_ble_eq_true rfl)) dX5_meetGlass_109 ⟨Nat.le_of_ble_eq_true rfl, Nat.le_of_ble_eq_true rfl⟩) hS (fun q _ h => hFc q h) hFc (fun r u t H locs ht hvm hw hB hz1 hk1 hS => ?_)
  obtain ⟨hP1, hD1⟩ := hB
  have hP1 := g5_ht ht hP1
  obtain ⟨rfl, rfl⟩ := hw
  have hJ9 := va_join (wr := [(a_k, (oc5 a_h a_j a_pt e_ln e_se e_lh e_br e_we (e_me ||| (1 <<< (k_n &&& 31))) e_ce e_wy e_ho e_ov)), (a_g, (oc6 6 5 a_gn e_g)), (a_gn, (arI G 30 f_g)), (a_j, (oc2 a_as a_sk)), (a_as, (arI G 8 f_as)), (a_sk, (arJ G 50 f_sk)), (a_lo, (oc3 e_cl a_hd a_sr a_cd)), (a_sr, (arI G n_sr f_sr)), (a_cd, (arI G n_cd f_cd)), (a_hd, (arI G n_hd f_hd)), (a_p, (oc6 8 5 a_pn e_p)), (a_pn, (arI G 40 f_p))]) hP hD [1, 7] [0, 2, 3, 4, 5, 6, 8, 9, 10, 11, 12, 13] rfl rfl (by decide +kernel) (by decide +kernel) hk1 hFc hP1 hD1
  clear hP hD hPc hDc hFc ht hvm hz1 hk1 hP1 hD1
  obtain ⟨hP, hD⟩ := hJ9
  refine g5_rs [(a_k, (oc5 a_h a_j a_pt e_ln e_se e_lh e_br e_we (e_me ||| (1 <<< (k_n &&& 31))) e_ce e_wy e_ho e_ov)), (a_g, (oc6 6 5 a_gn e_g)), (a_gn, (arI G 30 f_g)), (a_j, (oc2 a_as a_sk)), (a_as, (arI G 8 f_as)), (a_sk, (arJ G 50 f_sk)), (a_lo, (oc3 e_cl a_hd a_sr a_cd)), (a_sr, (arI G n_sr f_sr)), (a_cd, (arI G n_cd f_cd)), (a_hd, (arI G n_hd f_hd)), (a_p, (oc6 8 5 a_pn e_p)), (a_pn, (arI G 40 f_p)), (a_h, (oc1 e_wa e_le e_st e_fo e_lc a_l a_g a_b a_s a_p a_w e_gb a_bb)), (a_l, (arW G 6 f_l))] hP hD ?_
  clear hP hD
  intro hP hD
  refine g5_tv (v := .ref a_lo) rfl ?_
  refine lv_astore (lv' := [(6, .ref a_lo), (5, .int z2), (0, .ref a_k), (2, .ref a_p), (3, .int k_r), (4, .int k_n)]) hx hb dX5_meetGlass_112 hl (by decide +kernel) rfl ?_
  clear hl
  intro ls hl
  refine lv_aload_n hx hb dX5_meetGlass_114 rfl (lv_at hl 2 rfl) ?_
  refine lv_iload hx hb dX5_meetGlass_115 (lv_at hl 5 rfl) ?_
  refine W.eq (g2 := F0 m 117 ls [.int k_n, .ref a_k]) rfl ?_
  refine lv_iconst (v := (-1)) hx hb dX5_meetGlass_117 (by decide +kernel) ?_
  obtain ⟨hPc, hDc, hFc⟩ := g5_sub3 (wc := [(a_k, (oc5 a_h a_j a_pt e_ln e_se e_lh e_br e_we (e_me ||| (1 <<< (k_n &&& 31))) e_ce e_wy e_ho e_ov)), (a_j, (oc2 a_as a_sk)), (a_as, (arI G 8 f_as))]) hP hD hS hA [0, 3, 4] (by decide +kernel) rfl
  refine va_callv (va_runV (As := [.int k_n, .int (-1)]) (rest := []) ⟨hx, hb, hml, hown, hts⟩ (k_ask l G a_k a_j a_as a_h a_pt a_sk H.size e_ln e_se e_lh e_br e_we (e_me ||| (1 <<< (k_n &&& 31))) e_ce e_wy e_ho e_ov k_n (-1) f_as ⟨by omega, by omega⟩ ⟨by omega, by omega⟩ ⟨by omega, by omega⟩ ⟨by omega, by omega⟩ ⟨by omega, by omega⟩) (cwV 2 hts gV_X5_120 rfl rfl rfl hv_X5_ask ⟨Nat.le_of_ble_eq_true rfl, Nat.le_of_ble_eq_true rfl⟩) (g5_preV hPc hK hDc hN hT hS hFc (ci := 5) (q0 := 0) rfl rfl) rfl rfl hl.1 rfl (lv_room (Nat.le_of_ble_eq_true rfl)) dX5_meetGlass_118 ⟨Nat.le_of_ble_eq_true rfl, Nat.le_of_ble_eq_true rfl⟩) hS (fun q _ h => hFc q h) hFc (fun u t H locs ht hvm hw hB hz1 hk1 hS => ?_)
  obtain ⟨hP1, hD1⟩ := hB
  have hP1 := g5_ht ht hP1
  obtain ⟨z5, rfl⟩ := hw
  have hJ9 := va_join (wr := [(a_g, (oc6 6 5 a_gn e_g)), (a_gn, (arI G 30 f_g)), (a_sk, (arJ G 50 f_sk)), (a_lo, (oc3 e_cl a_hd a_sr a_cd)), (a_sr, (arI G n_sr f_sr)), (a_cd, (arI G n_cd f_cd)), (a_hd, (arI G n_hd f_hd)), (a_p, (oc6 8 5 a_pn e_p)), (a_pn, (arI G 40 f_p)), (a_h, (oc1 e_wa e_le e_st e_fo e_lc a_l a_g a_b a_s a_p a_w e_gb a_bb)), (a_l, (arW G 6 f_l))]) hP hD [0, 3, 4] [1, 2, 5, 6, 7, 8, 9, 10, 11, 12, 13] rfl rfl (by decide +kernel) (by decide +kernel) hk1 hFc hP1 hD1
  clear hP hD hPc hDc hFc ht hvm hz1 hk1 hP1 hD1
  obtain ⟨hP, hD⟩ := hJ9
  refine g5_rs [(a_g, (oc6 6 5 a_gn e_g)), (a_gn, (arI G 30 f_g)), (a_sk, (arJ G 50 f_sk)), (a_lo, (oc3 e_cl a_hd a_sr a_cd)), (a_sr, (arI G n_sr f_sr)), (a_cd, (arI G n_cd f_cd)), (a_hd, (arI G n_hd f_hd)), (a_p, (oc6 8 5 a_pn e_p)), (a_pn, (arI G 40 f_p)), (a_h, (oc1 e_wa e_le e_st e_fo e_lc a_l a_g a_b a_s a_p a_w e_gb a_bb)), (a_l, (arW G 6 f_l)), (a_k, (oc5 a_h a_j a_pt e_ln e_se e_lh e_br e_we (e_me ||| (1 <<< (k_n &&& 31))) e_ce e_wy e_ho e_ov)), (a_j, (oc2 a_as a_sk)), (a_as, (arI G 8 z5))] hP hD ?_
  clear hP hD
  intro hP hD
  refine lv_aload_n hx hb dX5_meetGlass_121 rfl (lv_at hl 3 rfl) ?_
  refine lv_iload_n hx hb dX5_meetGlass_122 rfl (lv_at hl 4 rfl) ?_
  refine lv_iconst (v := 4) hx hb dX5_meetGlass_123 (by decide +kernel) ?_
  refine W.eq (g2 := F0 m 124 ls [.int 4, .int k_r, .ref a_p]) rfl ?_
  obtain ⟨hPc, hDc, hFc⟩ := g5_sub3 (wc := [(a_p, (oc6 8 5 a_pn e_p)), (a_pn, (arI G 40 f_p))]) hP hD hS hA [7, 8] (by decide +kernel) rfl
  refine va_calli (va_runV (As := [.int k_r, .int 4]) (rest := []) ⟨hx, hb, hml, hown, hts⟩ (t_get_P l G a_p a_pn H.size e_p k_r 4 f_p ⟨by omega, by omega⟩) (cwV 2 hts gV_X5_107 rfl rfl rfl hv_X6_get ⟨Nat.le_of_ble_eq_true rfl, Nat.le_of_ble_eq_true rfl⟩) (g5_preV hPc hK hDc hN hT hS hFc (ci := 6) (q0 := 0) rfl rfl) rfl rfl hl.1 rfl (lv_room (Nat.le_of_ble_eq_true rfl)) dX5_meetGlass_124 ⟨Nat.le_of_ble_eq_true rfl, Nat.le_of_ble_eq_true rfl⟩) hS (fun q _ h => hFc q h) hFc (fun r u t H locs ht hvm hw hB hz1 hk1 hS => ?_)
  obtain ⟨hP1, hD1⟩ := hB
  have hP1 := g5_ht ht hP1
  obtain ⟨z7, (i_6 : z7 = tget f_p e_p.toInt 5 k_r.toInt (4 : Int32).toInt), y8, rfl⟩ := hw
  have hJ9 := va_join (wr := [(a_g, (oc6 6 5 a_gn e_g)), (a_gn, (arI G 30 f_g)), (a_sk, (arJ G 50 f_sk)), (a_lo, (oc3 e_cl a_hd a_sr a_cd)), (a_sr, (arI G n_sr f_sr)), (a_cd, (arI G n_cd f_cd)), (a_hd, (arI G n_hd f_hd)), (a_h, (oc1 e_wa e_le e_st e_fo e_lc a_l a_g a_b a_s a_p a_w e_gb a_bb)), (a_l, (arW G 6 f_l)), (a_k, (oc5 a_h a_j a_pt e_ln e_se e_lh e_br e_we (e_me ||| (1 <<< (k_n &&& 31))) e_ce e_wy e_ho e_ov)), (a_j, (oc2 a_as a_sk)), (a_as, (arI G 8 z5))]) hP hD [7, 8] [0, 1, 2, 3, 4, 5, 6, 9, 10, 11, 12, 13] rfl rfl (by decide +kernel) (by decide +kernel) hk1 hFc hP1 hD1
  clear hP hD hPc hDc hFc ht hvm hz1 hk1 hP1 hD1
  obtain ⟨hP, hD⟩ := hJ9
  refine g5_rs [(a_g, (oc6 6 5 a_gn e_g)), (a_gn, (arI G 30 f_g)), (a_sk, (arJ G 50 f_sk)), (a_lo, (oc3 e_cl a_hd a_sr a_cd)), (a_sr, (arI G n_sr f_sr)), (a_cd, (arI G n_cd f_cd)), (a_hd, (arI G n_hd f_hd)), (a_h, (oc1 e_wa e_le e_st e_fo e_lc a_l a_g a_b a_s a_p a_w e_gb a_bb)), (a_l, (arW G 6 f_l)), (a_k, (oc5 a_h a_j a_pt e_ln e_se e_lh e_br e_we (e_me ||| (1 <<< (k_n &&& 31))) e_ce e_wy e_ho e_ov)), (a_j, (oc2 a_as a_sk)), (a_as, (arI G 8 z5)), (a_p, (oc6 8 5 a_pn e_p)), (a_pn, (arI G 40 f_p))] hP hD ?_
  clear hP hD
  intro hP hD
  refine g5_ti (v := z7) y8 ?_
  refine lv_aload_n hx hb dX5_meetGlass_127 rfl (lv_at hl 2 rfl) ?_
  refine va_get (D := G.1) (ci := 5) (v := .int e_ho) (C := RX5) (T := TX5) (N := 13) hx hb hts inG_X5 hown hK hP 9 rfl rfl 11 (by decide +kernel) (hts _ fl_X5_33) (fun _ h9 => h9) rfl dX5_meetGlass_128 ?_
  refine lv_ishr hx hb dX5_meetGlass_131 ?_
  refine lv_iconst (v := 1) hx hb dX5_meetGlass_132 (by decide +kernel) ?_
  refine W.eq (g2 := F0 m 133 ls [.int 1, .int (z7 >>> (e_ho &&& 31))]) rfl ?_
  refine lv_iand hx hb dX5_meetGlass_133 ?_
  refine lv_if_ne (tgt := 169) hx hb dX5_meetGlass_134 (by decide +kernel) (fun c_9 => ?_) (fun c_9 => ?_)
  ·
    have n_9 : gNe (((z7 >>> (e_ho &&& 31)) &&& 1).toInt) (0) := g5_ne (a := ((z7 >>> (e_ho &&& 31)) &&& 1).toInt) (b := 0) rfl (by decide +kernel) c_9
    exact kk 169 dX5_meetGlass_169 e_br e_we (e_me ||| (1 <<< (k_n &&& 31))) e_wy e_ho e_ov z5 f_sk ls H locs (hP.sub [9, 7, 0, 1, 12, 13, 10, 11, 2, 8, 3, 4, 5, 6] rfl) (hD.sub [9, 7, 0, 1, 12, 13, 10, 11, 2, 8, 3, 4, 5, 6] (by decide +kernel) rfl) hS (⟨by omega, by omega⟩) (⟨by omega, by omega⟩) (⟨by omega, by omega⟩) (⟨by omega, by omega⟩)
  ·
    have i_9 : ((z7 >>> (e_ho &&& 31)) &&& 1).toInt = 0 := g5_neN (a := ((z7 >>> (e_ho &&& 31)) &&& 1).toInt) (b := 0) rfl (by decide +kernel) c_9
    refine lv_aload_n hx hb dX5_meetGlass_137 rfl (lv_at hl 2 rfl) ?_
    refine va_get (D := G.1) (ci := 5) (v := .ref a_j) (C := RX5) (T := TX5) (N := 13) hx hb hts inG_X5 hown hK hP 9 rfl rfl 1 (by decide +kernel) (hts _ fl_X5_12) (fun _ h9 => h9) rfl dX5_meetGlass_138 ?_
    refine lv_aload hx hb dX5_meetGlass_141 (lv_at hl 0 rfl) ?_
    refine lv_iconst (v := 2) hx hb dX5_meetGlass_143 (by decide +kernel) ?_
    refine W.eq (g2 := F0 m 144 ls [.int 2, .ref a_lo, .ref a_j]) rfl ?_
    obtain ⟨hPc, hDc, hFc⟩ := g5_sub3 (wc := [(a_j, (oc2 a_as a_sk)), (a_as, (arI G 8 z5)), (a_sk, (arJ G 50 f_sk)), (a_lo, (oc3 e_cl a_hd a_sr a_cd)), (a_sr, (arI G n_sr f_sr)), (a_cd, (arI G n_cd f_cd)), (a_hd, (arI G n_hd f_hd))]) hP hD hS hA [10, 11, 2, 3, 4, 5, 6] (by decide +kernel) rfl
    refine va_calli (va_runV (As := [.ref a_lo, .int 2]) (rest := []) ⟨hx, hb, hml, hown, hts⟩ (j_isHeld l G a_j a_as a_sk a_lo a_sr a_cd a_hd H.size 2 e_cl z5 f_sk f_sr f_cd f_hd n_sr n_cd n_hd ⟨by omega, by omega⟩ (e_hn) (e_hs) (e_hk) (e_c)) (cwV 2 hts gV_X5_124 rfl rfl rfl hv_X2_isHeld ⟨Nat.le_of_ble_eq_true rfl, Nat.le_of_ble_eq_true rfl⟩) (g5_preV hPc hK hDc hN hT hS hFc (ci := 2) (q0 := 0) rfl rfl) rfl rfl hl.1 rfl (lv_room (Nat.le_of_ble_eq_true rfl)) dX5_meetGlass_144 ⟨Nat.le_of_ble_eq_true rfl, Nat.le_of_ble_eq_true rfl⟩) hS (fun q _ h => hFc q h) hFc (fun r u t H locs ht hvm hw hB hz1 hk1 hS => ?_)
    obtain ⟨hP1, hD1⟩ := hB
    have hP1 := g5_ht ht hP1
    obtain ⟨z11, z12, (i_10 : 0 ≤ z11.toInt ∧ z11.toInt ≤ 1), y13, rfl⟩ := hw
    have hJ9 := va_join (wr := [(a_g, (oc6 6 5 a_gn e_g)), (a_gn, (arI G 30 f_g)), (a_h, (oc1 e_wa e_le e_st e_fo e_lc a_l a_g a_b a_s a_p a_w e_gb a_bb)), (a_l, (arW G 6 f_l)), (a_k, (oc5 a_h a_j a_pt e_ln e_se e_lh e_br e_we (e_me ||| (1 <<< (k_n &&& 31))) e_ce e_wy e_ho e_ov)), (a_p, (oc6 8 5 a_pn e_p)), (a_pn, (arI G 40 f_p))]) hP hD [10, 11, 2, 3, 4, 5, 6] [0, 1, 7, 8, 9, 12, 13] rfl rfl (by decide +kernel) (by decide +kernel) hk1 hFc hP1 hD1
    clear hP hD hPc hDc hFc ht hvm hz1 hk1 hP1 hD1
    obtain ⟨hP, hD⟩ := hJ9
    refine g5_rs [(a_g, (oc6 6 5 a_gn e_g)), (a_gn, (arI G 30 f_g)), (a_h, (oc1 e_wa e_le e_st e_fo e_lc a_l a_g a_b a_s a_p a_w e_gb a_bb)), (a_l, (arW G 6 f_l)), (a_k, (oc5 a_h a_j a_pt e_ln e_se e_lh e_br e_we (e_me ||| (1 <<< (k_n &&& 31))) e_ce e_wy e_ho e_ov)), (a_p, (oc6 8 5 a_pn e_p)), (a_pn, (arI G 40 f_p)), (a_j, (oc2 a_as a_sk)), (a_as, (arI G 8 z5)), (a_sk, (arJ G 50 z12)), (a_lo, (oc3 e_cl a_hd a_sr a_cd)), (a_sr, (arI G n_sr f_sr)), (a_cd, (arI G n_cd f_cd)), (a_hd, (arI G n_hd f_hd))] hP hD ?_
    clear hP hD
    intro hP hD
    refine g5_ti (v := z11) y13 ?_
    refine lv_if_ne (tgt := 169) hx hb dX5_meetGlass_147 (by decide +kernel) (fun c_14 => ?_) (fun c_14 => ?_)
    ·
      have n_14 : gNe (z11.toInt) (0) := g5_ne (a := z11.toInt) (b := 0) rfl (by decide +kernel) c_14
      have i_14 : z11.toInt ≥ 1 := by have z := g5_ne (a := z11.toInt) (b := 0) (by rfl) (by decide +kernel) c_14; omega
      exact kk 169 dX5_meetGlass_169 e_br e_we (e_me ||| (1 <<< (k_n &&& 31))) e_wy e_ho e_ov z5 z12 ls H locs (hP.sub [4, 2, 0, 1, 5, 6, 7, 8, 9, 3, 10, 11, 12, 13] rfl) (hD.sub [4, 2, 0, 1, 5, 6, 7, 8, 9, 3, 10, 11, 12, 13] (by decide +kernel) rfl) hS (⟨by omega, by omega⟩) (⟨by omega, by omega⟩) (⟨by omega, by omega⟩) (⟨by omega, by omega⟩)
    ·
      have i_14 : z11.toInt = 0 := g5_neN (a := z11.toInt) (b := 0) rfl (by decide +kernel) c_14
      refine lv_iload hx hb dX5_meetGlass_150 (lv_at hl 1 rfl) ?_
      refine lv_iconst (v := 2) hx hb dX5_meetGlass_152 (by decide +kernel) ?_
      refine lv_icmp_lt (tgt := 170) hx hb dX5_meetGlass_153 (by decide +kernel) (fun c_15 => ?_) (fun c_15 => ?_)
      ·
        have i_15 : z2.toInt < 2 := g5_lt (a := z2.toInt) (b := 2) rfl (by decide +kernel) c_15
        exact k_mgpL2 G a_k a_h a_g a_gn a_p a_pn a_j a_as a_sk a_l a_lo a_sr a_cd a_hd a_pt a_b a_s a_w a_bb n_sr n_cd n_hd e_ln e_se e_lh e_br e_we (e_me ||| (1 <<< (k_n &&& 31))) e_ce e_wy e_ho e_ov e_le e_st e_fo e_lc e_wa e_gb e_g f_g e_p f_p z5 z12 f_l e_cl f_sr f_cd f_hd k_r k_n z2 hx hb hml hown hts hK hN hT hA (hP.sub [4, 2, 0, 1, 5, 6, 7, 8, 9, 3, 10, 11, 12, 13] rfl) (hD.sub [4, 2, 0, 1, 5, 6, 7, 8, 9, 3, 10, 11, 12, 13] (by decide +kernel) rfl) hS (lv_sub hl [2, 3, 4, 5, 1, 0] rfl) ⟨by omega, by omega⟩ ⟨by omega, by omega⟩ ⟨by omega, by omega⟩ ⟨by omega, by omega⟩ ⟨by omega, by omega⟩ ⟨by omega, by omega⟩ ⟨by omega, by omega⟩ ⟨by omega, by omega⟩ ⟨by omega, by omega⟩ ⟨by omega, by omega⟩ (e_gk) (e_pk) (e_f) (e_a) (e_hn) (e_hs) (e_hk) (e_c) (e_r) kk
      ·
        have i_15 : z2.toInt ≥ 2 := g5_ltN (a := z2.toInt) (b := 2) rfl (by decide +kernel) c_15
        refine lv_iload hx hb dX5_meetGlass_156 (lv_at hl 1 rfl) ?_
        refine lv_iconst (v := 2) hx hb dX5_meetGlass_158 (by decide +kernel) ?_
        refine lv_isub hx hb dX5_meetGlass_159 ?_
        have t_16 : (z2 - 2).toInt = z2.toInt - 2 := g5_isub (a := z2.toInt) (b := 2) (by rfl) (by decide +kernel) (by omega) (by omega)
        refine lv_aload_n hx hb dX5_meetGlass_160 rfl (lv_at hl 2 rfl) ?_
        refine W.eq (g2 := F0 m 161 ls [.ref a_k, .int (z2 - 2)]) rfl ?_
        refine va_get (D := G.1) (ci := 5) (v := .int e_wy) (C := RX5) (T := TX5) (N := 13) hx hb hts inG_X5 hown hK hP 4 rfl rfl 10 (by decide +kernel) (hts _ fl_X5_30) (fun _ h9 => h9) rfl dX5_meetGlass_161 ?_
        refine lv_iconst (v := 2) hx hb dX5_meetGlass_164 (by decide +kernel) ?_
        refine lv_ixor hx hb dX5_meetGlass_165 ?_
        have hx_17 := (g_xor (w := e_wy) (by omega) (by omega)).2
        refine lv_icmp_eq (tgt := 170) hx hb dX5_meetGlass_166 (by decide +kernel) (fun c_18 => ?_) (fun c_18 => ?_)
        ·
          have i_18 : (z2.toInt - 2) = (e_wy ^^^ 2).toInt := by have z := g5_eq (a := (z2 - 2).toInt) (b := (e_wy ^^^ 2).toInt) (by rfl) (by rfl) c_18; omega
          exact k_mgpL2 G a_k a_h a_g a_gn a_p a_pn a_j a_as a_sk a_l a_lo a_sr a_cd a_hd a_pt a_b a_s a_w a_bb n_sr n_cd n_hd e_ln e_se e_lh e_br e_we (e_me ||| (1 <<< (k_n &&& 31))) e_ce e_wy e_ho e_ov e_le e_st e_fo e_lc e_wa e_gb e_g f_g e_p f_p z5 z12 f_l e_cl f_sr f_cd f_hd k_r k_n z2 hx hb hml hown hts hK hN hT hA (hP.sub [4, 2, 0, 1, 5, 6, 7, 8, 9, 3, 10, 11, 12, 13] rfl) (hD.sub [4, 2, 0, 1, 5, 6, 7, 8, 9, 3, 10, 11, 12, 13] (by decide +kernel) rfl) hS (lv_sub hl [2, 3, 4, 5, 1, 0] rfl) ⟨by omega, by omega⟩ ⟨by omega, by omega⟩ ⟨by omega, by omega⟩ ⟨by omega, by omega⟩ ⟨by omega, by omega⟩ ⟨by omega, by omega⟩ ⟨by omega, by omega⟩ ⟨by omega, by omega⟩ ⟨by omega, by omega⟩ ⟨by omega, by omega⟩ (e_gk) (e_pk) (e_f) (e_a) (e_hn) (e_hs) (e_hk) (e_c) (e_r) kk
        ·
          have n_18 : gNe ((z2.toInt - 2)) ((e_wy ^^^ 2).toInt) := by have z := g5_eqN (a := (z2 - 2).toInt) (b := (e_wy ^^^ 2).toInt) (by rfl) (by rfl) c_18; unfold gNe; omega
          exact kk 169 dX5_meetGlass_169 e_br e_we (e_me ||| (1 <<< (k_n &&& 31))) e_wy e_ho e_ov z5 z12 ls H locs (hP.sub [4, 2, 0, 1, 5, 6, 7, 8, 9, 3, 10, 11, 12, 13] rfl) (hD.sub [4, 2, 0, 1, 5, 6, 7, 8, 9, 3, 10, 11, 12, 13] (by decide +kernel) rfl) hS (⟨by omega, by omega⟩) (⟨by omega, by omega⟩) (⟨by omega, by omega⟩) (⟨by omega, by omega⟩)
set_option maxHeartbeats 4000000 in
set_option maxRecDepth 100000 in
theorem k_meetGlassL (l : Launch) (G : g5_G) (a_k a_h a_g a_gn a_p a_pn a_j a_as a_sk a_l a_lo a_sr a_cd a_hd a_pt a_b a_s a_w a_bb : Nat) (sz : Nat) (e_ln : Int32) (e_se : Int32) (e_lh : Int32) (e_br : Int32) (e_we : Int32) (e_me : Int32) (e_ce : Int32) (e_wy : Int32) (e_ho : Int32) (e_ov : Int32) (e_le : Int32) (e_st : Int32) (e_fo : Int32) (e_lc : Int32) (e_g : Int32) (e_p : Int32) (e_cl : Int32) (e_wa : Int64) (e_gb : Int64) (f_g : Nat → Int32) (f_p : Nat → Int32) (f_as : Nat → Int32) (f_sk : Nat → Int64) (f_l : Nat → Option Nat) (f_sr : Nat → Int32) (f_cd : Nat → Int32) (f_hd : Nat → Int32) (n_sr : Nat) (n_cd : Nat) (n_hd : Nat) (h_e_br : 0 ≤ e_br.toInt ∧ e_br.toInt ≤ 1000000) (h_e_ce : 0 ≤ e_ce.toInt ∧ e_ce.toInt ≤ 63) (h_e_wy : 0 ≤ e_wy.toInt ∧ e_wy.toInt ≤ 3) (h_e_ho : 0 ≤ e_ho.toInt ∧ e_ho.toInt ≤ 23) (h_e_ov : 0 ≤ e_ov.toInt ∧ e_ov.toInt ≤ 1) (h_e_g : 0 ≤ e_g.toInt ∧ e_g.toInt ≤ 6) (h_e_p : 0 ≤ e_p.toInt ∧ e_p.toInt ≤ 8) (h_e_cl : 0 ≤ e_cl.toInt ∧ e_cl.toInt ≤ 12) (e_gk : gOK f_g e_g.toInt) (e_pk : gOK f_p e_p.toInt) (e_in : inR f_g e_g.toInt e_ce.toInt ∨ inR f_p e_p.toInt e_ce.toInt) (e_f : 0 ≤ e_fo.toInt ∧ e_fo.toInt < e_lc.toInt ∧ e_lc.toInt ≤ 6) (e_a : f_l e_fo.toNatClampNeg = some a_lo) (e_hn : n_cd ≤ 400) (e_hs : ∀ j : Nat, j < n_sr → 0 ≤ (f_sr j).toInt ∧ (f_sr j).toInt ≤ (n_cd : Int)) (e_hk : ∀ j : Nat, j < n_cd → (f_cd j >>> (12 &&& 31)).toInt = 1 → (f_cd j &&& 4095).toInt < 8) (e_c : (e_cl.toInt : Int) ≤ (n_hd : Int) ∧ (e_cl.toInt + 1 : Int) ≤ (n_sr : Int)) : Met l yX5_meetGlass (wsG yX5_meetGlass cX5_meetGlass 9 none) ({ frames := 12, cells := 0, slots := 0, locals := 500 }) (va_Pc [.ref a_k] (g5_P G [(a_k, (oc5 a_h a_j a_pt e_ln e_se e_lh e_br e_we e_me e_ce e_wy e_ho e_ov)), (a_h, (oc1 e_wa e_le e_st e_fo e_lc a_l a_g a_b a_s a_p a_w e_gb a_bb)), (a_g, (oc6 6 5 a_gn e_g)), (a_gn, (arI G 30 f_g)), (a_p, (oc6 8 5 a_pn e_p)), (a_pn, (arI G 40 f_p)), (a_j, (oc2 a_as a_sk)), (a_as, (arI G 8 f_as)), (a_sk, (arJ G 50 f_sk)), (a_l, (arW G 6 f_l)), (a_lo, (oc3 e_cl a_hd a_sr a_cd)), (a_sr, (arI G n_sr f_sr)), (a_cd, (arI G n_cd f_cd)), (a_hd, (arI G n_hd f_hd))] sz)) (va_Qv (fun (u : va_W) => (∃ (o_b : Int32) (o_w : Int32) (o_m : Int32) (o_y : Int32) (o_h : Int32) (o_v : Int32) (o_a : Nat → Int32) (o_k : Nat → Int64), (0 ≤ o_b.toInt ∧ o_b.toInt ≤ 1000000) ∧ (0 ≤ o_y.toInt ∧ o_y.toInt ≤ 3) ∧ (0 ≤ o_h.toInt ∧ o_h.toInt ≤ 23) ∧ (0 ≤ o_v.toInt ∧ o_v.toInt ≤ 1) ∧ (u = [(a_k, (oc5 a_h a_j a_pt e_ln e_se e_lh o_b o_w o_m e_ce o_y o_h o_v)), (a_h, (oc1 e_wa e_le e_st e_fo e_lc a_l a_g a_b a_s a_p a_w e_gb a_bb)), (a_g, (oc6 6 5 a_gn e_g)), (a_gn, (arI G 30 f_g)), (a_p, (oc6 8 5 a_pn e_p)), (a_pn, (arI G 40 f_p)), (a_j, (oc2 a_as a_sk)), (a_as, (arI G 8 o_a)), (a_sk, (arJ G 50 o_k)), (a_l, (arW G 6 f_l)), (a_lo, (oc3 e_cl a_hd a_sr a_cd)), (a_sr, (arI G n_sr f_sr)), (a_cd, (arI G n_cd f_cd)), (a_hd, (arI G n_hd f_hd))]))) (g5_B G (va_A [(a_k, (oc5 a_h a_j a_pt e_ln e_se e_lh e_br e_we e_me e_ce e_wy e_ho e_ov)), (a_h, (oc1 e_wa e_le e_st e_fo e_lc a_l a_g a_b a_s a_p a_w e_gb a_bb)), (a_g, (oc6 6 5 a_gn e_g)), (a_gn, (arI G 30 f_g)), (a_p, (oc6 8 5 a_pn e_p)), (a_pn, (arI G 40 f_p)), (a_j, (oc2 a_as a_sk)), (a_as, (arI G 8 f_as)), (a_sk, (arJ G 50 f_sk)), (a_l, (arW G 6 f_l)), (a_lo, (oc3 e_cl a_hd a_sr a_cd)), (a_sr, (arI G n_sr f_sr)), (a_cd, (arI G n_cd f_cd)), (a_hd, (arI G n_hd f_hd))] sz)) (va_A [(a_k, (oc5 a_h a_j a_pt e_ln e_se e_lh e_br e_we e_me e_ce e_wy e_ho e_ov)), (a_h, (oc1 e_wa e_le e_st e_fo e_lc a_l a_g a_b a_s a_p a_w e_gb a_bb)), (a_g, (oc6 6 5 a_gn e_g)), (a_gn, (arI G 30 f_g)), (a_p, (oc6 8 5 a_pn e_p)), (a_pn, (arI G 40 f_p)), (a_j, (oc2 a_as a_sk)), (a_as, (arI G 8 f_as)), (a_sk, (arJ G 50 f_sk)), (a_l, (arW G 6 f_l)), (a_lo, (oc3 e_cl a_hd a_sr a_cd)), (a_sr, (arI G n_sr f_sr)), (a_cd, (arI G n_cd f_cd)), (a_hd, (arI G n_hd f_hd))] sz)) 0 0 (va_A [(a_k, (oc5 a_h a_j a_pt e_ln e_se e_lh e_br e_we e_me e_ce e_wy e_ho e_ov)), (a_h, (oc1 e_wa e_le e_st e_fo e_lc a_l a_g a_b a_s a_p a_w e_gb a_bb)), (a_g, (oc6 6 5 a_gn e_g)), (a_gn, (arI G 30 f_g)), (a_p, (oc6 8 5 a_pn e_p)), (a_pn, (arI G 40 f_p)), (a_j, (oc2 a_as a_sk)), (a_as, (arI G 8 f_as)), (a_sk, (arJ G 50 f_sk)), (a_l, (arW G 6 f_l)), (a_lo, (oc3 e_cl a_hd a_sr a_cd)), (a_sr, (arI G n_sr f_sr)), (a_cd, (arI G n_cd f_cd)), (a_hd, (arI G n_hd f_hd))] sz) := by
  refine Met.ofW (cc := cX5_meetGlass) (maxL := 9) (ret := none) (by decide +kernel) rfl ?_
  intro p e s m args below meth c s₁ B hml hv
  obtain ⟨rfl, hsz, hP, hK, hD0, hN, hT⟩ := hv
  have hx := B.exec
  have hb := B.bytes
  have hr := B.returns
  have hts : ∀ w ∈ tblG, w.before _ s = true := fun w h => atoms_spec (ws := (wsG yX5_meetGlass cX5_meetGlass 9 none)) B.pre w (List.mem_cons_of_mem _ h)
  have hown : s.vm.findClass RX5 = some m.cls := findClass_of_methodNamed B.named
  have hlocks := B.notSynchronized
  subst hsz
  have hD := hD0.self (sz := s.heap.size)
  generalize hAe : va_A [(a_k, (oc5 a_h a_j a_pt e_ln e_se e_lh e_br e_we e_me e_ce e_wy e_ho e_ov)), (a_h, (oc1 e_wa e_le e_st e_fo e_lc a_l a_g a_b a_s a_p a_w e_gb a_bb)), (a_g, (oc6 6 5 a_gn e_g)), (a_gn, (arI G 30 f_g)), (a_p, (oc6 8 5 a_pn e_p)), (a_pn, (arI G 40 f_p)), (a_j, (oc2 a_as a_sk)), (a_as, (arI G 8 f_as)), (a_sk, (arJ G 50 f_sk)), (a_l, (arW G 6 f_l)), (a_lo, (oc3 e_cl a_hd a_sr a_cd)), (a_sr, (arI G n_sr f_sr)), (a_cd, (arI G n_cd f_cd)), (a_hd, (arI G n_hd f_hd))] s.heap.size = A at hD hT ⊢
  have hA : ∀ q : Nat, s.heap.size ≤ q → A q := fun q h => by rw [← hAe]; exact Or.inr h
  have hS : va_S A s.heap s.heap [] := va_S.rf
  replace hP : va_P G.1 vwCl [(a_k, (oc5 a_h a_j a_pt e_ln e_se e_lh e_br e_we e_me e_ce e_wy e_ho e_ov)), (a_h, (oc1 e_wa e_le e_st e_fo e_lc a_l a_g a_b a_s a_p a_w e_gb a_bb)), (a_g, (oc6 6 5 a_gn e_g)), (a_gn, (arI G 30 f_g)), (a_p, (oc6 8 5 a_pn e_p)), (a_pn, (arI G 40 f_p)), (a_j, (oc2 a_as a_sk)), (a_as, (arI G 8 f_as)), (a_sk, (arJ G 50 f_sk)), (a_l, (arW G 6 f_l)), (a_lo, (oc3 e_cl a_hd a_sr a_cd)), (a_sr, (arI G n_sr f_sr)), (a_cd, (arI G n_cd f_cd)), (a_hd, (arI G n_hd f_hd))] s.heap := hP
  have hl := lv_entry ([.ref a_k]) (n := 9) (Nat.le_of_ble_eq_true rfl)
  rw [lg_entry_eq]
  generalize (lg_sl ([.ref a_k]) ++ List.replicate (9 - (lg_sl ([.ref a_k])).length) Slot.unset).toArray = ls at hl ⊢
  replace hl : lv_has ls 9 [(0, .ref a_k)] := hl
  refine lv_aload_n hx hb dX5_meetGlass_0 rfl (lv_at hl 0 rfl) ?_
  refine lv_iconst (v := 1) hx hb dX5_meetGlass_1 (by decide +kernel) ?_
  refine va_put (D := G.1) (ci := 5) (v := .int 1) (ty := .boolean) (C := RX5) (T := TX5) (N := 13) hx hb hts inG_X5 tyX5 tyX5_ok nmX5 hown hK hP hD hS 0 rfl rfl 12 (by decide +kernel) (hts _ fl_X5_56) (fun _ h9 => h9) rfl (by decide +kernel) rfl rfl (Nat.le_of_ble_eq_true rfl) dX5_meetGlass_2 ?_
  clear hP hD hS
  intro H locs hP hD hS
  refine g5_rs [(a_k, (oc5 a_h a_j a_pt e_ln e_se e_lh e_br e_we e_me e_ce e_wy e_ho 1)), (a_h, (oc1 e_wa e_le e_st e_fo e_lc a_l a_g a_b a_s a_p a_w e_gb a_bb)), (a_g, (oc6 6 5 a_gn e_g)), (a_gn, (arI G 30 f_g)), (a_p, (oc6 8 5 a_pn e_p)), (a_pn, (arI G 40 f_p)), (a_j, (oc2 a_as a_sk)), (a_as, (arI G 8 f_as)), (a_sk, (arJ G 50 f_sk)), (a_l, (arW G 6 f_l)), (a_lo, (oc3 e_cl a_hd a_sr a_cd)), (a_sr, (arI G n_sr f_sr)), (a_cd, (arI G n_cd f_cd)), (a_hd, (arI G n_hd f_hd))] hP hD ?_
  clear hP hD
  intro hP hD
  refine lv_aload_n hx hb dX5_meetGlass_5 rfl (lv_at hl 0 rfl) ?_
  refine W.eq (g2 := F0 m 6 ls [.ref a_k]) rfl ?_
  refine va_get (D := G.1) (ci := 5) (v := .ref a_h) (C := RX5) (T := TX5) (N := 13) hx hb hts inG_X5 hown hK hP 0 rfl rfl 0 (by decide +kernel) (hts _ fl_X5_22) (fun _ h9 => h9) rfl dX5_meetGlass_6 ?_
  refine va_get (D := G.1) (ci := 1) (v := .ref a_g) (C := RX1) (T := TX1) (N := 13) hx hb hts inG_X1 hown hK hP 1 rfl rfl 6 (by decide +kernel) (hts _ fl_X5_128) (fun _ h9 => h9) rfl dX5_meetGlass_9 ?_
  refine lv_iconst (v := 0) hx hb dX5_meetGlass_12 (by decide +kernel) ?_
  refine lv_aload_n hx hb dX5_meetGlass_13 rfl (lv_at hl 0 rfl) ?_
  refine va_get (D := G.1) (ci := 5) (v := .int e_ce) (C := RX5) (T := TX5) (N := 13) hx hb hts inG_X5 hown hK hP 0 rfl rfl 9 (by decide +kernel) (hts _ fl_X5_26) (fun _ h9 => h9) rfl dX5_meetGlass_14 ?_
  refine W.eq (g2 := F0 m 17 ls [.int e_ce, .int 0, .ref a_g]) rfl ?_
  obtain ⟨hPc, hDc, hFc⟩ := g5_sub3 (wc := [(a_g, (oc6 6 5 a_gn e_g)), (a_gn, (arI G 30 f_g))]) hP hD hS hA [2, 3] (by decide +kernel) rfl
  refine va_calli (va_runV (As := [.int 0, .int e_ce]) (rest := []) ⟨hx, hb, hml, hown, hts⟩ (t_find_G l G a_g a_gn H.size e_g 0 e_ce f_g h_e_g) (cwV 2 hts gV_X5_131 rfl rfl rfl hv_X6_find ⟨Nat.le_of_ble_eq_true rfl, Nat.le_of_ble_eq_true rfl⟩) (g5_preV hPc hK hDc hN hT hS hFc (ci := 6) (q0 := 0) rfl rfl) rfl rfl hl.1 rfl (lv_room (Nat.le_of_ble_eq_true rfl)) dX5_meetGlass_17 ⟨Nat.le_of_ble_eq_true rfl, Nat.le_of_ble_eq_true rfl⟩) hS (fun q _ h => hFc q h) hFc (fun r u t H locs ht hvm hw hB hz1 hk1 hS => ?_)
  obtain ⟨hP1, hD1⟩ := hB
  have hP1 := g5_ht ht hP1
  rcases hw with ⟨(i_1 : ∀ r : Int, 0 ≤ r → r < e_g.toInt → tget f_g e_g.toInt 5 r (0 : Int32).toInt ≠ e_ce), rfl, rfl⟩ | ⟨z4, (i_2 : 0 ≤ z4.toInt ∧ z4.toInt < e_g.toInt), (i_3 : tget f_g e_g.toInt 5 z4.toInt (0 : Int32).toInt = e_ce), y5, rfl⟩
  ·
    have hJ9 := va_join (wr := [(a_k, (oc5 a_h a_j a_pt e_ln e_se e_lh e_br e_we e_me e_ce e_wy e_ho 1)), (a_h, (oc1 e_wa e_le e_st e_fo e_lc a_l a_g a_b a_s a_p a_w e_gb a_bb)), (a_p, (oc6 8 5 a_pn e_p)), (a_pn, (arI G 40 f_p)), (a_j, (oc2 a_as a_sk)), (a_as, (arI G 8 f_as)), (a_sk, (arJ G 50 f_sk)), (a_l, (arW G 6 f_l)), (a_lo, (oc3 e_cl a_hd a_sr a_cd)), (a_sr, (arI G n_sr f_sr)), (a_cd, (arI G n_cd f_cd)), (a_hd, (arI G n_hd f_hd))]) hP hD [2, 3] [0, 1, 4, 5, 6, 7, 8, 9, 10, 11, 12, 13] rfl rfl (by decide +kernel) (by decide +kernel) hk1 hFc hP1 hD1
    clear hP hD hPc hDc hFc ht hvm hz1 hk1 hP1 hD1
    obtain ⟨hP, hD⟩ := hJ9
    refine g5_rs [(a_k, (oc5 a_h a_j a_pt e_ln e_se e_lh e_br e_we e_me e_ce e_wy e_ho 1)), (a_h, (oc1 e_wa e_le e_st e_fo e_lc a_l a_g a_b a_s a_p a_w e_gb a_bb)), (a_p, (oc6 8 5 a_pn e_p)), (a_pn, (arI G 40 f_p)), (a_j, (oc2 a_as a_sk)), (a_as, (arI G 8 f_as)), (a_sk, (arJ G 50 f_sk)), (a_l, (arW G 6 f_l)), (a_lo, (oc3 e_cl a_hd a_sr a_cd)), (a_sr, (arI G n_sr f_sr)), (a_cd, (arI G n_cd f_cd)), (a_hd, (arI G n_hd f_hd)), (a_g, (oc6 6 5 a_gn e_g)), (a_gn, (arI G 30 f_g))] hP hD ?_
    clear hP hD
    intro hP hD
    refine lv_istore_n (lv' := [(1, .int (-1)), (0, .ref a_k)]) hx hb dX5_meetGlass_20 rfl hl (by decide +kernel) rfl ?_
    clear hl
    intro ls hl
    refine lv_iload_n hx hb dX5_meetGlass_21 rfl (lv_at hl 0 rfl) ?_
    refine lv_iconst (v := (-1)) hx hb dX5_meetGlass_22 (by decide +kernel) ?_
    refine lv_icmp_ne (tgt := 36) hx hb dX5_meetGlass_23 (by decide +kernel) (fun c_6 => ?_) (fun c_6 => ?_)
    ·
      exact absurd c_6 (by decide +kernel)
    ·
      refine lv_aload_n hx hb dX5_meetGlass_26 rfl (lv_at hl 1 rfl) ?_
      refine va_get (D := G.1) (ci := 5) (v := .ref a_h) (C := RX5) (T := TX5) (N := 13) hx hb hts inG_X5 hown hK hP 0 rfl rfl 0 (by decide +kernel) (hts _ fl_X5_22) (fun _ h9 => h9) rfl dX5_meetGlass_27 ?_
      refine va_get (D := G.1) (ci := 1) (v := .ref a_p) (C := RX1) (T := TX1) (N := 13) hx hb hts inG_X1 hown hK hP 1 rfl rfl 9 (by decide +kernel) (hts _ fl_X5_98) (fun _ h9 => h9) rfl dX5_meetGlass_30 ?_
      refine lv_goto (tgt := 43) hx hb dX5_meetGlass_33 (by decide +kernel) ?_
      refine W.eq (g2 := F0 m 43 ls [.ref a_p]) rfl ?_
      refine lv_astore_n (lv' := [(2, .ref a_p), (1, .int (-1)), (0, .ref a_k)]) hx hb dX5_meetGlass_43 rfl hl (by decide +kernel) rfl ?_
      clear hl
      intro ls hl
      refine lv_iload_n hx hb dX5_meetGlass_44 rfl (lv_at hl 1 rfl) ?_
      refine lv_iconst (v := (-1)) hx hb dX5_meetGlass_45 (by decide +kernel) ?_
      refine lv_icmp_ne (tgt := 67) hx hb dX5_meetGlass_46 (by decide +kernel) (fun c_7 => ?_) (fun c_7 => ?_)
      ·
        exact absurd c_7 (by decide +kernel)
      ·
        refine lv_aload_n hx hb dX5_meetGlass_49 rfl (lv_at hl 2 rfl) ?_
        refine va_get (D := G.1) (ci := 5) (v := .ref a_h) (C := RX5) (T := TX5) (N := 13) hx hb hts inG_X5 hown hK hP 0 rfl rfl 0 (by decide +kernel) (hts _ fl_X5_22) (fun _ h9 => h9) rfl dX5_meetGlass_50 ?_
        refine va_get (D := G.1) (ci := 1) (v := .ref a_p) (C := RX1) (T := TX1) (N := 13) hx hb hts inG_X1 hown hK hP 1 rfl rfl 9 (by decide +kernel) (hts _ fl_X5_98) (fun _ h9 => h9) rfl dX5_meetGlass_53 ?_
        refine lv_iconst (v := 0) hx hb dX5_meetGlass_56 (by decide +kernel) ?_
        refine W.eq (g2 := F0 m 57 ls [.int 0, .ref a_p]) rfl ?_
        refine lv_aload_n hx hb dX5_meetGlass_57 rfl (lv_at hl 2 rfl) ?_
        refine va_get (D := G.1) (ci := 5) (v := .int e_ce) (C := RX5) (T := TX5) (N := 13) hx hb hts inG_X5 hown hK hP 0 rfl rfl 9 (by decide +kernel) (hts _ fl_X5_26) (fun _ h9 => h9) rfl dX5_meetGlass_58 ?_
        obtain ⟨hPc, hDc, hFc⟩ := g5_sub3 (wc := [(a_p, (oc6 8 5 a_pn e_p)), (a_pn, (arI G 40 f_p))]) hP hD hS hA [2, 3] (by decide +kernel) rfl
        refine va_calli (va_runV (As := [.int 0, .int e_ce]) (rest := []) ⟨hx, hb, hml, hown, hts⟩ (t_find_P l G a_p a_pn H.size e_p 0 e_ce f_p h_e_p) (cwV 2 hts gV_X5_131 rfl rfl rfl hv_X6_find ⟨Nat.le_of_ble_eq_true rfl, Nat.le_of_ble_eq_true rfl⟩) (g5_preV hPc hK hDc hN hT hS hFc (ci := 6) (q0 := 0) rfl rfl) rfl rfl hl.1 rfl (lv_room (Nat.le_of_ble_eq_true rfl)) dX5_meetGlass_61 ⟨Nat.le_of_ble_eq_true rfl, Nat.le_of_ble_eq_true rfl⟩) hS (fun q _ h => hFc q h) hFc (fun r u t H locs ht hvm hw hB hz1 hk1 hS => ?_)
        obtain ⟨hP1, hD1⟩ := hB
        have hP1 := g5_ht ht hP1
        rcases hw with ⟨(i_8 : ∀ r : Int, 0 ≤ r → r < e_p.toInt → tget f_p e_p.toInt 5 r (0 : Int32).toInt ≠ e_ce), rfl, rfl⟩ | ⟨z11, (i_9 : 0 ≤ z11.toInt ∧ z11.toInt < e_p.toInt), (i_10 : tget f_p e_p.toInt 5 z11.toInt (0 : Int32).toInt = e_ce), y12, rfl⟩
        ·
          have hJ9 := va_join (wr := [(a_k, (oc5 a_h a_j a_pt e_ln e_se e_lh e_br e_we e_me e_ce e_wy e_ho 1)), (a_h, (oc1 e_wa e_le e_st e_fo e_lc a_l a_g a_b a_s a_p a_w e_gb a_bb)), (a_j, (oc2 a_as a_sk)), (a_as, (arI G 8 f_as)), (a_sk, (arJ G 50 f_sk)), (a_l, (arW G 6 f_l)), (a_lo, (oc3 e_cl a_hd a_sr a_cd)), (a_sr, (arI G n_sr f_sr)), (a_cd, (arI G n_cd f_cd)), (a_hd, (arI G n_hd f_hd)), (a_g, (oc6 6 5 a_gn e_g)), (a_gn, (arI G 30 f_g))]) hP hD [2, 3] [0, 1, 4, 5, 6, 7, 8, 9, 10, 11, 12, 13] rfl rfl (by decide +kernel) (by decide +kernel) hk1 hFc hP1 hD1
          clear hP hD hPc hDc hFc ht hvm hz1 hk1 hP1 hD1
          obtain ⟨hP, hD⟩ := hJ9
          refine g5_rs [(a_k, (oc5 a_h a_j a_pt e_ln e_se e_lh e_br e_we e_me e_ce e_wy e_ho 1)), (a_h, (oc1 e_wa e_le e_st e_fo e_lc a_l a_g a_b a_s a_p a_w e_gb a_bb)), (a_j, (oc2 a_as a_sk)), (a_as, (arI G 8 f_as)), (a_sk, (arJ G 50 f_sk)), (a_l, (arW G 6 f_l)), (a_lo, (oc3 e_cl a_hd a_sr a_cd)), (a_sr, (arI G n_sr f_sr)), (a_cd, (arI G n_cd f_cd)), (a_hd, (arI G n_hd f_hd)), (a_g, (oc6 6 5 a_gn e_g)), (a_gn, (arI G 30 f_g)), (a_p, (oc6 8 5 a_pn e_p)), (a_pn, (arI G 40 f_p))] hP hD ?_
          clear hP hD
          intro hP hD
          refine lv_goto (tgt := 68) hx hb dX5_meetGlass_64 (by decide +kernel) ?_
          rcases e_in with e_in | e_in
          · exact absurd e_in (g_notin i_1)
          · exact absurd e_in (g_notin i_8)
        ·
          have hJ9 := va_join (wr := [(a_k, (oc5 a_h a_j a_pt e_ln e_se e_lh e_br e_we e_me e_ce e_wy e_ho 1)), (a_h, (oc1 e_wa e_le e_st e_fo e_lc a_l a_g a_b a_s a_p a_w e_gb a_bb)), (a_j, (oc2 a_as a_sk)), (a_as, (arI G 8 f_as)), (a_sk, (arJ G 50 f_sk)), (a_l, (arW G 6 f_l)), (a_lo, (oc3 e_cl a_hd a_sr a_cd)), (a_sr, (arI G n_sr f_sr)), (a_cd, (arI G n_cd f_cd)), (a_hd, (arI G n_hd f_hd)), (a_g, (oc6 6 5 a_gn e_g)), (a_gn, (arI G 30 f_g))]) hP hD [2, 3] [0, 1, 4, 5, 6, 7, 8, 9, 10, 11, 12, 13] rfl rfl (by decide +kernel) (by decide +kernel) hk1 hFc hP1 hD1
          clear hP hD hPc hDc hFc ht hvm hz1 hk1 hP1 hD1
          obtain ⟨hP, hD⟩ := hJ9
          refine g5_rs [(a_k, (oc5 a_h a_j a_pt e_ln e_se e_lh e_br e_we e_me e_ce e_wy e_ho 1)), (a_h, (oc1 e_wa e_le e_st e_fo e_lc a_l a_g a_b a_s a_p a_w e_gb a_bb)), (a_j, (oc2 a_as a_sk)), (a_as, (arI G 8 f_as)), (a_sk, (arJ G 50 f_sk)), (a_l, (arW G 6 f_l)), (a_lo, (oc3 e_cl a_hd a_sr a_cd)), (a_sr, (arI G n_sr f_sr)), (a_cd, (arI G n_cd f_cd)), (a_hd, (arI G n_hd f_hd)), (a_g, (oc6 6 5 a_gn e_g)), (a_gn, (arI G 30 f_g)), (a_p, (oc6 8 5 a_pn e_p)), (a_pn, (arI G 40 f_p))] hP hD ?_
          clear hP hD
          intro hP hD
          refine g5_ti (v := z11) y12 ?_
          refine lv_goto (tgt := 68) hx hb dX5_meetGlass_64 (by decide +kernel) ?_
          refine lv_istore_n (lv' := [(3, .int z11), (2, .ref a_p), (1, .int (-1)), (0, .ref a_k)]) hx hb dX5_meetGlass_68 rfl hl (by decide +kernel) rfl ?_
          clear hl
          intro ls hl
          refine lv_iload_n hx hb dX5_meetGlass_69 rfl (lv_at hl 2 rfl) ?_
          refine lv_iconst (v := (-1)) hx hb dX5_meetGlass_70 (by decide +kernel) ?_
          refine W.eq (g2 := F0 m 71 ls [.int (-1), .int (-1)]) rfl ?_
          refine lv_icmp_ne (tgt := 81) hx hb dX5_meetGlass_71 (by decide +kernel) (fun c_13 => ?_) (fun c_13 => ?_)
          ·
            exact absurd c_13 (by decide +kernel)
          ·
            refine lv_bipush (v := 6) hx hb dX5_meetGlass_74 (by decide +kernel) ?_
            refine lv_iload_n hx hb dX5_meetGlass_76 rfl (lv_at hl 0 rfl) ?_
            refine lv_iadd hx hb dX5_meetGlass_77 ?_
            have t_14 : (6 + z11).toInt = 6 + z11.toInt := g5_iadd (a := 6) (b := z11.toInt) (by decide +kernel) (by rfl) (by omega) (by omega)
            refine lv_goto (tgt := 82) hx hb dX5_meetGlass_78 (by decide +kernel) ?_
            refine W.eq (g2 := F0 m 82 ls [.int (6 + z11)]) rfl ?_
            refine lv_istore (lv' := [(4, .int (6 + z11)), (3, .int z11), (2, .ref a_p), (1, .int (-1)), (0, .ref a_k)]) hx hb dX5_meetGlass_82 hl (by decide +kernel) rfl ?_
            clear hl
            intro ls hl
            refine k_mgpL1 G a_k a_h a_g a_gn a_p a_pn a_j a_as a_sk a_l a_lo a_sr a_cd a_hd a_pt a_b a_s a_w a_bb n_sr n_cd n_hd e_ln e_se e_lh e_br e_we e_me e_ce e_wy e_ho 1 e_le e_st e_fo e_lc e_wa e_gb e_g f_g e_p f_p f_as f_sk f_l e_cl f_sr f_cd f_hd z11 (6 + z11) hx hb hml hown hts hK hN hT hA (hP.sub [0, 1, 10, 11, 12, 13, 2, 3, 4, 5, 6, 7, 8, 9] rfl) (hD.sub [0, 1, 10, 11, 12, 13, 2, 3, 4, 5, 6, 7, 8, 9] (by decide +kernel) rfl) hS (lv_sub hl [4, 2, 1, 0] rfl) ⟨by omega, by omega⟩ ⟨by omega, by omega⟩ ⟨by omega, by omega⟩ ⟨by omega, by omega⟩ ⟨by decide, by decide⟩ ⟨by omega, by omega⟩ ⟨by omega, by omega⟩ ⟨by omega, by omega⟩ ⟨by omega, by omega⟩ (e_gk) (e_pk) (e_f) (e_a) (e_hn) (e_hs) (e_hk) (e_c) (by omega) (fun pc1 hd o_b o_w o_m o_y o_h o_v o_a o_k ls H locs hP hD hS i_b i_y i_h i_v => ?_)
            refine g5_rs [(a_k, (oc5 a_h a_j a_pt e_ln e_se e_lh o_b o_w o_m e_ce o_y o_h o_v)), (a_h, (oc1 e_wa e_le e_st e_fo e_lc a_l a_g a_b a_s a_p a_w e_gb a_bb)), (a_g, (oc6 6 5 a_gn e_g)), (a_gn, (arI G 30 f_g)), (a_p, (oc6 8 5 a_pn e_p)), (a_pn, (arI G 40 f_p)), (a_j, (oc2 a_as a_sk)), (a_as, (arI G 8 o_a)), (a_sk, (arJ G 50 o_k)), (a_l, (arW G 6 f_l)), (a_lo, (oc3 e_cl a_hd a_sr a_cd)), (a_sr, (arI G n_sr f_sr)), (a_cd, (arI G n_cd f_cd)), (a_hd, (arI G n_hd f_hd))] hP hD ?_
            clear hP hD
            intro hP hD
            have i_b : 0 ≤ o_b.toInt ∧ o_b.toInt ≤ 1000000 := i_b
            have i_y : 0 ≤ o_y.toInt ∧ o_y.toInt ≤ 3 := i_y
            have i_h : 0 ≤ o_h.toInt ∧ o_h.toInt ≤ 23 := i_h
            have i_v : 0 ≤ o_v.toInt ∧ o_v.toInt ≤ 1 := i_v
            exact W.vret hx hb hr (fun t ht hW => ⟨⟨[(a_k, (oc5 a_h a_j a_pt e_ln e_se e_lh o_b o_w o_m e_ce o_y o_h o_v)), (a_h, (oc1 e_wa e_le e_st e_fo e_lc a_l a_g a_b a_s a_p a_w e_gb a_bb)), (a_g, (oc6 6 5 a_gn e_g)), (a_gn, (arI G 30 f_g)), (a_p, (oc6 8 5 a_pn e_p)), (a_pn, (arI G 40 f_p)), (a_j, (oc2 a_as a_sk)), (a_as, (arI G 8 o_a)), (a_sk, (arJ G 50 o_k)), (a_l, (arW G 6 f_l)), (a_lo, (oc3 e_cl a_hd a_sr a_cd)), (a_sr, (arI G n_sr f_sr)), (a_cd, (arI G n_cd f_cd)), (a_hd, (arI G n_hd f_hd))], rfl, ⟨o_b, o_w, o_m, o_y, o_h, o_v, o_a, o_k, ⟨by omega, by omega⟩, ⟨by omega, by omega⟩, ⟨by omega, by omega⟩, ⟨by omega, by omega⟩, rfl⟩, by rw [ht]; exact hP.sub [0, 1, 2, 3, 4, 5, 6, 7, 8, 9, 10, 11, 12, 13] rfl, hD.sub [0, 1, 2, 3, 4, 5, 6, 7, 8, 9, 10, 11, 12, 13] (by decide +kernel) rfl⟩, hS.F ht⟩) hS.2.2 hd
  ·
    have hJ9 := va_join (wr := [(a_k, (oc5 a_h a_j a_pt e_ln e_se e_lh e_br e_we e_me e_ce e_wy e_ho 1)), (a_h, (oc1 e_wa e_le e_st e_fo e_lc a_l a_g a_b a_s a_p a_w e_gb a_bb)), (a_p, (oc6 8 5 a_pn e_p)), (a_pn, (arI G 40 f_p)), (a_j, (oc2 a_as a_sk)), (a_as, (arI G 8 f_as)), (a_sk, (arJ G 50 f_sk)), (a_l, (arW G 6 f_l)), (a_lo, (oc3 e_cl a_hd a_sr a_cd)), (a_sr, (arI G n_sr f_sr)), (a_cd, (arI G n_cd f_cd)), (a_hd, (arI G n_hd f_hd))]) hP hD [2, 3] [0, 1, 4, 5, 6, 7, 8, 9, 10, 11, 12, 13] rfl rfl (by decide +kernel) (by decide +kernel) hk1 hFc hP1 hD1
    clear hP hD hPc hDc hFc ht hvm hz1 hk1 hP1 hD1
    obtain ⟨hP, hD⟩ := hJ9
    refine g5_rs [(a_k, (oc5 a_h a_j a_pt e_ln e_se e_lh e_br e_we e_me e_ce e_wy e_ho 1)), (a_h, (oc1 e_wa e_le e_st e_fo e_lc a_l a_g a_b a_s a_p a_w e_gb a_bb)), (a_p, (oc6 8 5 a_pn e_p)), (a_pn, (arI G 40 f_p)), (a_j, (oc2 a_as a_sk)), (a_as, (arI G 8 f_as)), (a_sk, (arJ G 50 f_sk)), (a_l, (arW G 6 f_l)), (a_lo, (oc3 e_cl a_hd a_sr a_cd)), (a_sr, (arI G n_sr f_sr)), (a_cd, (arI G n_cd f_cd)), (a_hd, (arI G n_hd f_hd)), (a_g, (oc6 6 5 a_gn e_g)), (a_gn, (arI G 30 f_g))] hP hD ?_
    clear hP hD
    intro hP hD
    refine g5_ti (v := z4) y5 ?_
    refine lv_istore_n (lv' := [(1, .int z4), (0, .ref a_k)]) hx hb dX5_meetGlass_20 rfl hl (by decide +kernel) rfl ?_
    clear hl
    intro ls hl
    refine lv_iload_n hx hb dX5_meetGlass_21 rfl (lv_at hl 0 rfl) ?_
    refine lv_iconst (v := (-1)) hx hb dX5_meetGlass_22 (by decide +kernel) ?_
    refine lv_icmp_ne (tgt := 36) hx hb dX5_meetGlass_23 (by decide +kernel) (fun c_15 => ?_) (fun c_15 => ?_)
    ·
      have n_15 : gNe (z4.toInt) ((-1)) := g5_ne (a := z4.toInt) (b := (-1)) rfl (by decide +kernel) c_15
      refine lv_aload_n hx hb dX5_meetGlass_36 rfl (lv_at hl 1 rfl) ?_
      refine va_get (D := G.1) (ci := 5) (v := .ref a_h) (C := RX5) (T := TX5) (N := 13) hx hb hts inG_X5 hown hK hP 0 rfl rfl 0 (by decide +kernel) (hts _ fl_X5_22) (fun _ h9 => h9) rfl dX5_meetGlass_37 ?_
      refine va_get (D := G.1) (ci := 1) (v := .ref a_g) (C := RX1) (T := TX1) (N := 13) hx hb hts inG_X1 hown hK hP 1 rfl rfl 6 (by decide +kernel) (hts _ fl_X5_128) (fun _ h9 => h9) rfl dX5_meetGlass_40 ?_
      refine lv_astore_n (lv' := [(2, .ref a_g), (1, .int z4), (0, .ref a_k)]) hx hb dX5_meetGlass_43 rfl hl (by decide +kernel) rfl ?_
      clear hl
      intro ls hl
      refine W.eq (g2 := F0 m 44 ls []) rfl ?_
      refine lv_iload_n hx hb dX5_meetGlass_44 rfl (lv_at hl 1 rfl) ?_
      refine lv_iconst (v := (-1)) hx hb dX5_meetGlass_45 (by decide +kernel) ?_
      refine lv_icmp_ne (tgt := 67) hx hb dX5_meetGlass_46 (by decide +kernel) (fun c_16 => ?_) (fun c_16 => ?_)
      ·
        have n_16 : gNe (z4.toInt) ((-1)) := g5_ne (a := z4.toInt) (b := (-1)) rfl (by decide +kernel) c_16
        refine lv_iload_n hx hb dX5_meetGlass_67 rfl (lv_at hl 1 rfl) ?_
        refine lv_istore_n (lv' := [(3, .int z4), (2, .ref a_g), (1, .int z4), (0, .ref a_k)]) hx hb dX5_meetGlass_68 rfl hl (by decide +kernel) rfl ?_
        clear hl
        intro ls hl
        refine lv_iload_n hx hb dX5_meetGlass_69 rfl (lv_at hl 2 rfl) ?_
        refine lv_iconst (v := (-1)) hx hb dX5_meetGlass_70 (by decide +kernel) ?_
        refine W.eq (g2 := F0 m 71 ls [.int (-1), .int z4]) rfl ?_
        refine lv_icmp_ne (tgt := 81) hx hb dX5_meetGlass_71 (by decide +kernel) (fun c_17 => ?_) (fun c_17 => ?_)
        ·
          have n_17 : gNe (z4.toInt) ((-1)) := g5_ne (a := z4.toInt) (b := (-1)) rfl (by decide +kernel) c_17
          refine lv_iload_n hx hb dX5_meetGlass_81 rfl (lv_at hl 2 rfl) ?_
          refine lv_istore (lv' := [(4, .int z4), (3, .int z4), (2, .ref a_g), (1, .int z4), (0, .ref a_k)]) hx hb dX5_meetGlass_82 hl (by decide +kernel) rfl ?_
          clear hl
          intro ls hl
          refine k_mggL1 G a_k a_h a_g a_gn a_p a_pn a_j a_as a_sk a_l a_lo a_sr a_cd a_hd a_pt a_b a_s a_w a_bb n_sr n_cd n_hd e_ln e_se e_lh e_br e_we e_me e_ce e_wy e_ho 1 e_le e_st e_fo e_lc e_wa e_gb e_g f_g e_p f_p f_as f_sk f_l e_cl f_sr f_cd f_hd z4 z4 hx hb hml hown hts hK hN hT hA (hP.sub [0, 1, 12, 13, 2, 3, 4, 5, 6, 7, 8, 9, 10, 11] rfl) (hD.sub [0, 1, 12, 13, 2, 3, 4, 5, 6, 7, 8, 9, 10, 11] (by decide +kernel) rfl) hS (lv_sub hl [4, 2, 1, 0] rfl) ⟨by omega, by omega⟩ ⟨by omega, by omega⟩ ⟨by omega, by omega⟩ ⟨by omega, by omega⟩ ⟨by decide, by decide⟩ ⟨by omega, by omega⟩ ⟨by omega, by omega⟩ ⟨by omega, by omega⟩ ⟨by omega, by omega⟩ (e_gk) (e_pk) (e_f) (e_a) (e_hn) (e_hs) (e_hk) (e_c) (by omega) (fun pc1 hd o_b o_w o_m o_y o_h o_v o_a o_k ls H locs hP hD hS i_b i_y i_h i_v => ?_)
          refine g5_rs [(a_k, (oc5 a_h a_j a_pt e_ln e_se e_lh o_b o_w o_m e_ce o_y o_h o_v)), (a_h, (oc1 e_wa e_le e_st e_fo e_lc a_l a_g a_b a_s a_p a_w e_gb a_bb)), (a_g, (oc6 6 5 a_gn e_g)), (a_gn, (arI G 30 f_g)), (a_p, (oc6 8 5 a_pn e_p)), (a_pn, (arI G 40 f_p)), (a_j, (oc2 a_as a_sk)), (a_as, (arI G 8 o_a)), (a_sk, (arJ G 50 o_k)), (a_l, (arW G 6 f_l)), (a_lo, (oc3 e_cl a_hd a_sr a_cd)), (a_sr, (arI G n_sr f_sr)), (a_cd, (arI G n_cd f_cd)), (a_hd, (arI G n_hd f_hd))] hP hD ?_
          clear hP hD
          intro hP hD
          have i_b : 0 ≤ o_b.toInt ∧ o_b.toInt ≤ 1000000 := i_b
          have i_y : 0 ≤ o_y.toInt ∧ o_y.toInt ≤ 3 := i_y
          have i_h : 0 ≤ o_h.toInt ∧ o_h.toInt ≤ 23 := i_h
          have i_v : 0 ≤ o_v.toInt ∧ o_v.toInt ≤ 1 := i_v
          exact W.vret hx hb hr (fun t ht hW => ⟨⟨[(a_k, (oc5 a_h a_j a_pt e_ln e_se e_lh o_b o_w o_m e_ce o_y o_h o_v)), (a_h, (oc1 e_wa e_le e_st e_fo e_lc a_l a_g a_b a_s a_p a_w e_gb a_bb)), (a_g, (oc6 6 5 a_gn e_g)), (a_gn, (arI G 30 f_g)), (a_p, (oc6 8 5 a_pn e_p)), (a_pn, (arI G 40 f_p)), (a_j, (oc2 a_as a_sk)), (a_as, (arI G 8 o_a)), (a_sk, (arJ G 50 o_k)), (a_l, (arW G 6 f_l)), (a_lo, (oc3 e_cl a_hd a_sr a_cd)), (a_sr, (arI G n_sr f_sr)), (a_cd, (arI G n_cd f_cd)), (a_hd, (arI G n_hd f_hd))], rfl, ⟨o_b, o_w, o_m, o_y, o_h, o_v, o_a, o_k, ⟨by omega, by omega⟩, ⟨by omega, by omega⟩, ⟨by omega, by omega⟩, ⟨by omega, by omega⟩, rfl⟩, by rw [ht]; exact hP.sub [0, 1, 2, 3, 4, 5, 6, 7, 8, 9, 10, 11, 12, 13] rfl, hD.sub [0, 1, 2, 3, 4, 5, 6, 7, 8, 9, 10, 11, 12, 13] (by decide +kernel) rfl⟩, hS.F ht⟩) hS.2.2 hd
        ·
          have i_17 : z4.toInt = (-1) := g5_neN (a := z4.toInt) (b := (-1)) rfl (by decide +kernel) c_17
          omega
      ·
        have i_16 : z4.toInt = (-1) := g5_neN (a := z4.toInt) (b := (-1)) rfl (by decide +kernel) c_16
        omega
    ·
      have i_15 : z4.toInt = (-1) := g5_neN (a := z4.toInt) (b := (-1)) rfl (by decide +kernel) c_15
      omega
theorem dgX11_beside_0 : ∀ r ∈ ([(0, (.iload_n 1, 1)), (1, (.tableswitch 93 0 3 #[31, 46, 63, 78], 31)), (32, (.iload_n 0, 1)), (33, (.bipush 8, 2)), (35, (.if_icmp .lt 10, 3)), (38, (.iload_n 0, 1)), (39, (.bipush 8, 2)), (41, (.isub, 1)), (42, (.goto 4, 3)), (45, (.iconst (-1), 1)), (46, (.ireturn, 1)), (47, (.iload_n 0, 1)), (48, (.bipush 7, 2)), (50, (.iand, 1)), (51, (.bipush 7, 2)), (53, (.if_icmp .ge 9, 3)), (56, (.iload_n 0, 1)), (57, (.iconst 1, 1)), (58, (.iadd, 1)), (59, (.goto 4, 3)), (62, (.iconst (-1), 1)), (63, (.ireturn, 1)), (64, (.iload_n 0, 1)), (65, (.bipush 56, 2)), (67, (.if_icmp .ge 10, 3)), (70, (.iload_n 0, 1)), (71, (.bipush 8, 2)), (73, (.iadd, 1)), (74, (.goto 4, 3)), (77, (.iconst (-1), 1)), (78, (.ireturn, 1)), (79, (.iload_n 0, 1)), (80, (.bipush 7, 2)), (82, (.iand, 1)), (83, (.ifCond .le 9, 3)), (86, (.iload_n 0, 1)), (87, (.iconst 1, 1)), (88, (.isub, 1)), (89, (.goto 4, 3)), (92, (.iconst (-1), 1))] : List (Nat × (Instr × Nat))), decode cX11_beside r.1 = .ok r.2 := by decide +kernel
theorem dX11_beside_0 : decode cX11_beside 0 = .ok (.iload_n 1, 1) := dgX11_beside_0 (0, (.iload_n 1, 1)) (List.mem_of_getElem? (i := 0) rfl)
theorem dX11_beside_1 : decode cX11_beside 1 = .ok (.tableswitch 93 0 3 #[31, 46, 63, 78], 31) := dgX11_beside_0 (1, (.tableswitch 93 0 3 #[31, 46, 63, 78], 31)) (List.mem_of_getElem? (i := 1) rfl)
theorem dX11_beside_32 : decode cX11_beside 32 = .ok (.iload_n 0, 1) := dgX11_beside_0 (32, (.iload_n 0, 1)) (List.mem_of_getElem? (i := 2) rfl)
theorem dX11_beside_33 : decode cX11_beside 33 = .ok (.bipush 8, 2) := dgX11_beside_0 (33, (.bipush 8, 2)) (List.mem_of_getElem? (i := 3) rfl)
theorem dX11_beside_35 : decode cX11_beside 35 = .ok (.if_icmp .lt 10, 3) := dgX11_beside_0 (35, (.if_icmp .lt 10, 3)) (List.mem_of_getElem? (i := 4) rfl)
theorem dX11_beside_38 : decode cX11_beside 38 = .ok (.iload_n 0, 1) := dgX11_beside_0 (38, (.iload_n 0, 1)) (List.mem_of_getElem? (i := 5) rfl)
theorem dX11_beside_39 : decode cX11_beside 39 = .ok (.bipush 8, 2) := dgX11_beside_0 (39, (.bipush 8, 2)) (List.mem_of_getElem? (i := 6) rfl)
theorem dX11_beside_41 : decode cX11_beside 41 = .ok (.isub, 1) := dgX11_beside_0 (41, (.isub, 1)) (List.mem_of_getElem? (i := 7) rfl)
theorem dX11_beside_42 : decode cX11_beside 42 = .ok (.goto 4, 3) := dgX11_beside_0 (42, (.goto 4, 3)) (List.mem_of_getElem? (i := 8) rfl)
theorem dX11_beside_45 : decode cX11_beside 45 = .ok (.iconst (-1), 1) := dgX11_beside_0 (45, (.iconst (-1), 1)) (List.mem_of_getElem? (i := 9) rfl)
theorem dX11_beside_46 : decode cX11_beside 46 = .ok (.ireturn, 1) := dgX11_beside_0 (46, (.ireturn, 1)) (List.mem_of_getElem? (i := 10) rfl)
theorem dX11_beside_47 : decode cX11_beside 47 = .ok (.iload_n 0, 1) := dgX11_beside_0 (47, (.iload_n 0, 1)) (List.mem_of_getElem? (i := 11) rfl)
theorem dX11_beside_48 : decode cX11_beside 48 = .ok (.bipush 7, 2) := dgX11_beside_0 (48, (.bipush 7, 2)) (List.mem_of_getElem? (i := 12) rfl)
theorem dX11_beside_50 : decode cX11_beside 50 = .ok (.iand, 1) := dgX11_beside_0 (50, (.iand, 1)) (List.mem_of_getElem? (i := 13) rfl)
theorem dX11_beside_51 : decode cX11_beside 51 = .ok (.bipush 7, 2) := dgX11_beside_0 (51, (.bipush 7, 2)) (List.mem_of_getElem? (i := 14) rfl)
theorem dX11_beside_53 : decode cX11_beside 53 = .ok (.if_icmp .ge 9, 3) := dgX11_beside_0 (53, (.if_icmp .ge 9, 3)) (List.mem_of_getElem? (i := 15) rfl)
theorem dX11_beside_56 : decode cX11_beside 56 = .ok (.iload_n 0, 1) := dgX11_beside_0 (56, (.iload_n 0, 1)) (List.mem_of_getElem? (i := 16) rfl)
theorem dX11_beside_57 : decode cX11_beside 57 = .ok (.iconst 1, 1) := dgX11_beside_0 (57, (.iconst 1, 1)) (List.mem_of_getElem? (i := 17) rfl)
theorem dX11_beside_58 : decode cX11_beside 58 = .ok (.iadd, 1) := dgX11_beside_0 (58, (.iadd, 1)) (List.mem_of_getElem? (i := 18) rfl)
theorem dX11_beside_59 : decode cX11_beside 59 = .ok (.goto 4, 3) := dgX11_beside_0 (59, (.goto 4, 3)) (List.mem_of_getElem? (i := 19) rfl)
theorem dX11_beside_62 : decode cX11_beside 62 = .ok (.iconst (-1), 1) := dgX11_beside_0 (62, (.iconst (-1), 1)) (List.mem_of_getElem? (i := 20) rfl)
theorem dX11_beside_63 : decode cX11_beside 63 = .ok (.ireturn, 1) := dgX11_beside_0 (63, (.ireturn, 1)) (List.mem_of_getElem? (i := 21) rfl)
theorem dX11_beside_64 : decode cX11_beside 64 = .ok (.iload_n 0, 1) := dgX11_beside_0 (64, (.iload_n 0, 1)) (List.mem_of_getElem? (i := 22) rfl)
theorem dX11_beside_65 : decode cX11_beside 65 = .ok (.bipush 56, 2) := dgX11_beside_0 (65, (.bipush 56, 2)) (List.mem_of_getElem? (i := 23) rfl)
theorem dX11_beside_67 : decode cX11_beside 67 = .ok (.if_icmp .ge 10, 3) := dgX11_beside_0 (67, (.if_icmp .ge 10, 3)) (List.mem_of_getElem? (i := 24) rfl)
theorem dX11_beside_70 : decode cX11_beside 70 = .ok (.iload_n 0, 1) := dgX11_beside_0 (70, (.iload_n 0, 1)) (List.mem_of_getElem? (i := 25) rfl)
theorem dX11_beside_71 : decode cX11_beside 71 = .ok (.bipush 8, 2) := dgX11_beside_0 (71, (.bipush 8, 2)) (List.mem_of_getElem? (i := 26) rfl)
theorem dX11_beside_73 : decode cX11_beside 73 = .ok (.iadd, 1) := dgX11_beside_0 (73, (.iadd, 1)) (List.mem_of_getElem? (i := 27) rfl)
theorem dX11_beside_74 : decode cX11_beside 74 = .ok (.goto 4, 3) := dgX11_beside_0 (74, (.goto 4, 3)) (List.mem_of_getElem? (i := 28) rfl)
theorem dX11_beside_77 : decode cX11_beside 77 = .ok (.iconst (-1), 1) := dgX11_beside_0 (77, (.iconst (-1), 1)) (List.mem_of_getElem? (i := 29) rfl)
theorem dX11_beside_78 : decode cX11_beside 78 = .ok (.ireturn, 1) := dgX11_beside_0 (78, (.ireturn, 1)) (List.mem_of_getElem? (i := 30) rfl)
theorem dX11_beside_79 : decode cX11_beside 79 = .ok (.iload_n 0, 1) := dgX11_beside_0 (79, (.iload_n 0, 1)) (List.mem_of_getElem? (i := 31) rfl)
theorem dX11_beside_80 : decode cX11_beside 80 = .ok (.bipush 7, 2) := dgX11_beside_0 (80, (.bipush 7, 2)) (List.mem_of_getElem? (i := 32) rfl)
theorem dX11_beside_82 : decode cX11_beside 82 = .ok (.iand, 1) := dgX11_beside_0 (82, (.iand, 1)) (List.mem_of_getElem? (i := 33) rfl)
theorem dX11_beside_83 : decode cX11_beside 83 = .ok (.ifCond .le 9, 3) := dgX11_beside_0 (83, (.ifCond .le 9, 3)) (List.mem_of_getElem? (i := 34) rfl)
theorem dX11_beside_86 : decode cX11_beside 86 = .ok (.iload_n 0, 1) := dgX11_beside_0 (86, (.iload_n 0, 1)) (List.mem_of_getElem? (i := 35) rfl)
theorem dX11_beside_87 : decode cX11_beside 87 = .ok (.iconst 1, 1) := dgX11_beside_0 (87, (.iconst 1, 1)) (List.mem_of_getElem? (i := 36) rfl)
theorem dX11_beside_88 : decode cX11_beside 88 = .ok (.isub, 1) := dgX11_beside_0 (88, (.isub, 1)) (List.mem_of_getElem? (i := 37) rfl)
theorem dX11_beside_89 : decode cX11_beside 89 = .ok (.goto 4, 3) := dgX11_beside_0 (89, (.goto 4, 3)) (List.mem_of_getElem? (i := 38) rfl)
theorem dX11_beside_92 : decode cX11_beside 92 = .ok (.iconst (-1), 1) := dgX11_beside_0 (92, (.iconst (-1), 1)) (List.mem_of_getElem? (i := 39) rfl)
theorem dgX11_beside_1 : ∀ r ∈ ([(93, (.ireturn, 1)), (94, (.iload_n 0, 1)), (95, (.ireturn, 1))] : List (Nat × (Instr × Nat))), decode cX11_beside r.1 = .ok r.2 := by decide +kernel
theorem dX11_beside_93 : decode cX11_beside 93 = .ok (.ireturn, 1) := dgX11_beside_1 (93, (.ireturn, 1)) (List.mem_of_getElem? (i := 0) rfl)
theorem dX11_beside_94 : decode cX11_beside 94 = .ok (.iload_n 0, 1) := dgX11_beside_1 (94, (.iload_n 0, 1)) (List.mem_of_getElem? (i := 1) rfl)
theorem dX11_beside_95 : decode cX11_beside 95 = .ok (.ireturn, 1) := dgX11_beside_1 (95, (.ireturn, 1)) (List.mem_of_getElem? (i := 2) rfl)
set_option maxHeartbeats 4000000 in
set_option maxRecDepth 100000 in
theorem k_beside (l : Launch) (G : g5_G) (sz : Nat) (p_c : Int32) (p_w : Int32) (h_p_c : 0 ≤ p_c.toInt ∧ p_c.toInt ≤ 63) : Met l yX11_beside (wsG yX11_beside cX11_beside 2 (some .int)) ({ frames := 0, cells := 0, slots := 0, locals := 0 }) (va_Pc [.int p_c, .int p_w] (g5_P G [] sz)) (va_Qi (fun (r : Int32) (u : va_W) => (∃ (o_r : Int32), (o_r.toInt = bs p_c.toInt p_w.toInt) ∧ (-1 ≤ o_r.toInt ∧ o_r.toInt ≤ 63) ∧ (r = o_r) ∧ (u = []))) (g5_B G (va_A [] sz)) (va_A [] sz)) 0 0 (va_A [] sz) := by
  refine Met.ofW (cc := cX11_beside) (maxL := 2) (ret := (some .int)) (by decide) rfl ?_
  intro p e s m args below meth c s₁ B hml hv
  obtain ⟨rfl, hsz, hP, hK, hD0, hN, hT⟩ := hv
  have hx := B.exec
  have hb := B.bytes
  have hr := B.returns
  have hts : ∀ w ∈ tblG, w.before _ s = true := fun w h => atoms_spec (ws := (wsG yX11_beside cX11_beside 2 (some .int))) B.pre w (List.mem_cons_of_mem _ h)
  have hown : s.vm.findClass RX11 = some m.cls := findClass_of_methodNamed B.named
  have hlocks := B.notSynchronized
  subst hsz
  have hD := hD0.self (sz := s.heap.size)
  generalize hAe : va_A [] s.heap.size = A at hD hT ⊢
  have hA : ∀ q : Nat, s.heap.size ≤ q → A q := fun q h => by rw [← hAe]; exact Or.inr h
  have hS : va_S A s.heap s.heap [] := va_S.rf
  have hP : va_P G.1 vwCl [] s.heap := hP
  have hl := lv_entry ([.int p_c, .int p_w]) (n := 2) (Nat.le_of_ble_eq_true rfl)
  rw [lg_entry_eq]
  generalize (lg_sl ([.int p_c, .int p_w]) ++ List.replicate (2 - (lg_sl ([.int p_c, .int p_w])).length) Slot.unset).toArray = ls at hl ⊢
  have hl : lv_has ls 2 [(0, .int p_c), (1, .int p_w)] := hl
  refine lv_iload_n hx hb dX11_beside_0 rfl (lv_at hl 1 rfl) ?_
  rcases (show p_w.toInt = 0 ∨ p_w.toInt = 1 ∨ p_w.toInt = 2 ∨ p_w.toInt = 3 ∨ p_w.toInt < 0 ∨ p_w.toInt > 3 by omega) with s_1 | s_1 | s_1 | s_1 | s_1 | s_1
  ·
    have i_1 : p_w.toInt = 0 := by omega
    refine lv_tableIn (tgt := 32) hx hb dX11_beside_1 (by omega) (by omega) (by rw [s_1]; rfl) (by decide) ?_
    refine lv_iload_n hx hb dX11_beside_32 rfl (lv_at hl 0 rfl) ?_
    refine lv_bipush (v := 8) hx hb dX11_beside_33 (by decide) ?_
    refine lv_icmp_lt (tgt := 45) hx hb dX11_beside_35 (by decide) (fun c_2 => ?_) (fun c_2 => ?_)
    ·
      have i_2 : p_c.toInt < 8 := by have z := g5_lt (a := p_c.toInt) (b := 8) (by rfl) (by decide) c_2; omega
      refine lv_iconst (v := (-1)) hx hb dX11_beside_45 (by decide) ?_
      exact W.iret (v := (-1)) hx hb hr (fun t ht hW => ⟨⟨(-1), [], rfl, ⟨(-1), by have zc_o_r : ((-1) : Int32).toInt = (-1) := (by decide); unfold bs; omega, ⟨by have zc_o_r : ((-1) : Int32).toInt = (-1) := (by decide); omega, by have zc_o_r : ((-1) : Int32).toInt = (-1) := (by decide); omega⟩, rfl, rfl⟩, by rw [ht]; exact hP.sub [] rfl, hD.sub [] (by decide) rfl⟩, hS.F ht⟩) hS.2.2 dX11_beside_46
    ·
      have i_2 : p_c.toInt ≥ 8 := by have z := g5_ltN (a := p_c.toInt) (b := 8) (by rfl) (by decide) c_2; omega
      refine lv_iload_n hx hb dX11_beside_38 rfl (lv_at hl 0 rfl) ?_
      refine lv_bipush (v := 8) hx hb dX11_beside_39 (by decide) ?_
      refine lv_isub hx hb dX11_beside_41 ?_
      have t_3 : (p_c - 8).toInt = p_c.toInt - 8 := g5_isub (a := p_c.toInt) (b := 8) (by rfl) (by decide) (by omega) (by omega)
      refine lv_goto (tgt := 46) hx hb dX11_beside_42 (by decide) ?_
      refine W.eq (g2 := F0 m 46 ls [.int (p_c - 8)]) rfl ?_
      exact W.iret (v := (p_c - 8)) hx hb hr (fun t ht hW => ⟨⟨(p_c - 8), [], rfl, ⟨(p_c - 8), by unfold bs; omega, ⟨by omega, by omega⟩, rfl, rfl⟩, by rw [ht]; exact hP.sub [] rfl, hD.sub [] (by decide) rfl⟩, hS.F ht⟩) hS.2.2 dX11_beside_46
  ·
    have i_1 : p_w.toInt = 1 := by omega
    refine lv_tableIn (tgt := 47) hx hb dX11_beside_1 (by omega) (by omega) (by rw [s_1]; rfl) (by decide) ?_
    refine lv_iload_n hx hb dX11_beside_47 rfl (lv_at hl 0 rfl) ?_
    refine lv_bipush (v := 7) hx hb dX11_beside_48 (by decide) ?_
    refine lv_iand hx hb dX11_beside_50 ?_
    have t_4 : (p_c &&& 7).toInt = p_c.toInt % 8 := g5_and7 (a := p_c.toInt) rfl (by omega)
    refine lv_bipush (v := 7) hx hb dX11_beside_51 (by decide) ?_
    refine W.eq (g2 := F0 m 53 ls [.int 7, .int (p_c &&& 7)]) rfl ?_
    refine lv_icmp_ge (tgt := 62) hx hb dX11_beside_53 (by decide) (fun c_5 => ?_) (fun c_5 => ?_)
    ·
      have i_5 : (p_c.toInt % 8) ≥ 7 := by have z := g5_ge (a := (p_c &&& 7).toInt) (b := 7) (by rfl) (by decide) c_5; omega
      refine lv_iconst (v := (-1)) hx hb dX11_beside_62 (by decide) ?_
      exact W.iret (v := (-1)) hx hb hr (fun t ht hW => ⟨⟨(-1), [], rfl, ⟨(-1), by have zc_o_r : ((-1) : Int32).toInt = (-1) := (by decide); unfold bs; omega, ⟨by have zc_o_r : ((-1) : Int32).toInt = (-1) := (by decide); omega, by have zc_o_r : ((-1) : Int32).toInt = (-1) := (by decide); omega⟩, rfl, rfl⟩, by rw [ht]; exact hP.sub [] rfl, hD.sub [] (by decide) rfl⟩, hS.F ht⟩) hS.2.2 dX11_beside_63
    ·
      have i_5 : (p_c.toInt % 8) < 7 := by have z := g5_geN (a := (p_c &&& 7).toInt) (b := 7) (by rfl) (by decide) c_5; omega
      refine lv_iload_n hx hb dX11_beside_56 rfl (lv_at hl 0 rfl) ?_
      refine lv_iconst (v := 1) hx hb dX11_beside_57 (by decide) ?_
      refine lv_iadd hx hb dX11_beside_58 ?_
      have t_6 : (p_c + 1).toInt = p_c.toInt + 1 := g5_iadd (a := p_c.toInt) (b := 1) (by rfl) (by decide) (by omega) (by omega)
      refine lv_goto (tgt := 63) hx hb dX11_beside_59 (by decide) ?_
      refine W.eq (g2 := F0 m 63 ls [.int (p_c + 1)]) rfl ?_
      exact W.iret (v := (p_c + 1)) hx hb hr (fun t ht hW => ⟨⟨(p_c + 1), [], rfl, ⟨(p_c + 1), by unfold bs; omega, ⟨by omega, by omega⟩, rfl, rfl⟩, by rw [ht]; exact hP.sub [] rfl, hD.sub [] (by decide) rfl⟩, hS.F ht⟩) hS.2.2 dX11_beside_63
  ·
    have i_1 : p_w.toInt = 2 := by omega
    refine lv_tableIn (tgt := 64) hx hb dX11_beside_1 (by omega) (by omega) (by rw [s_1]; rfl) (by decide) ?_
    refine lv_iload_n hx hb dX11_beside_64 rfl (lv_at hl 0 rfl) ?_
    refine lv_bipush (v := 56) hx hb dX11_beside_65 (by decide) ?_
    refine lv_icmp_ge (tgt := 77) hx hb dX11_beside_67 (by decide) (fun c_7 => ?_) (fun c_7 => ?_)
    ·
      have i_7 : p_c.toInt ≥ 56 := by have z := g5_ge (a := p_c.toInt) (b := 56) (by rfl) (by decide) c_7; omega
      refine lv_iconst (v := (-1)) hx hb dX11_beside_77 (by decide) ?_
      exact W.iret (v := (-1)) hx hb hr (fun t ht hW => ⟨⟨(-1), [], rfl, ⟨(-1), by have zc_o_r : ((-1) : Int32).toInt = (-1) := (by decide); unfold bs; omega, ⟨by have zc_o_r : ((-1) : Int32).toInt = (-1) := (by decide); omega, by have zc_o_r : ((-1) : Int32).toInt = (-1) := (by decide); omega⟩, rfl, rfl⟩, by rw [ht]; exact hP.sub [] rfl, hD.sub [] (by decide) rfl⟩, hS.F ht⟩) hS.2.2 dX11_beside_78
    ·
      have i_7 : p_c.toInt < 56 := by have z := g5_geN (a := p_c.toInt) (b := 56) (by rfl) (by decide) c_7; omega
      refine lv_iload_n hx hb dX11_beside_70 rfl (lv_at hl 0 rfl) ?_
      refine lv_bipush (v := 8) hx hb dX11_beside_71 (by decide) ?_
      refine lv_iadd hx hb dX11_beside_73 ?_
      have t_8 : (p_c + 8).toInt = p_c.toInt + 8 := g5_iadd (a := p_c.toInt) (b := 8) (by rfl) (by decide) (by omega) (by omega)
      refine lv_goto (tgt := 78) hx hb dX11_beside_74 (by decide) ?_
      refine W.eq (g2 := F0 m 78 ls [.int (p_c + 8)]) rfl ?_
      exact W.iret (v := (p_c + 8)) hx hb hr (fun t ht hW => ⟨⟨(p_c + 8), [], rfl, ⟨(p_c + 8), by unfold bs; omega, ⟨by omega, by omega⟩, rfl, rfl⟩, by rw [ht]; exact hP.sub [] rfl, hD.sub [] (by decide) rfl⟩, hS.F ht⟩) hS.2.2 dX11_beside_78
  ·
    have i_1 : p_w.toInt = 3 := by omega
    refine lv_tableIn (tgt := 79) hx hb dX11_beside_1 (by omega) (by omega) (by rw [s_1]; rfl) (by decide) ?_
    refine lv_iload_n hx hb dX11_beside_79 rfl (lv_at hl 0 rfl) ?_
    refine lv_bipush (v := 7) hx hb dX11_beside_80 (by decide) ?_
    refine lv_iand hx hb dX11_beside_82 ?_
    have t_9 : (p_c &&& 7).toInt = p_c.toInt % 8 := g5_and7 (a := p_c.toInt) rfl (by omega)
    refine lv_if_le (tgt := 92) hx hb dX11_beside_83 (by decide) (fun c_10 => ?_) (fun c_10 => ?_)
    ·
      have i_10 : (p_c.toInt % 8) ≤ 0 := by have z := g5_le (a := (p_c &&& 7).toInt) (b := 0) (by rfl) (by decide) c_10; omega
      refine lv_iconst (v := (-1)) hx hb dX11_beside_92 (by decide) ?_
      exact W.iret (v := (-1)) hx hb hr (fun t ht hW => ⟨⟨(-1), [], rfl, ⟨(-1), by have zc_o_r : ((-1) : Int32).toInt = (-1) := (by decide); unfold bs; omega, ⟨by have zc_o_r : ((-1) : Int32).toInt = (-1) := (by decide); omega, by have zc_o_r : ((-1) : Int32).toInt = (-1) := (by decide); omega⟩, rfl, rfl⟩, by rw [ht]; exact hP.sub [] rfl, hD.sub [] (by decide) rfl⟩, hS.F ht⟩) hS.2.2 dX11_beside_93
    ·
      have i_10 : (p_c.toInt % 8) > 0 := by have z := g5_leN (a := (p_c &&& 7).toInt) (b := 0) (by rfl) (by decide) c_10; omega
      refine lv_iload_n hx hb dX11_beside_86 rfl (lv_at hl 0 rfl) ?_
      refine lv_iconst (v := 1) hx hb dX11_beside_87 (by decide) ?_
      refine lv_isub hx hb dX11_beside_88 ?_
      have t_11 : (p_c - 1).toInt = p_c.toInt - 1 := g5_isub (a := p_c.toInt) (b := 1) (by rfl) (by decide) (by omega) (by omega)
      refine lv_goto (tgt := 93) hx hb dX11_beside_89 (by decide) ?_
      refine W.eq (g2 := F0 m 93 ls [.int (p_c - 1)]) rfl ?_
      exact W.iret (v := (p_c - 1)) hx hb hr (fun t ht hW => ⟨⟨(p_c - 1), [], rfl, ⟨(p_c - 1), by unfold bs; omega, ⟨by omega, by omega⟩, rfl, rfl⟩, by rw [ht]; exact hP.sub [] rfl, hD.sub [] (by decide) rfl⟩, hS.F ht⟩) hS.2.2 dX11_beside_93
  ·
    have i_1 : p_w.toInt < 0 := by omega
    refine lv_tableOut (tgt := 94) hx hb dX11_beside_1 (by omega) (by decide) ?_
    refine lv_iload_n hx hb dX11_beside_94 rfl (lv_at hl 0 rfl) ?_
    exact W.iret (v := p_c) hx hb hr (fun t ht hW => ⟨⟨p_c, [], rfl, ⟨p_c, by unfold bs; omega, ⟨by omega, by omega⟩, rfl, rfl⟩, by rw [ht]; exact hP.sub [] rfl, hD.sub [] (by decide) rfl⟩, hS.F ht⟩) hS.2.2 dX11_beside_95
  ·
    have i_1 : p_w.toInt > 3 := by omega
    refine lv_tableOut (tgt := 94) hx hb dX11_beside_1 (by omega) (by decide) ?_
    refine lv_iload_n hx hb dX11_beside_94 rfl (lv_at hl 0 rfl) ?_
    exact W.iret (v := p_c) hx hb hr (fun t ht hW => ⟨⟨p_c, [], rfl, ⟨p_c, by unfold bs; omega, ⟨by omega, by omega⟩, rfl, rfl⟩, by rw [ht]; exact hP.sub [] rfl, hD.sub [] (by decide) rfl⟩, hS.F ht⟩) hS.2.2 dX11_beside_95
theorem dgX11_isLook_0 : ∀ r ∈ ([(0, (.iload_n 0, 1)), (1, (.invokestatic 97, 3)), (4, (.ifCond .eq 23, 3)), (7, (.iload_n 1, 1)), (8, (.ifCond .lt 19, 3)), (11, (.iload_n 1, 1)), (12, (.iconst 4, 1)), (13, (.if_icmp .ge 14, 3)), (16, (.iload_n 2, 1)), (17, (.invokestatic 127, 3)), (20, (.ifCond .eq 7, 3)), (23, (.iconst 1, 1)), (24, (.goto 4, 3)), (27, (.iconst 0, 1)), (28, (.ireturn, 1))] : List (Nat × (Instr × Nat))), decode cX11_isLook r.1 = .ok r.2 := by decide +kernel
theorem dX11_isLook_0 : decode cX11_isLook 0 = .ok (.iload_n 0, 1) := dgX11_isLook_0 (0, (.iload_n 0, 1)) (List.mem_of_getElem? (i := 0) rfl)
theorem dX11_isLook_1 : decode cX11_isLook 1 = .ok (.invokestatic 97, 3) := dgX11_isLook_0 (1, (.invokestatic 97, 3)) (List.mem_of_getElem? (i := 1) rfl)
theorem dX11_isLook_4 : decode cX11_isLook 4 = .ok (.ifCond .eq 23, 3) := dgX11_isLook_0 (4, (.ifCond .eq 23, 3)) (List.mem_of_getElem? (i := 2) rfl)
theorem dX11_isLook_7 : decode cX11_isLook 7 = .ok (.iload_n 1, 1) := dgX11_isLook_0 (7, (.iload_n 1, 1)) (List.mem_of_getElem? (i := 3) rfl)
theorem dX11_isLook_8 : decode cX11_isLook 8 = .ok (.ifCond .lt 19, 3) := dgX11_isLook_0 (8, (.ifCond .lt 19, 3)) (List.mem_of_getElem? (i := 4) rfl)
theorem dX11_isLook_11 : decode cX11_isLook 11 = .ok (.iload_n 1, 1) := dgX11_isLook_0 (11, (.iload_n 1, 1)) (List.mem_of_getElem? (i := 5) rfl)
theorem dX11_isLook_12 : decode cX11_isLook 12 = .ok (.iconst 4, 1) := dgX11_isLook_0 (12, (.iconst 4, 1)) (List.mem_of_getElem? (i := 6) rfl)
theorem dX11_isLook_13 : decode cX11_isLook 13 = .ok (.if_icmp .ge 14, 3) := dgX11_isLook_0 (13, (.if_icmp .ge 14, 3)) (List.mem_of_getElem? (i := 7) rfl)
theorem dX11_isLook_16 : decode cX11_isLook 16 = .ok (.iload_n 2, 1) := dgX11_isLook_0 (16, (.iload_n 2, 1)) (List.mem_of_getElem? (i := 8) rfl)
theorem dX11_isLook_17 : decode cX11_isLook 17 = .ok (.invokestatic 127, 3) := dgX11_isLook_0 (17, (.invokestatic 127, 3)) (List.mem_of_getElem? (i := 9) rfl)
theorem dX11_isLook_20 : decode cX11_isLook 20 = .ok (.ifCond .eq 7, 3) := dgX11_isLook_0 (20, (.ifCond .eq 7, 3)) (List.mem_of_getElem? (i := 10) rfl)
theorem dX11_isLook_23 : decode cX11_isLook 23 = .ok (.iconst 1, 1) := dgX11_isLook_0 (23, (.iconst 1, 1)) (List.mem_of_getElem? (i := 11) rfl)
theorem dX11_isLook_24 : decode cX11_isLook 24 = .ok (.goto 4, 3) := dgX11_isLook_0 (24, (.goto 4, 3)) (List.mem_of_getElem? (i := 12) rfl)
theorem dX11_isLook_27 : decode cX11_isLook 27 = .ok (.iconst 0, 1) := dgX11_isLook_0 (27, (.iconst 0, 1)) (List.mem_of_getElem? (i := 13) rfl)
theorem dX11_isLook_28 : decode cX11_isLook 28 = .ok (.ireturn, 1) := dgX11_isLook_0 (28, (.ireturn, 1)) (List.mem_of_getElem? (i := 14) rfl)
theorem dgX11_isCell_0 : ∀ r ∈ ([(0, (.iload_n 0, 1)), (1, (.ifCond .lt 13, 3)), (4, (.iload_n 0, 1)), (5, (.bipush 64, 2)), (7, (.if_icmp .ge 7, 3)), (10, (.iconst 1, 1)), (11, (.goto 4, 3)), (14, (.iconst 0, 1)), (15, (.ireturn, 1))] : List (Nat × (Instr × Nat))), decode cX11_isCell r.1 = .ok r.2 := by decide +kernel
theorem dX11_isCell_0 : decode cX11_isCell 0 = .ok (.iload_n 0, 1) := dgX11_isCell_0 (0, (.iload_n 0, 1)) (List.mem_of_getElem? (i := 0) rfl)
theorem dX11_isCell_1 : decode cX11_isCell 1 = .ok (.ifCond .lt 13, 3) := dgX11_isCell_0 (1, (.ifCond .lt 13, 3)) (List.mem_of_getElem? (i := 1) rfl)
theorem dX11_isCell_4 : decode cX11_isCell 4 = .ok (.iload_n 0, 1) := dgX11_isCell_0 (4, (.iload_n 0, 1)) (List.mem_of_getElem? (i := 2) rfl)
theorem dX11_isCell_5 : decode cX11_isCell 5 = .ok (.bipush 64, 2) := dgX11_isCell_0 (5, (.bipush 64, 2)) (List.mem_of_getElem? (i := 3) rfl)
theorem dX11_isCell_7 : decode cX11_isCell 7 = .ok (.if_icmp .ge 7, 3) := dgX11_isCell_0 (7, (.if_icmp .ge 7, 3)) (List.mem_of_getElem? (i := 4) rfl)
theorem dX11_isCell_10 : decode cX11_isCell 10 = .ok (.iconst 1, 1) := dgX11_isCell_0 (10, (.iconst 1, 1)) (List.mem_of_getElem? (i := 5) rfl)
theorem dX11_isCell_11 : decode cX11_isCell 11 = .ok (.goto 4, 3) := dgX11_isCell_0 (11, (.goto 4, 3)) (List.mem_of_getElem? (i := 6) rfl)
theorem dX11_isCell_14 : decode cX11_isCell 14 = .ok (.iconst 0, 1) := dgX11_isCell_0 (14, (.iconst 0, 1)) (List.mem_of_getElem? (i := 7) rfl)
theorem dX11_isCell_15 : decode cX11_isCell 15 = .ok (.ireturn, 1) := dgX11_isCell_0 (15, (.ireturn, 1)) (List.mem_of_getElem? (i := 8) rfl)
set_option maxHeartbeats 4000000 in
set_option maxRecDepth 100000 in
theorem kX11_isCell (l : Launch) (G : g5_G) (sz : Nat) (n0 : Int32) : Met l yX11_isCell (wsG yX11_isCell cX11_isCell 1 (some .boolean)) ({ frames := 0, cells := 0, slots := 0, locals := 0 }) (va_Pc [.int n0] (g5_P G [] sz)) (va_Qi (fun (r : Int32) (u : va_W) => ((n0.toInt < 0) ∧ (r = 0) ∧ (u = [])) ∨ ((n0.toInt ≥ 0) ∧ (n0.toInt ≥ 64) ∧ (r = 0) ∧ (u = [])) ∨ ((n0.toInt ≥ 0) ∧ (n0.toInt < 64) ∧ (r = 1) ∧ (u = []))) (g5_B G (va_A [] sz)) (va_A [] sz)) 0 0 (va_A [] sz) := by
  refine Met.ofW (cc := cX11_isCell) (maxL := 1) (ret := (some .boolean)) (by decide) rfl ?_
  intro p e s m args below meth c s₁ B hml hv
  obtain ⟨rfl, hsz, hP, hK, hD0, hN, hT⟩ := hv
  have hx := B.exec
  have hb := B.bytes
  have hr := B.returns
  have hts : ∀ w ∈ tblG, w.before _ s = true := fun w h => atoms_spec (ws := (wsG yX11_isCell cX11_isCell 1 (some .boolean))) B.pre w (List.mem_cons_of_mem _ h)
  have hown : s.vm.findClass RX11 = some m.cls := findClass_of_methodNamed B.named
  have hlocks := B.notSynchronized
  subst hsz
  have hD := hD0.self (sz := s.heap.size)
  generalize hAe : va_A [] s.heap.size = A at hD hT ⊢
  have hA : ∀ q : Nat, s.heap.size ≤ q → A q := fun q h => by rw [← hAe]; exact Or.inr h
  have hS : va_S A s.heap s.heap [] := va_S.rf
  have hP : va_P G.1 vwCl [] s.heap := hP
  have hl := lv_entry ([.int n0]) (n := 1) (Nat.le_of_ble_eq_true rfl)
  rw [lg_entry_eq]
  generalize (lg_sl ([.int n0]) ++ List.replicate (1 - (lg_sl ([.int n0])).length) Slot.unset).toArray = ls at hl ⊢
  have hl : lv_has ls 1 [(0, .int n0)] := hl
  refine lv_iload_n hx hb dX11_isCell_0 rfl (lv_at hl 0 rfl) ?_
  refine lv_if_lt (tgt := 14) hx hb dX11_isCell_1 (by decide) (fun c_1 => ?_) (fun c_1 => ?_)
  ·
    have i_1 : n0.toInt < 0 := by have z := g5_lt (a := n0.toInt) (b := 0) (by rfl) (by decide) c_1; omega
    refine lv_iconst (v := 0) hx hb dX11_isCell_14 (by decide) ?_
    exact W.zret (v := 0) hx hb hr rfl (fun t ht hW => ⟨⟨0, [], rfl, Or.inl (⟨i_1, rfl, rfl⟩), by rw [ht]; exact hP, hD⟩, hS.F ht⟩) hS.2.2 dX11_isCell_15
  ·
    have i_1 : n0.toInt ≥ 0 := by have z := g5_ltN (a := n0.toInt) (b := 0) (by rfl) (by decide) c_1; omega
    refine lv_iload_n hx hb dX11_isCell_4 rfl (lv_at hl 0 rfl) ?_
    refine lv_bipush (v := 64) hx hb dX11_isCell_5 (by decide) ?_
    refine lv_icmp_ge (tgt := 14) hx hb dX11_isCell_7 (by decide) (fun c_2 => ?_) (fun c_2 => ?_)
    ·
      have i_2 : n0.toInt ≥ 64 := by have z := g5_ge (a := n0.toInt) (b := 64) (by rfl) (by decide) c_2; omega
      refine lv_iconst (v := 0) hx hb dX11_isCell_14 (by decide) ?_
      exact W.zret (v := 0) hx hb hr rfl (fun t ht hW => ⟨⟨0, [], rfl, Or.inr (Or.inl (⟨i_1, i_2, rfl, rfl⟩)), by rw [ht]; exact hP, hD⟩, hS.F ht⟩) hS.2.2 dX11_isCell_15
    ·
      have i_2 : n0.toInt < 64 := by have z := g5_geN (a := n0.toInt) (b := 64) (by rfl) (by decide) c_2; omega
      refine lv_iconst (v := 1) hx hb dX11_isCell_10 (by decide) ?_
      refine lv_goto (tgt := 15) hx hb dX11_isCell_11 (by decide) ?_
      exact W.zret (v := 1) hx hb hr rfl (fun t ht hW => ⟨⟨1, [], rfl, Or.inr (Or.inr (⟨i_1, i_2, rfl, rfl⟩)), by rw [ht]; exact hP, hD⟩, hS.F ht⟩) hS.2.2 dX11_isCell_15
theorem ml_X11_97 : Cond.methodLink RX11 97 yX11_isCell ∈ tblG := tg 500 (by decide +kernel) (by decide +kernel)
theorem st_X11_isCell : Cond.static yX11_isCell ∈ tblG := tg 501 (by decide +kernel) (by decide +kernel)
theorem cd_X11_isCell : Cond.code yX11_isCell cX11_isCell 1 (some .boolean) ∈ tblG := tg 502 (by decide +kernel) (by decide +kernel)
theorem gW_X11_isCell : GoodIn tblG (wsG yX11_isCell cX11_isCell 1 (some .boolean)) := tgi cd_X11_isCell
theorem gS_X11_97 : GoodIn tblG (va_wsS RX11 97 yX11_isCell (wsG yX11_isCell cX11_isCell 1 (some .boolean))) := tgS ml_X11_97 st_X11_isCell ini_X11 gW_X11_isCell
theorem hs_X11_isCell : yX11_isCell.cls ≠ "java/lang/invoke/MethodHandle" ∧ yX11_isCell.cls ≠ "java/lang/invoke/VarHandle" ∧ (parseMethodDescriptor yX11_isCell.desc).map (fun d => d.parameters.length) = some 1 := by decide +kernel
theorem dgX11_isHour_0 : ∀ r ∈ ([(0, (.iload_n 0, 1)), (1, (.ifCond .lt 13, 3)), (4, (.iload_n 0, 1)), (5, (.bipush 24, 2)), (7, (.if_icmp .ge 7, 3)), (10, (.iconst 1, 1)), (11, (.goto 4, 3)), (14, (.iconst 0, 1)), (15, (.ireturn, 1))] : List (Nat × (Instr × Nat))), decode cX11_isHour r.1 = .ok r.2 := by decide +kernel
theorem dX11_isHour_0 : decode cX11_isHour 0 = .ok (.iload_n 0, 1) := dgX11_isHour_0 (0, (.iload_n 0, 1)) (List.mem_of_getElem? (i := 0) rfl)
theorem dX11_isHour_1 : decode cX11_isHour 1 = .ok (.ifCond .lt 13, 3) := dgX11_isHour_0 (1, (.ifCond .lt 13, 3)) (List.mem_of_getElem? (i := 1) rfl)
theorem dX11_isHour_4 : decode cX11_isHour 4 = .ok (.iload_n 0, 1) := dgX11_isHour_0 (4, (.iload_n 0, 1)) (List.mem_of_getElem? (i := 2) rfl)
theorem dX11_isHour_5 : decode cX11_isHour 5 = .ok (.bipush 24, 2) := dgX11_isHour_0 (5, (.bipush 24, 2)) (List.mem_of_getElem? (i := 3) rfl)
theorem dX11_isHour_7 : decode cX11_isHour 7 = .ok (.if_icmp .ge 7, 3) := dgX11_isHour_0 (7, (.if_icmp .ge 7, 3)) (List.mem_of_getElem? (i := 4) rfl)
theorem dX11_isHour_10 : decode cX11_isHour 10 = .ok (.iconst 1, 1) := dgX11_isHour_0 (10, (.iconst 1, 1)) (List.mem_of_getElem? (i := 5) rfl)
theorem dX11_isHour_11 : decode cX11_isHour 11 = .ok (.goto 4, 3) := dgX11_isHour_0 (11, (.goto 4, 3)) (List.mem_of_getElem? (i := 6) rfl)
theorem dX11_isHour_14 : decode cX11_isHour 14 = .ok (.iconst 0, 1) := dgX11_isHour_0 (14, (.iconst 0, 1)) (List.mem_of_getElem? (i := 7) rfl)
theorem dX11_isHour_15 : decode cX11_isHour 15 = .ok (.ireturn, 1) := dgX11_isHour_0 (15, (.ireturn, 1)) (List.mem_of_getElem? (i := 8) rfl)
set_option maxHeartbeats 4000000 in
set_option maxRecDepth 100000 in
theorem kX11_isHour (l : Launch) (G : g5_G) (sz : Nat) (n0 : Int32) : Met l yX11_isHour (wsG yX11_isHour cX11_isHour 1 (some .boolean)) ({ frames := 0, cells := 0, slots := 0, locals := 0 }) (va_Pc [.int n0] (g5_P G [] sz)) (va_Qi (fun (r : Int32) (u : va_W) => ((n0.toInt < 0) ∧ (r = 0) ∧ (u = [])) ∨ ((n0.toInt ≥ 0) ∧ (n0.toInt ≥ 24) ∧ (r = 0) ∧ (u = [])) ∨ ((n0.toInt ≥ 0) ∧ (n0.toInt < 24) ∧ (r = 1) ∧ (u = []))) (g5_B G (va_A [] sz)) (va_A [] sz)) 0 0 (va_A [] sz) := by
  refine Met.ofW (cc := cX11_isHour) (maxL := 1) (ret := (some .boolean)) (by decide) rfl ?_
  intro p e s m args below meth c s₁ B hml hv
  obtain ⟨rfl, hsz, hP, hK, hD0, hN, hT⟩ := hv
  have hx := B.exec
  have hb := B.bytes
  have hr := B.returns
  have hts : ∀ w ∈ tblG, w.before _ s = true := fun w h => atoms_spec (ws := (wsG yX11_isHour cX11_isHour 1 (some .boolean))) B.pre w (List.mem_cons_of_mem _ h)
  have hown : s.vm.findClass RX11 = some m.cls := findClass_of_methodNamed B.named
  have hlocks := B.notSynchronized
  subst hsz
  have hD := hD0.self (sz := s.heap.size)
  generalize hAe : va_A [] s.heap.size = A at hD hT ⊢
  have hA : ∀ q : Nat, s.heap.size ≤ q → A q := fun q h => by rw [← hAe]; exact Or.inr h
  have hS : va_S A s.heap s.heap [] := va_S.rf
  have hP : va_P G.1 vwCl [] s.heap := hP
  have hl := lv_entry ([.int n0]) (n := 1) (Nat.le_of_ble_eq_true rfl)
  rw [lg_entry_eq]
  generalize (lg_sl ([.int n0]) ++ List.replicate (1 - (lg_sl ([.int n0])).length) Slot.unset).toArray = ls at hl ⊢
  have hl : lv_has ls 1 [(0, .int n0)] := hl
  refine lv_iload_n hx hb dX11_isHour_0 rfl (lv_at hl 0 rfl) ?_
  refine lv_if_lt (tgt := 14) hx hb dX11_isHour_1 (by decide) (fun c_1 => ?_) (fun c_1 => ?_)
  ·
    have i_1 : n0.toInt < 0 := by have z := g5_lt (a := n0.toInt) (b := 0) (by rfl) (by decide) c_1; omega
    refine lv_iconst (v := 0) hx hb dX11_isHour_14 (by decide) ?_
    exact W.zret (v := 0) hx hb hr rfl (fun t ht hW => ⟨⟨0, [], rfl, Or.inl (⟨i_1, rfl, rfl⟩), by rw [ht]; exact hP, hD⟩, hS.F ht⟩) hS.2.2 dX11_isHour_15
  ·
    have i_1 : n0.toInt ≥ 0 := by have z := g5_ltN (a := n0.toInt) (b := 0) (by rfl) (by decide) c_1; omega
    refine lv_iload_n hx hb dX11_isHour_4 rfl (lv_at hl 0 rfl) ?_
    refine lv_bipush (v := 24) hx hb dX11_isHour_5 (by decide) ?_
    refine lv_icmp_ge (tgt := 14) hx hb dX11_isHour_7 (by decide) (fun c_2 => ?_) (fun c_2 => ?_)
    ·
      have i_2 : n0.toInt ≥ 24 := by have z := g5_ge (a := n0.toInt) (b := 24) (by rfl) (by decide) c_2; omega
      refine lv_iconst (v := 0) hx hb dX11_isHour_14 (by decide) ?_
      exact W.zret (v := 0) hx hb hr rfl (fun t ht hW => ⟨⟨0, [], rfl, Or.inr (Or.inl (⟨i_1, i_2, rfl, rfl⟩)), by rw [ht]; exact hP, hD⟩, hS.F ht⟩) hS.2.2 dX11_isHour_15
    ·
      have i_2 : n0.toInt < 24 := by have z := g5_geN (a := n0.toInt) (b := 24) (by rfl) (by decide) c_2; omega
      refine lv_iconst (v := 1) hx hb dX11_isHour_10 (by decide) ?_
      refine lv_goto (tgt := 15) hx hb dX11_isHour_11 (by decide) ?_
      exact W.zret (v := 1) hx hb hr rfl (fun t ht hW => ⟨⟨1, [], rfl, Or.inr (Or.inr (⟨i_1, i_2, rfl, rfl⟩)), by rw [ht]; exact hP, hD⟩, hS.F ht⟩) hS.2.2 dX11_isHour_15
theorem ml_X11_127 : Cond.methodLink RX11 127 yX11_isHour ∈ tblG := tg 538 (by decide +kernel) (by decide +kernel)
theorem st_X11_isHour : Cond.static yX11_isHour ∈ tblG := tg 539 (by decide +kernel) (by decide +kernel)
theorem cd_X11_isHour : Cond.code yX11_isHour cX11_isHour 1 (some .boolean) ∈ tblG := tg 540 (by decide +kernel) (by decide +kernel)
theorem gW_X11_isHour : GoodIn tblG (wsG yX11_isHour cX11_isHour 1 (some .boolean)) := tgi cd_X11_isHour
theorem gS_X11_127 : GoodIn tblG (va_wsS RX11 127 yX11_isHour (wsG yX11_isHour cX11_isHour 1 (some .boolean))) := tgS ml_X11_127 st_X11_isHour ini_X11 gW_X11_isHour
theorem hs_X11_isHour : yX11_isHour.cls ≠ "java/lang/invoke/MethodHandle" ∧ yX11_isHour.cls ≠ "java/lang/invoke/VarHandle" ∧ (parseMethodDescriptor yX11_isHour.desc).map (fun d => d.parameters.length) = some 1 := by decide +kernel
set_option maxHeartbeats 4000000 in
set_option maxRecDepth 100000 in
theorem x_isLook (l : Launch) (G : g5_G) (sz : Nat) (p_c : Int32) (p_w : Int32) (p_h : Int32) : Met l yX11_isLook (wsG yX11_isLook cX11_isLook 3 (some .boolean)) ({ frames := 1, cells := 0, slots := 0, locals := 20 }) (va_Pc [.int p_c, .int p_w, .int p_h] (g5_P G [] sz)) (va_Qi (fun (r : Int32) (u : va_W) => (((0 ≤ p_c.toInt ∧ p_c.toInt ≤ 63) ∧ (0 ≤ p_w.toInt ∧ p_w.toInt ≤ 3) ∧ (0 ≤ p_h.toInt ∧ p_h.toInt ≤ 23)) ∧ (r = 1) ∧ (u = [])) ∨ ((r = 0) ∧ (u = []))) (g5_B G (va_A [] sz)) (va_A [] sz)) 0 0 (va_A [] sz) := by
  refine Met.ofW (cc := cX11_isLook) (maxL := 3) (ret := (some .boolean)) (by decide +kernel) rfl ?_
  intro p e s m args below meth c s₁ B hml hv
  obtain ⟨rfl, hsz, hP, hK, hD0, hN, hT⟩ := hv
  have hx := B.exec
  have hb := B.bytes
  have hr := B.returns
  have hts : ∀ w ∈ tblG, w.before _ s = true := fun w h => atoms_spec (ws := (wsG yX11_isLook cX11_isLook 3 (some .boolean))) B.pre w (List.mem_cons_of_mem _ h)
  have hown : s.vm.findClass RX11 = some m.cls := findClass_of_methodNamed B.named
  have hlocks := B.notSynchronized
  subst hsz
  have hD := hD0.self (sz := s.heap.size)
  generalize hAe : va_A [] s.heap.size = A at hD hT ⊢
  have hA : ∀ q : Nat, s.heap.size ≤ q → A q := fun q h => by rw [← hAe]; exact Or.inr h
  have hS : va_S A s.heap s.heap [] := va_S.rf
  replace hP : va_P G.1 vwCl [] s.heap := hP
  have hl := lv_entry ([.int p_c, .int p_w, .int p_h]) (n := 3) (Nat.le_of_ble_eq_true rfl)
  rw [lg_entry_eq]
  generalize (lg_sl ([.int p_c, .int p_w, .int p_h]) ++ List.replicate (3 - (lg_sl ([.int p_c, .int p_w, .int p_h])).length) Slot.unset).toArray = ls at hl ⊢
  replace hl : lv_has ls 3 [(0, .int p_c), (1, .int p_w), (2, .int p_h)] := hl
  refine lv_iload_n hx hb dX11_isLook_0 rfl (lv_at hl 0 rfl) ?_
  obtain ⟨hPc, hDc, hFc⟩ := g5_sub3 (wc := []) hP hD hS hA [] (by decide +kernel) rfl
  refine va_calli (va_runS (As := [.int p_c]) (rest := []) ⟨hx, hb, hml, hown, hts⟩ (kX11_isCell l G s.heap.size p_c) (va_cwS 1 hts gS_X11_97 rfl rfl rfl hs_X11_isCell ⟨Nat.le_of_ble_eq_true rfl, Nat.le_of_ble_eq_true rfl⟩) (g5_preS hPc hK hDc hN hT hS hFc) rfl rfl hl.1 rfl (lv_room (Nat.le_of_ble_eq_true rfl)) dX11_isLook_1 ⟨Nat.le_of_ble_eq_true rfl, Nat.le_of_ble_eq_true rfl⟩) hS (fun q _ h => hFc q h) hFc (fun r u t H locs ht hvm hw hB hz1 hk1 hS => ?_)
  obtain ⟨hP1, hD1⟩ := hB
  have hP1 := g5_ht ht hP1
  rcases hw with ⟨i_1, rfl, rfl⟩ | ⟨i_2, i_3, rfl, rfl⟩ | ⟨i_4, i_5, rfl, rfl⟩
  ·
    have hJ9 := g5_same hP hk1
    clear hP hPc hDc hFc ht hvm hz1 hk1 hP1 hD1
    have hP := hJ9
    clear hJ9
    refine lv_if_eq (tgt := 27) hx hb dX11_isLook_4 (by decide +kernel) (fun c_6 => ?_) (fun c_6 => ?_)
    ·
      refine lv_iconst (v := 0) hx hb dX11_isLook_27 (by decide +kernel) ?_
      exact W.zret (v := 0) hx hb hr rfl (fun t ht hW => ⟨⟨0, [], rfl, Or.inr (⟨rfl, rfl⟩), by rw [ht]; exact hP.sub [] rfl, hD.sub [] (by decide +kernel) rfl⟩, hS.F ht⟩) hS.2.2 dX11_isLook_28
    ·
      exact absurd c_6 (by decide +kernel)
  ·
    have hJ9 := g5_same hP hk1
    clear hP hPc hDc hFc ht hvm hz1 hk1 hP1 hD1
    have hP := hJ9
    clear hJ9
    refine lv_if_eq (tgt := 27) hx hb dX11_isLook_4 (by decide +kernel) (fun c_7 => ?_) (fun c_7 => ?_)
    ·
      refine lv_iconst (v := 0) hx hb dX11_isLook_27 (by decide +kernel) ?_
      exact W.zret (v := 0) hx hb hr rfl (fun t ht hW => ⟨⟨0, [], rfl, Or.inr (⟨rfl, rfl⟩), by rw [ht]; exact hP.sub [] rfl, hD.sub [] (by decide +kernel) rfl⟩, hS.F ht⟩) hS.2.2 dX11_isLook_28
    ·
      exact absurd c_7 (by decide +kernel)
  ·
    have hJ9 := g5_same hP hk1
    clear hP hPc hDc hFc ht hvm hz1 hk1 hP1 hD1
    have hP := hJ9
    clear hJ9
    refine lv_if_eq (tgt := 27) hx hb dX11_isLook_4 (by decide +kernel) (fun c_8 => ?_) (fun c_8 => ?_)
    ·
      exact absurd c_8 (by decide +kernel)
    ·
      refine lv_iload_n hx hb dX11_isLook_7 rfl (lv_at hl 1 rfl) ?_
      refine lv_if_lt (tgt := 27) hx hb dX11_isLook_8 (by decide +kernel) (fun c_9 => ?_) (fun c_9 => ?_)
      ·
        have i_9 : p_w.toInt < 0 := g5_lt (a := p_w.toInt) (b := 0) rfl (by decide +kernel) c_9
        refine lv_iconst (v := 0) hx hb dX11_isLook_27 (by decide +kernel) ?_
        exact W.zret (v := 0) hx hb hr rfl (fun t ht hW => ⟨⟨0, [], rfl, Or.inr (⟨rfl, rfl⟩), by rw [ht]; exact hP.sub [] rfl, hD.sub [] (by decide +kernel) rfl⟩, hS.F ht⟩) hS.2.2 dX11_isLook_28
      ·
        have i_9 : p_w.toInt ≥ 0 := g5_ltN (a := p_w.toInt) (b := 0) rfl (by decide +kernel) c_9
        refine lv_iload_n hx hb dX11_isLook_11 rfl (lv_at hl 1 rfl) ?_
        refine lv_iconst (v := 4) hx hb dX11_isLook_12 (by decide +kernel) ?_
        refine lv_icmp_ge (tgt := 27) hx hb dX11_isLook_13 (by decide +kernel) (fun c_10 => ?_) (fun c_10 => ?_)
        ·
          have i_10 : p_w.toInt ≥ 4 := g5_ge (a := p_w.toInt) (b := 4) rfl (by decide +kernel) c_10
          refine lv_iconst (v := 0) hx hb dX11_isLook_27 (by decide +kernel) ?_
          exact W.zret (v := 0) hx hb hr rfl (fun t ht hW => ⟨⟨0, [], rfl, Or.inr (⟨rfl, rfl⟩), by rw [ht]; exact hP.sub [] rfl, hD.sub [] (by decide +kernel) rfl⟩, hS.F ht⟩) hS.2.2 dX11_isLook_28
        ·
          have i_10 : p_w.toInt < 4 := g5_geN (a := p_w.toInt) (b := 4) rfl (by decide +kernel) c_10
          refine lv_iload_n hx hb dX11_isLook_16 rfl (lv_at hl 2 rfl) ?_
          obtain ⟨hPc, hDc, hFc⟩ := g5_sub3 (wc := []) hP hD hS hA [] (by decide +kernel) rfl
          refine va_calli (va_runS (As := [.int p_h]) (rest := []) ⟨hx, hb, hml, hown, hts⟩ (kX11_isHour l G H.size p_h) (va_cwS 1 hts gS_X11_127 rfl rfl rfl hs_X11_isHour ⟨Nat.le_of_ble_eq_true rfl, Nat.le_of_ble_eq_true rfl⟩) (g5_preS hPc hK hDc hN hT hS hFc) rfl rfl hl.1 rfl (lv_room (Nat.le_of_ble_eq_true rfl)) dX11_isLook_17 ⟨Nat.le_of_ble_eq_true rfl, Nat.le_of_ble_eq_true rfl⟩) hS (fun q _ h => hFc q h) hFc (fun r u t H locs ht hvm hw hB hz1 hk1 hS => ?_)
          obtain ⟨hP1, hD1⟩ := hB
          have hP1 := g5_ht ht hP1
          rcases hw with ⟨i_11, rfl, rfl⟩ | ⟨i_12, i_13, rfl, rfl⟩ | ⟨i_14, i_15, rfl, rfl⟩
          ·
            have hJ9 := g5_same hP hk1
            clear hP hPc hDc hFc ht hvm hz1 hk1 hP1 hD1
            have hP := hJ9
            clear hJ9
            refine lv_if_eq (tgt := 27) hx hb dX11_isLook_20 (by decide +kernel) (fun c_16 => ?_) (fun c_16 => ?_)
            ·
              refine lv_iconst (v := 0) hx hb dX11_isLook_27 (by decide +kernel) ?_
              exact W.zret (v := 0) hx hb hr rfl (fun t ht hW => ⟨⟨0, [], rfl, Or.inr (⟨rfl, rfl⟩), by rw [ht]; exact hP.sub [] rfl, hD.sub [] (by decide +kernel) rfl⟩, hS.F ht⟩) hS.2.2 dX11_isLook_28
            ·
              exact absurd c_16 (by decide +kernel)
          ·
            have hJ9 := g5_same hP hk1
            clear hP hPc hDc hFc ht hvm hz1 hk1 hP1 hD1
            have hP := hJ9
            clear hJ9
            refine lv_if_eq (tgt := 27) hx hb dX11_isLook_20 (by decide +kernel) (fun c_17 => ?_) (fun c_17 => ?_)
            ·
              refine lv_iconst (v := 0) hx hb dX11_isLook_27 (by decide +kernel) ?_
              exact W.zret (v := 0) hx hb hr rfl (fun t ht hW => ⟨⟨0, [], rfl, Or.inr (⟨rfl, rfl⟩), by rw [ht]; exact hP.sub [] rfl, hD.sub [] (by decide +kernel) rfl⟩, hS.F ht⟩) hS.2.2 dX11_isLook_28
            ·
              exact absurd c_17 (by decide +kernel)
          ·
            have hJ9 := g5_same hP hk1
            clear hP hPc hDc hFc ht hvm hz1 hk1 hP1 hD1
            have hP := hJ9
            clear hJ9
            refine lv_if_eq (tgt := 27) hx hb dX11_isLook_20 (by decide +kernel) (fun c_18 => ?_) (fun c_18 => ?_)
            ·
              exact absurd c_18 (by decide +kernel)
            ·
              refine lv_iconst (v := 1) hx hb dX11_isLook_23 (by decide +kernel) ?_
              refine lv_goto (tgt := 28) hx hb dX11_isLook_24 (by decide +kernel) ?_
              exact W.zret (v := 1) hx hb hr rfl (fun t ht hW => ⟨⟨1, [], rfl, Or.inl (⟨by omega, rfl, rfl⟩), by rw [ht]; exact hP.sub [] rfl, hD.sub [] (by decide +kernel) rfl⟩, hS.F ht⟩) hS.2.2 dX11_isLook_28
theorem dgX5_run_0 : ∀ r ∈ ([(0, (.aload_n 0, 1)), (1, (.iload_n 1, 1)), (2, (.putfield 26, 3)), (5, (.aload_n 0, 1)), (6, (.iload_n 2, 1)), (7, (.putfield 30, 3)), (10, (.aload_n 0, 1)), (11, (.iload_n 3, 1)), (12, (.putfield 33, 3)), (15, (.aload_n 0, 1)), (16, (.iconst 0, 1)), (17, (.putfield 36, 3)), (20, (.aload_n 0, 1)), (21, (.iconst (-1), 1)), (22, (.putfield 39, 3)), (25, (.aload_n 0, 1)), (26, (.iconst (-1), 1)), (27, (.putfield 42, 3)), (30, (.aload_n 0, 1)), (31, (.ldc 45, 2)), (33, (.putfield 46, 3)), (36, (.aload_n 0, 1)), (37, (.iconst 0, 1)), (38, (.putfield 49, 3)), (41, (.aload_n 0, 1)), (42, (.iload_n 1, 1)), (43, (.iload_n 2, 1)), (44, (.iload_n 3, 1)), (45, (.invokestatic 52, 3)), (48, (.ifCond .ne 7, 3)), (51, (.iconst 1, 1)), (52, (.goto 4, 3)), (55, (.iconst 0, 1)), (56, (.putfield 56, 3)), (59, (.aload_n 0, 1)), (60, (.getfield 22, 3)), (63, (.getfield 60, 3)), (66, (.aload_n 0, 1)), (67, (.iload 4, 2)), (69, (.invokevirtual 66, 3))] : List (Nat × (Instr × Nat))), decode cX5_run r.1 = .ok r.2 := by decide +kernel
theorem dX5_run_0 : decode cX5_run 0 = .ok (.aload_n 0, 1) := dgX5_run_0 (0, (.aload_n 0, 1)) (List.mem_of_getElem? (i := 0) rfl)
theorem dX5_run_1 : decode cX5_run 1 = .ok (.iload_n 1, 1) := dgX5_run_0 (1, (.iload_n 1, 1)) (List.mem_of_getElem? (i := 1) rfl)
theorem dX5_run_2 : decode cX5_run 2 = .ok (.putfield 26, 3) := dgX5_run_0 (2, (.putfield 26, 3)) (List.mem_of_getElem? (i := 2) rfl)
theorem dX5_run_5 : decode cX5_run 5 = .ok (.aload_n 0, 1) := dgX5_run_0 (5, (.aload_n 0, 1)) (List.mem_of_getElem? (i := 3) rfl)
theorem dX5_run_6 : decode cX5_run 6 = .ok (.iload_n 2, 1) := dgX5_run_0 (6, (.iload_n 2, 1)) (List.mem_of_getElem? (i := 4) rfl)
theorem dX5_run_7 : decode cX5_run 7 = .ok (.putfield 30, 3) := dgX5_run_0 (7, (.putfield 30, 3)) (List.mem_of_getElem? (i := 5) rfl)
theorem dX5_run_10 : decode cX5_run 10 = .ok (.aload_n 0, 1) := dgX5_run_0 (10, (.aload_n 0, 1)) (List.mem_of_getElem? (i := 6) rfl)
theorem dX5_run_11 : decode cX5_run 11 = .ok (.iload_n 3, 1) := dgX5_run_0 (11, (.iload_n 3, 1)) (List.mem_of_getElem? (i := 7) rfl)
theorem dX5_run_12 : decode cX5_run 12 = .ok (.putfield 33, 3) := dgX5_run_0 (12, (.putfield 33, 3)) (List.mem_of_getElem? (i := 8) rfl)
theorem dX5_run_15 : decode cX5_run 15 = .ok (.aload_n 0, 1) := dgX5_run_0 (15, (.aload_n 0, 1)) (List.mem_of_getElem? (i := 9) rfl)
theorem dX5_run_16 : decode cX5_run 16 = .ok (.iconst 0, 1) := dgX5_run_0 (16, (.iconst 0, 1)) (List.mem_of_getElem? (i := 10) rfl)
theorem dX5_run_17 : decode cX5_run 17 = .ok (.putfield 36, 3) := dgX5_run_0 (17, (.putfield 36, 3)) (List.mem_of_getElem? (i := 11) rfl)
theorem dX5_run_20 : decode cX5_run 20 = .ok (.aload_n 0, 1) := dgX5_run_0 (20, (.aload_n 0, 1)) (List.mem_of_getElem? (i := 12) rfl)
theorem dX5_run_21 : decode cX5_run 21 = .ok (.iconst (-1), 1) := dgX5_run_0 (21, (.iconst (-1), 1)) (List.mem_of_getElem? (i := 13) rfl)
theorem dX5_run_22 : decode cX5_run 22 = .ok (.putfield 39, 3) := dgX5_run_0 (22, (.putfield 39, 3)) (List.mem_of_getElem? (i := 14) rfl)
theorem dX5_run_25 : decode cX5_run 25 = .ok (.aload_n 0, 1) := dgX5_run_0 (25, (.aload_n 0, 1)) (List.mem_of_getElem? (i := 15) rfl)
theorem dX5_run_26 : decode cX5_run 26 = .ok (.iconst (-1), 1) := dgX5_run_0 (26, (.iconst (-1), 1)) (List.mem_of_getElem? (i := 16) rfl)
theorem dX5_run_27 : decode cX5_run 27 = .ok (.putfield 42, 3) := dgX5_run_0 (27, (.putfield 42, 3)) (List.mem_of_getElem? (i := 17) rfl)
theorem dX5_run_30 : decode cX5_run 30 = .ok (.aload_n 0, 1) := dgX5_run_0 (30, (.aload_n 0, 1)) (List.mem_of_getElem? (i := 18) rfl)
theorem dX5_run_31 : decode cX5_run 31 = .ok (.ldc 45, 2) := dgX5_run_0 (31, (.ldc 45, 2)) (List.mem_of_getElem? (i := 19) rfl)
theorem dX5_run_33 : decode cX5_run 33 = .ok (.putfield 46, 3) := dgX5_run_0 (33, (.putfield 46, 3)) (List.mem_of_getElem? (i := 20) rfl)
theorem dX5_run_36 : decode cX5_run 36 = .ok (.aload_n 0, 1) := dgX5_run_0 (36, (.aload_n 0, 1)) (List.mem_of_getElem? (i := 21) rfl)
theorem dX5_run_37 : decode cX5_run 37 = .ok (.iconst 0, 1) := dgX5_run_0 (37, (.iconst 0, 1)) (List.mem_of_getElem? (i := 22) rfl)
theorem dX5_run_38 : decode cX5_run 38 = .ok (.putfield 49, 3) := dgX5_run_0 (38, (.putfield 49, 3)) (List.mem_of_getElem? (i := 23) rfl)
theorem dX5_run_41 : decode cX5_run 41 = .ok (.aload_n 0, 1) := dgX5_run_0 (41, (.aload_n 0, 1)) (List.mem_of_getElem? (i := 24) rfl)
theorem dX5_run_42 : decode cX5_run 42 = .ok (.iload_n 1, 1) := dgX5_run_0 (42, (.iload_n 1, 1)) (List.mem_of_getElem? (i := 25) rfl)
theorem dX5_run_43 : decode cX5_run 43 = .ok (.iload_n 2, 1) := dgX5_run_0 (43, (.iload_n 2, 1)) (List.mem_of_getElem? (i := 26) rfl)
theorem dX5_run_44 : decode cX5_run 44 = .ok (.iload_n 3, 1) := dgX5_run_0 (44, (.iload_n 3, 1)) (List.mem_of_getElem? (i := 27) rfl)
theorem dX5_run_45 : decode cX5_run 45 = .ok (.invokestatic 52, 3) := dgX5_run_0 (45, (.invokestatic 52, 3)) (List.mem_of_getElem? (i := 28) rfl)
theorem dX5_run_48 : decode cX5_run 48 = .ok (.ifCond .ne 7, 3) := dgX5_run_0 (48, (.ifCond .ne 7, 3)) (List.mem_of_getElem? (i := 29) rfl)
theorem dX5_run_51 : decode cX5_run 51 = .ok (.iconst 1, 1) := dgX5_run_0 (51, (.iconst 1, 1)) (List.mem_of_getElem? (i := 30) rfl)
theorem dX5_run_52 : decode cX5_run 52 = .ok (.goto 4, 3) := dgX5_run_0 (52, (.goto 4, 3)) (List.mem_of_getElem? (i := 31) rfl)
theorem dX5_run_55 : decode cX5_run 55 = .ok (.iconst 0, 1) := dgX5_run_0 (55, (.iconst 0, 1)) (List.mem_of_getElem? (i := 32) rfl)
theorem dX5_run_56 : decode cX5_run 56 = .ok (.putfield 56, 3) := dgX5_run_0 (56, (.putfield 56, 3)) (List.mem_of_getElem? (i := 33) rfl)
theorem dX5_run_59 : decode cX5_run 59 = .ok (.aload_n 0, 1) := dgX5_run_0 (59, (.aload_n 0, 1)) (List.mem_of_getElem? (i := 34) rfl)
theorem dX5_run_60 : decode cX5_run 60 = .ok (.getfield 22, 3) := dgX5_run_0 (60, (.getfield 22, 3)) (List.mem_of_getElem? (i := 35) rfl)
theorem dX5_run_63 : decode cX5_run 63 = .ok (.getfield 60, 3) := dgX5_run_0 (63, (.getfield 60, 3)) (List.mem_of_getElem? (i := 36) rfl)
theorem dX5_run_66 : decode cX5_run 66 = .ok (.aload_n 0, 1) := dgX5_run_0 (66, (.aload_n 0, 1)) (List.mem_of_getElem? (i := 37) rfl)
theorem dX5_run_67 : decode cX5_run 67 = .ok (.iload 4, 2) := dgX5_run_0 (67, (.iload 4, 2)) (List.mem_of_getElem? (i := 38) rfl)
theorem dX5_run_69 : decode cX5_run 69 = .ok (.invokevirtual 66, 3) := dgX5_run_0 (69, (.invokevirtual 66, 3)) (List.mem_of_getElem? (i := 39) rfl)
theorem dgX5_run_1 : ∀ r ∈ ([(72, (.lor, 1)), (73, (.lstore 5, 2)), (75, (.iconst 0, 1)), (76, (.istore 7, 2)), (78, (.iload 7, 2)), (80, (.sipush 200, 3)), (83, (.if_icmp .ge 144, 3)), (86, (.aload_n 0, 1)), (87, (.getfield 56, 3)), (90, (.ifCond .ne 137, 3)), (93, (.aload_n 0, 1)), (94, (.getfield 26, 3)), (97, (.aload_n 0, 1)), (98, (.getfield 30, 3)), (101, (.invokestatic 70, 3)), (104, (.istore 8, 2)), (106, (.iload 8, 2)), (108, (.iconst (-1), 1)), (109, (.if_icmp .eq 18, 3)), (112, (.aload_n 0, 1)), (113, (.getfield 22, 3)), (116, (.getfield 74, 3)), (119, (.iload 8, 2)), (121, (.invokestatic 77, 3)), (124, (.ifCond .eq 4, 3)), (127, (.return_, 1)), (128, (.aload_n 0, 1)), (129, (.iload 8, 2)), (131, (.putfield 26, 3)), (134, (.aload_n 0, 1)), (135, (.aload_n 0, 1)), (136, (.getfield 33, 3)), (139, (.putfield 42, 3)), (142, (.aload_n 0, 1)), (143, (.getfield 18, 3)), (146, (.iload 7, 2)), (148, (.aload_n 0, 1)), (149, (.getfield 33, 3)), (152, (.bipush 64, 2)), (154, (.imul, 1))] : List (Nat × (Instr × Nat))), decode cX5_run r.1 = .ok r.2 := by decide +kernel
theorem dX5_run_72 : decode cX5_run 72 = .ok (.lor, 1) := dgX5_run_1 (72, (.lor, 1)) (List.mem_of_getElem? (i := 0) rfl)
theorem dX5_run_73 : decode cX5_run 73 = .ok (.lstore 5, 2) := dgX5_run_1 (73, (.lstore 5, 2)) (List.mem_of_getElem? (i := 1) rfl)
theorem dX5_run_75 : decode cX5_run 75 = .ok (.iconst 0, 1) := dgX5_run_1 (75, (.iconst 0, 1)) (List.mem_of_getElem? (i := 2) rfl)
theorem dX5_run_76 : decode cX5_run 76 = .ok (.istore 7, 2) := dgX5_run_1 (76, (.istore 7, 2)) (List.mem_of_getElem? (i := 3) rfl)
theorem dX5_run_78 : decode cX5_run 78 = .ok (.iload 7, 2) := dgX5_run_1 (78, (.iload 7, 2)) (List.mem_of_getElem? (i := 4) rfl)
theorem dX5_run_80 : decode cX5_run 80 = .ok (.sipush 200, 3) := dgX5_run_1 (80, (.sipush 200, 3)) (List.mem_of_getElem? (i := 5) rfl)
theorem dX5_run_83 : decode cX5_run 83 = .ok (.if_icmp .ge 144, 3) := dgX5_run_1 (83, (.if_icmp .ge 144, 3)) (List.mem_of_getElem? (i := 6) rfl)
theorem dX5_run_86 : decode cX5_run 86 = .ok (.aload_n 0, 1) := dgX5_run_1 (86, (.aload_n 0, 1)) (List.mem_of_getElem? (i := 7) rfl)
theorem dX5_run_87 : decode cX5_run 87 = .ok (.getfield 56, 3) := dgX5_run_1 (87, (.getfield 56, 3)) (List.mem_of_getElem? (i := 8) rfl)
theorem dX5_run_90 : decode cX5_run 90 = .ok (.ifCond .ne 137, 3) := dgX5_run_1 (90, (.ifCond .ne 137, 3)) (List.mem_of_getElem? (i := 9) rfl)
theorem dX5_run_93 : decode cX5_run 93 = .ok (.aload_n 0, 1) := dgX5_run_1 (93, (.aload_n 0, 1)) (List.mem_of_getElem? (i := 10) rfl)
theorem dX5_run_94 : decode cX5_run 94 = .ok (.getfield 26, 3) := dgX5_run_1 (94, (.getfield 26, 3)) (List.mem_of_getElem? (i := 11) rfl)
theorem dX5_run_97 : decode cX5_run 97 = .ok (.aload_n 0, 1) := dgX5_run_1 (97, (.aload_n 0, 1)) (List.mem_of_getElem? (i := 12) rfl)
theorem dX5_run_98 : decode cX5_run 98 = .ok (.getfield 30, 3) := dgX5_run_1 (98, (.getfield 30, 3)) (List.mem_of_getElem? (i := 13) rfl)
theorem dX5_run_101 : decode cX5_run 101 = .ok (.invokestatic 70, 3) := dgX5_run_1 (101, (.invokestatic 70, 3)) (List.mem_of_getElem? (i := 14) rfl)
theorem dX5_run_104 : decode cX5_run 104 = .ok (.istore 8, 2) := dgX5_run_1 (104, (.istore 8, 2)) (List.mem_of_getElem? (i := 15) rfl)
theorem dX5_run_106 : decode cX5_run 106 = .ok (.iload 8, 2) := dgX5_run_1 (106, (.iload 8, 2)) (List.mem_of_getElem? (i := 16) rfl)
theorem dX5_run_108 : decode cX5_run 108 = .ok (.iconst (-1), 1) := dgX5_run_1 (108, (.iconst (-1), 1)) (List.mem_of_getElem? (i := 17) rfl)
theorem dX5_run_109 : decode cX5_run 109 = .ok (.if_icmp .eq 18, 3) := dgX5_run_1 (109, (.if_icmp .eq 18, 3)) (List.mem_of_getElem? (i := 18) rfl)
theorem dX5_run_112 : decode cX5_run 112 = .ok (.aload_n 0, 1) := dgX5_run_1 (112, (.aload_n 0, 1)) (List.mem_of_getElem? (i := 19) rfl)
theorem dX5_run_113 : decode cX5_run 113 = .ok (.getfield 22, 3) := dgX5_run_1 (113, (.getfield 22, 3)) (List.mem_of_getElem? (i := 20) rfl)
theorem dX5_run_116 : decode cX5_run 116 = .ok (.getfield 74, 3) := dgX5_run_1 (116, (.getfield 74, 3)) (List.mem_of_getElem? (i := 21) rfl)
theorem dX5_run_119 : decode cX5_run 119 = .ok (.iload 8, 2) := dgX5_run_1 (119, (.iload 8, 2)) (List.mem_of_getElem? (i := 22) rfl)
theorem dX5_run_121 : decode cX5_run 121 = .ok (.invokestatic 77, 3) := dgX5_run_1 (121, (.invokestatic 77, 3)) (List.mem_of_getElem? (i := 23) rfl)
theorem dX5_run_124 : decode cX5_run 124 = .ok (.ifCond .eq 4, 3) := dgX5_run_1 (124, (.ifCond .eq 4, 3)) (List.mem_of_getElem? (i := 24) rfl)
theorem dX5_run_127 : decode cX5_run 127 = .ok (.return_, 1) := dgX5_run_1 (127, (.return_, 1)) (List.mem_of_getElem? (i := 25) rfl)
theorem dX5_run_128 : decode cX5_run 128 = .ok (.aload_n 0, 1) := dgX5_run_1 (128, (.aload_n 0, 1)) (List.mem_of_getElem? (i := 26) rfl)
theorem dX5_run_129 : decode cX5_run 129 = .ok (.iload 8, 2) := dgX5_run_1 (129, (.iload 8, 2)) (List.mem_of_getElem? (i := 27) rfl)
theorem dX5_run_131 : decode cX5_run 131 = .ok (.putfield 26, 3) := dgX5_run_1 (131, (.putfield 26, 3)) (List.mem_of_getElem? (i := 28) rfl)
theorem dX5_run_134 : decode cX5_run 134 = .ok (.aload_n 0, 1) := dgX5_run_1 (134, (.aload_n 0, 1)) (List.mem_of_getElem? (i := 29) rfl)
theorem dX5_run_135 : decode cX5_run 135 = .ok (.aload_n 0, 1) := dgX5_run_1 (135, (.aload_n 0, 1)) (List.mem_of_getElem? (i := 30) rfl)
theorem dX5_run_136 : decode cX5_run 136 = .ok (.getfield 33, 3) := dgX5_run_1 (136, (.getfield 33, 3)) (List.mem_of_getElem? (i := 31) rfl)
theorem dX5_run_139 : decode cX5_run 139 = .ok (.putfield 42, 3) := dgX5_run_1 (139, (.putfield 42, 3)) (List.mem_of_getElem? (i := 32) rfl)
theorem dX5_run_142 : decode cX5_run 142 = .ok (.aload_n 0, 1) := dgX5_run_1 (142, (.aload_n 0, 1)) (List.mem_of_getElem? (i := 33) rfl)
theorem dX5_run_143 : decode cX5_run 143 = .ok (.getfield 18, 3) := dgX5_run_1 (143, (.getfield 18, 3)) (List.mem_of_getElem? (i := 34) rfl)
theorem dX5_run_146 : decode cX5_run 146 = .ok (.iload 7, 2) := dgX5_run_1 (146, (.iload 7, 2)) (List.mem_of_getElem? (i := 35) rfl)
theorem dX5_run_148 : decode cX5_run 148 = .ok (.aload_n 0, 1) := dgX5_run_1 (148, (.aload_n 0, 1)) (List.mem_of_getElem? (i := 36) rfl)
theorem dX5_run_149 : decode cX5_run 149 = .ok (.getfield 33, 3) := dgX5_run_1 (149, (.getfield 33, 3)) (List.mem_of_getElem? (i := 37) rfl)
theorem dX5_run_152 : decode cX5_run 152 = .ok (.bipush 64, 2) := dgX5_run_1 (152, (.bipush 64, 2)) (List.mem_of_getElem? (i := 38) rfl)
theorem dX5_run_154 : decode cX5_run 154 = .ok (.imul, 1) := dgX5_run_1 (154, (.imul, 1)) (List.mem_of_getElem? (i := 39) rfl)
theorem dgX5_run_2 : ∀ r ∈ ([(155, (.aload_n 0, 1)), (156, (.getfield 26, 3)), (159, (.iadd, 1)), (160, (.iastore, 1)), (161, (.aload_n 0, 1)), (162, (.iload 7, 2)), (164, (.iconst 1, 1)), (165, (.iadd, 1)), (166, (.putfield 36, 3)), (169, (.aload_n 0, 1)), (170, (.getfield 22, 3)), (173, (.getfield 81, 3)), (176, (.aload_n 0, 1)), (177, (.getfield 33, 3)), (180, (.laload, 1)), (181, (.lload 5, 2)), (183, (.lor, 1)), (184, (.aload_n 0, 1)), (185, (.getfield 26, 3)), (188, (.invokestatic 77, 3)), (191, (.ifCond .eq 30, 3)), (194, (.aload_n 0, 1)), (195, (.invokevirtual 85, 3)), (198, (.aload_n 0, 1)), (199, (.getfield 56, 3)), (202, (.ifCond .ne 19, 3)), (205, (.lload 5, 2)), (207, (.aload_n 0, 1)), (208, (.getfield 26, 3)), (211, (.invokestatic 77, 3)), (214, (.ifCond .eq 7, 3)), (217, (.aload_n 0, 1)), (218, (.invokevirtual 88, 3)), (221, (.iinc 7 1, 3)), (224, (.goto (-146), 3)), (227, (.return_, 1))] : List (Nat × (Instr × Nat))), decode cX5_run r.1 = .ok r.2 := by decide +kernel
theorem dX5_run_155 : decode cX5_run 155 = .ok (.aload_n 0, 1) := dgX5_run_2 (155, (.aload_n 0, 1)) (List.mem_of_getElem? (i := 0) rfl)
theorem dX5_run_156 : decode cX5_run 156 = .ok (.getfield 26, 3) := dgX5_run_2 (156, (.getfield 26, 3)) (List.mem_of_getElem? (i := 1) rfl)
theorem dX5_run_159 : decode cX5_run 159 = .ok (.iadd, 1) := dgX5_run_2 (159, (.iadd, 1)) (List.mem_of_getElem? (i := 2) rfl)
theorem dX5_run_160 : decode cX5_run 160 = .ok (.iastore, 1) := dgX5_run_2 (160, (.iastore, 1)) (List.mem_of_getElem? (i := 3) rfl)
theorem dX5_run_161 : decode cX5_run 161 = .ok (.aload_n 0, 1) := dgX5_run_2 (161, (.aload_n 0, 1)) (List.mem_of_getElem? (i := 4) rfl)
theorem dX5_run_162 : decode cX5_run 162 = .ok (.iload 7, 2) := dgX5_run_2 (162, (.iload 7, 2)) (List.mem_of_getElem? (i := 5) rfl)
theorem dX5_run_164 : decode cX5_run 164 = .ok (.iconst 1, 1) := dgX5_run_2 (164, (.iconst 1, 1)) (List.mem_of_getElem? (i := 6) rfl)
theorem dX5_run_165 : decode cX5_run 165 = .ok (.iadd, 1) := dgX5_run_2 (165, (.iadd, 1)) (List.mem_of_getElem? (i := 7) rfl)
theorem dX5_run_166 : decode cX5_run 166 = .ok (.putfield 36, 3) := dgX5_run_2 (166, (.putfield 36, 3)) (List.mem_of_getElem? (i := 8) rfl)
theorem dX5_run_169 : decode cX5_run 169 = .ok (.aload_n 0, 1) := dgX5_run_2 (169, (.aload_n 0, 1)) (List.mem_of_getElem? (i := 9) rfl)
theorem dX5_run_170 : decode cX5_run 170 = .ok (.getfield 22, 3) := dgX5_run_2 (170, (.getfield 22, 3)) (List.mem_of_getElem? (i := 10) rfl)
theorem dX5_run_173 : decode cX5_run 173 = .ok (.getfield 81, 3) := dgX5_run_2 (173, (.getfield 81, 3)) (List.mem_of_getElem? (i := 11) rfl)
theorem dX5_run_176 : decode cX5_run 176 = .ok (.aload_n 0, 1) := dgX5_run_2 (176, (.aload_n 0, 1)) (List.mem_of_getElem? (i := 12) rfl)
theorem dX5_run_177 : decode cX5_run 177 = .ok (.getfield 33, 3) := dgX5_run_2 (177, (.getfield 33, 3)) (List.mem_of_getElem? (i := 13) rfl)
theorem dX5_run_180 : decode cX5_run 180 = .ok (.laload, 1) := dgX5_run_2 (180, (.laload, 1)) (List.mem_of_getElem? (i := 14) rfl)
theorem dX5_run_181 : decode cX5_run 181 = .ok (.lload 5, 2) := dgX5_run_2 (181, (.lload 5, 2)) (List.mem_of_getElem? (i := 15) rfl)
theorem dX5_run_183 : decode cX5_run 183 = .ok (.lor, 1) := dgX5_run_2 (183, (.lor, 1)) (List.mem_of_getElem? (i := 16) rfl)
theorem dX5_run_184 : decode cX5_run 184 = .ok (.aload_n 0, 1) := dgX5_run_2 (184, (.aload_n 0, 1)) (List.mem_of_getElem? (i := 17) rfl)
theorem dX5_run_185 : decode cX5_run 185 = .ok (.getfield 26, 3) := dgX5_run_2 (185, (.getfield 26, 3)) (List.mem_of_getElem? (i := 18) rfl)
theorem dX5_run_188 : decode cX5_run 188 = .ok (.invokestatic 77, 3) := dgX5_run_2 (188, (.invokestatic 77, 3)) (List.mem_of_getElem? (i := 19) rfl)
theorem dX5_run_191 : decode cX5_run 191 = .ok (.ifCond .eq 30, 3) := dgX5_run_2 (191, (.ifCond .eq 30, 3)) (List.mem_of_getElem? (i := 20) rfl)
theorem dX5_run_194 : decode cX5_run 194 = .ok (.aload_n 0, 1) := dgX5_run_2 (194, (.aload_n 0, 1)) (List.mem_of_getElem? (i := 21) rfl)
theorem dX5_run_195 : decode cX5_run 195 = .ok (.invokevirtual 85, 3) := dgX5_run_2 (195, (.invokevirtual 85, 3)) (List.mem_of_getElem? (i := 22) rfl)
theorem dX5_run_198 : decode cX5_run 198 = .ok (.aload_n 0, 1) := dgX5_run_2 (198, (.aload_n 0, 1)) (List.mem_of_getElem? (i := 23) rfl)
theorem dX5_run_199 : decode cX5_run 199 = .ok (.getfield 56, 3) := dgX5_run_2 (199, (.getfield 56, 3)) (List.mem_of_getElem? (i := 24) rfl)
theorem dX5_run_202 : decode cX5_run 202 = .ok (.ifCond .ne 19, 3) := dgX5_run_2 (202, (.ifCond .ne 19, 3)) (List.mem_of_getElem? (i := 25) rfl)
theorem dX5_run_205 : decode cX5_run 205 = .ok (.lload 5, 2) := dgX5_run_2 (205, (.lload 5, 2)) (List.mem_of_getElem? (i := 26) rfl)
theorem dX5_run_207 : decode cX5_run 207 = .ok (.aload_n 0, 1) := dgX5_run_2 (207, (.aload_n 0, 1)) (List.mem_of_getElem? (i := 27) rfl)
theorem dX5_run_208 : decode cX5_run 208 = .ok (.getfield 26, 3) := dgX5_run_2 (208, (.getfield 26, 3)) (List.mem_of_getElem? (i := 28) rfl)
theorem dX5_run_211 : decode cX5_run 211 = .ok (.invokestatic 77, 3) := dgX5_run_2 (211, (.invokestatic 77, 3)) (List.mem_of_getElem? (i := 29) rfl)
theorem dX5_run_214 : decode cX5_run 214 = .ok (.ifCond .eq 7, 3) := dgX5_run_2 (214, (.ifCond .eq 7, 3)) (List.mem_of_getElem? (i := 30) rfl)
theorem dX5_run_217 : decode cX5_run 217 = .ok (.aload_n 0, 1) := dgX5_run_2 (217, (.aload_n 0, 1)) (List.mem_of_getElem? (i := 31) rfl)
theorem dX5_run_218 : decode cX5_run 218 = .ok (.invokevirtual 88, 3) := dgX5_run_2 (218, (.invokevirtual 88, 3)) (List.mem_of_getElem? (i := 32) rfl)
theorem dX5_run_221 : decode cX5_run 221 = .ok (.iinc 7 1, 3) := dgX5_run_2 (221, (.iinc 7 1, 3)) (List.mem_of_getElem? (i := 33) rfl)
theorem dX5_run_224 : decode cX5_run 224 = .ok (.goto (-146), 3) := dgX5_run_2 (224, (.goto (-146), 3)) (List.mem_of_getElem? (i := 34) rfl)
theorem dX5_run_227 : decode cX5_run 227 = .ok (.return_, 1) := dgX5_run_2 (227, (.return_, 1)) (List.mem_of_getElem? (i := 35) rfl)
theorem fl_X5_42 : Cond.fieldLink RX5 42 "LateGlass$Look" "lastHour" "I" ∈ tblG := tg 255 (by decide +kernel) (by decide +kernel)
theorem ki_X5_45 : Cond.constant RX5 45 1000000 ∈ tblG := tg 815 (by decide +kernel) (by decide +kernel)
theorem cd_X11_isLook : Cond.code yX11_isLook cX11_isLook 3 (some .boolean) ∈ tblG := tg 810 (by decide +kernel) (by decide +kernel)
theorem gW_X11_isLook : GoodIn tblG (wsG yX11_isLook cX11_isLook 3 (some .boolean)) := tgi cd_X11_isLook
theorem hs_X11_isLook : yX11_isLook.cls ≠ "java/lang/invoke/MethodHandle" ∧ yX11_isLook.cls ≠ "java/lang/invoke/VarHandle" ∧ (parseMethodDescriptor yX11_isLook.desc).map (fun d => d.parameters.length) = some 3 := by decide +kernel
theorem st_X11_isLook : Cond.static yX11_isLook ∈ tblG := tg 809 (by decide +kernel) (by decide +kernel)
theorem fl_X5_60 : Cond.fieldLink RX5 60 "LateGlass$House" "glassBoard" "J" ∈ tblG := tg 189 (by decide +kernel) (by decide +kernel)
theorem ml_X5_66 : Cond.methodLink RX5 66 yX5_hungBoard ∈ tblG := tg 817 (by decide +kernel) (by decide +kernel)
theorem im_X5_hungBoard : Cond.instanceMethod yX5_hungBoard ∈ tblG := tg 819 (by decide +kernel) (by decide +kernel)
theorem se_X5_hungBoard : Cond.selects RX5 yX5_hungBoard yX5_hungBoard ∈ tblG := tg 13 (by decide +kernel) (by decide +kernel)
theorem cd_X5_hungBoard : Cond.code yX5_hungBoard cX5_hungBoard 5 (some .long) ∈ tblG := tg 820 (by decide +kernel) (by decide +kernel)
theorem gW_X5_hungBoard : GoodIn tblG (wsG yX5_hungBoard cX5_hungBoard 5 (some .long)) := tgi cd_X5_hungBoard
theorem gV_X5_66 : GoodIn tblG (wsV RX5 66 RX5 yX5_hungBoard (wsG yX5_hungBoard cX5_hungBoard 5 (some .long))) := tgV ml_X5_66 im_X5_hungBoard se_X5_hungBoard ini_X5 gW_X5_hungBoard
theorem hv_X5_hungBoard : yX5_hungBoard.cls = RX5 ∧ yX5_hungBoard.cls ≠ "java/lang/invoke/MethodHandle" ∧ yX5_hungBoard.cls ≠ "java/lang/invoke/VarHandle" ∧ (parseMethodDescriptor yX5_hungBoard.desc).map (fun d => d.parameters.length) = some 1 := by decide +kernel
theorem cd_X11_beside : Cond.code yX11_beside cX11_beside 2 (some .int) ∈ tblG := tg 824 (by decide +kernel) (by decide +kernel)
theorem gW_X11_beside : GoodIn tblG (wsG yX11_beside cX11_beside 2 (some .int)) := tgi cd_X11_beside
theorem hs_X11_beside : yX11_beside.cls ≠ "java/lang/invoke/MethodHandle" ∧ yX11_beside.cls ≠ "java/lang/invoke/VarHandle" ∧ (parseMethodDescriptor yX11_beside.desc).map (fun d => d.parameters.length) = some 2 := by decide +kernel
theorem st_X11_beside : Cond.static yX11_beside ∈ tblG := tg 823 (by decide +kernel) (by decide +kernel)
theorem fl_X5_74 : Cond.fieldLink RX5 74 "LateGlass$House" "walls" "J" ∈ tblG := tg 155 (by decide +kernel) (by decide +kernel)
theorem fl_X5_18 : Cond.fieldLink RX5 18 "LateGlass$Look" "points" "[I" ∈ tblG := tg 245 (by decide +kernel) (by decide +kernel)
theorem fl_X5_81 : Cond.fieldLink RX5 81 "LateGlass$House" "bodyBoards" "[J" ∈ tblG := tg 192 (by decide +kernel) (by decide +kernel)
theorem ml_X5_85 : Cond.methodLink RX5 85 yX5_meetBodies ∈ tblG := tg 826 (by decide +kernel) (by decide +kernel)
theorem im_X5_meetBodies : Cond.instanceMethod yX5_meetBodies ∈ tblG := tg 828 (by decide +kernel) (by decide +kernel)
theorem se_X5_meetBodies : Cond.selects RX5 yX5_meetBodies yX5_meetBodies ∈ tblG := tg 14 (by decide +kernel) (by decide +kernel)
theorem cd_X5_meetBodies : Cond.code yX5_meetBodies cX5_meetBodies 3 none ∈ tblG := tg 829 (by decide +kernel) (by decide +kernel)
theorem gW_X5_meetBodies : GoodIn tblG (wsG yX5_meetBodies cX5_meetBodies 3 none) := tgi cd_X5_meetBodies
theorem gV_X5_85 : GoodIn tblG (wsV RX5 85 RX5 yX5_meetBodies (wsG yX5_meetBodies cX5_meetBodies 3 none)) := tgV ml_X5_85 im_X5_meetBodies se_X5_meetBodies ini_X5 gW_X5_meetBodies
theorem hv_X5_meetBodies : yX5_meetBodies.cls = RX5 ∧ yX5_meetBodies.cls ≠ "java/lang/invoke/MethodHandle" ∧ yX5_meetBodies.cls ≠ "java/lang/invoke/VarHandle" ∧ (parseMethodDescriptor yX5_meetBodies.desc).map (fun d => d.parameters.length) = some 0 := by decide +kernel
theorem ml_X5_88 : Cond.methodLink RX5 88 yX5_meetGlass ∈ tblG := tg 855 (by decide +kernel) (by decide +kernel)
theorem im_X5_meetGlass : Cond.instanceMethod yX5_meetGlass ∈ tblG := tg 857 (by decide +kernel) (by decide +kernel)
theorem se_X5_meetGlass : Cond.selects RX5 yX5_meetGlass yX5_meetGlass ∈ tblG := tg 18 (by decide +kernel) (by decide +kernel)
theorem cd_X5_meetGlass : Cond.code yX5_meetGlass cX5_meetGlass 9 none ∈ tblG := tg 858 (by decide +kernel) (by decide +kernel)
theorem gW_X5_meetGlass : GoodIn tblG (wsG yX5_meetGlass cX5_meetGlass 9 none) := tgi cd_X5_meetGlass
theorem gV_X5_88 : GoodIn tblG (wsV RX5 88 RX5 yX5_meetGlass (wsG yX5_meetGlass cX5_meetGlass 9 none)) := tgV ml_X5_88 im_X5_meetGlass se_X5_meetGlass ini_X5 gW_X5_meetGlass
theorem hv_X5_meetGlass : yX5_meetGlass.cls = RX5 ∧ yX5_meetGlass.cls ≠ "java/lang/invoke/MethodHandle" ∧ yX5_meetGlass.cls ≠ "java/lang/invoke/VarHandle" ∧ (parseMethodDescriptor yX5_meetGlass.desc).map (fun d => d.parameters.length) = some 0 := by decide +kernel
set_option maxHeartbeats 4000000 in
set_option maxRecDepth 100000 in
theorem k_runN (l : Launch) (G : g5_G) (a_k a_h a_g a_gn a_b a_bn a_p a_pn a_bb a_j a_as a_sk a_l a_pt a_s a_w : Nat) (sz : Nat) (e_le : Int32) (e_st : Int32) (e_fo : Int32) (e_lc : Int32) (e_g : Int32) (e_b : Int32) (e_p : Int32) (e_ln : Int32) (e_se : Int32) (e_lh : Int32) (e_br : Int32) (e_we : Int32) (e_me : Int32) (e_ce : Int32) (e_wy : Int32) (e_ho : Int32) (e_ov : Int32) (p_c : Int32) (p_w : Int32) (p_h : Int32) (p_u : Int32) (e_wa : Int64) (e_gb : Int64) (f_g : Nat → Int32) (f_b : Nat → Int32) (f_p : Nat → Int32) (f_bb : Nat → Int64) (f_as : Nat → Int32) (f_sk : Nat → Int64) (f_l : Nat → Option Nat) (f_pt : Nat → Int32) (h_e_g : 0 ≤ e_g.toInt ∧ e_g.toInt ≤ 6) (h_e_b : 0 ≤ e_b.toInt ∧ e_b.toInt ≤ 5) (h_e_p : 0 ≤ e_p.toInt ∧ e_p.toInt ≤ 8) (h_e_ov : 0 ≤ e_ov.toInt ∧ e_ov.toInt ≤ 1) (e_gk : gOK f_g e_g.toInt) (e_pk : gOK f_p e_p.toInt) (e_gi : inT e_gb f_g e_g.toInt) (e_f : e_fo.toInt < 0 ∨ e_lc.toInt ≤ e_fo.toInt) : Met l yX5_run (wsG yX5_run cX5_run 9 none) ({ frames := 13, cells := 0, slots := 0, locals := 528 }) (va_Pc [.ref a_k, .int p_c, .int p_w, .int p_h, .int p_u] (g5_P G [(a_k, (oc5 a_h a_j a_pt e_ln e_se e_lh e_br e_we e_me e_ce e_wy e_ho e_ov)), (a_h, (oc1 e_wa e_le e_st e_fo e_lc a_l a_g a_b a_s a_p a_w e_gb a_bb)), (a_g, (oc6 6 5 a_gn e_g)), (a_gn, (arI G 30 f_g)), (a_b, (oc6 5 24 a_bn e_b)), (a_bn, (arI G 120 f_b)), (a_p, (oc6 8 5 a_pn e_p)), (a_pn, (arI G 40 f_p)), (a_bb, (arJ G 24 f_bb)), (a_j, (oc2 a_as a_sk)), (a_as, (arI G 8 f_as)), (a_sk, (arJ G 50 f_sk)), (a_l, (arW G 6 f_l)), (a_pt, (arI G 200 f_pt))] sz)) (va_Qv (fun (u : va_W) => (∃ (o_ln : Int32) (o_se : Int32) (o_lh : Int32) (o_br : Int32) (o_we : Int32) (o_me : Int32) (o_ce : Int32) (o_wy : Int32) (o_ho : Int32) (o_ov : Int32) (o_pt : Nat → Int32) (o_as : Nat → Int32) (o_sk : Nat → Int64), (0 ≤ o_ln.toInt ∧ o_ln.toInt ≤ 200) ∧ (0 ≤ o_ov.toInt ∧ o_ov.toInt ≤ 1) ∧ (∀ j : Nat, (j : Int) < o_ln.toInt → 0 ≤ (o_pt j).toInt ∧ (o_pt j).toInt ≤ 1535) ∧ (u = [(a_k, (oc5 a_h a_j a_pt o_ln o_se o_lh o_br o_we o_me o_ce o_wy o_ho o_ov)), (a_h, (oc1 e_wa e_le e_st e_fo e_lc a_l a_g a_b a_s a_p a_w e_gb a_bb)), (a_g, (oc6 6 5 a_gn e_g)), (a_gn, (arI G 30 f_g)), (a_b, (oc6 5 24 a_bn e_b)), (a_bn, (arI G 120 f_b)), (a_p, (oc6 8 5 a_pn e_p)), (a_pn, (arI G 40 f_p)), (a_bb, (arJ G 24 f_bb)), (a_j, (oc2 a_as a_sk)), (a_as, (arI G 8 o_as)), (a_sk, (arJ G 50 o_sk)), (a_l, (arW G 6 f_l)), (a_pt, (arI G 200 o_pt))]))) (g5_B G (va_A [(a_k, (oc5 a_h a_j a_pt e_ln e_se e_lh e_br e_we e_me e_ce e_wy e_ho e_ov)), (a_h, (oc1 e_wa e_le e_st e_fo e_lc a_l a_g a_b a_s a_p a_w e_gb a_bb)), (a_g, (oc6 6 5 a_gn e_g)), (a_gn, (arI G 30 f_g)), (a_b, (oc6 5 24 a_bn e_b)), (a_bn, (arI G 120 f_b)), (a_p, (oc6 8 5 a_pn e_p)), (a_pn, (arI G 40 f_p)), (a_bb, (arJ G 24 f_bb)), (a_j, (oc2 a_as a_sk)), (a_as, (arI G 8 f_as)), (a_sk, (arJ G 50 f_sk)), (a_l, (arW G 6 f_l)), (a_pt, (arI G 200 f_pt))] sz)) (va_A [(a_k, (oc5 a_h a_j a_pt e_ln e_se e_lh e_br e_we e_me e_ce e_wy e_ho e_ov)), (a_h, (oc1 e_wa e_le e_st e_fo e_lc a_l a_g a_b a_s a_p a_w e_gb a_bb)), (a_g, (oc6 6 5 a_gn e_g)), (a_gn, (arI G 30 f_g)), (a_b, (oc6 5 24 a_bn e_b)), (a_bn, (arI G 120 f_b)), (a_p, (oc6 8 5 a_pn e_p)), (a_pn, (arI G 40 f_p)), (a_bb, (arJ G 24 f_bb)), (a_j, (oc2 a_as a_sk)), (a_as, (arI G 8 f_as)), (a_sk, (arJ G 50 f_sk)), (a_l, (arW G 6 f_l)), (a_pt, (arI G 200 f_pt))] sz)) 0 0 (va_A [(a_k, (oc5 a_h a_j a_pt e_ln e_se e_lh e_br e_we e_me e_ce e_wy e_ho e_ov)), (a_h, (oc1 e_wa e_le e_st e_fo e_lc a_l a_g a_b a_s a_p a_w e_gb a_bb)), (a_g, (oc6 6 5 a_gn e_g)), (a_gn, (arI G 30 f_g)), (a_b, (oc6 5 24 a_bn e_b)), (a_bn, (arI G 120 f_b)), (a_p, (oc6 8 5 a_pn e_p)), (a_pn, (arI G 40 f_p)), (a_bb, (arJ G 24 f_bb)), (a_j, (oc2 a_as a_sk)), (a_as, (arI G 8 f_as)), (a_sk, (arJ G 50 f_sk)), (a_l, (arW G 6 f_l)), (a_pt, (arI G 200 f_pt))] sz) := by
  refine Met.ofW (cc := cX5_run) (maxL := 9) (ret := none) (by decide +kernel) rfl ?_
  intro p e s m args below meth c s₁ B hml hv
  obtain ⟨rfl, hsz, hP, hK, hD0, hN, hT⟩ := hv
  have hx := B.exec
  have hb := B.bytes
  have hr := B.returns
  have hts : ∀ w ∈ tblG, w.before _ s = true := fun w h => atoms_spec (ws := (wsG yX5_run cX5_run 9 none)) B.pre w (List.mem_cons_of_mem _ h)
  have hown : s.vm.findClass RX5 = some m.cls := findClass_of_methodNamed B.named
  have hlocks := B.notSynchronized
  subst hsz
  have hD := hD0.self (sz := s.heap.size)
  generalize hAe : va_A [(a_k, (oc5 a_h a_j a_pt e_ln e_se e_lh e_br e_we e_me e_ce e_wy e_ho e_ov)), (a_h, (oc1 e_wa e_le e_st e_fo e_lc a_l a_g a_b a_s a_p a_w e_gb a_bb)), (a_g, (oc6 6 5 a_gn e_g)), (a_gn, (arI G 30 f_g)), (a_b, (oc6 5 24 a_bn e_b)), (a_bn, (arI G 120 f_b)), (a_p, (oc6 8 5 a_pn e_p)), (a_pn, (arI G 40 f_p)), (a_bb, (arJ G 24 f_bb)), (a_j, (oc2 a_as a_sk)), (a_as, (arI G 8 f_as)), (a_sk, (arJ G 50 f_sk)), (a_l, (arW G 6 f_l)), (a_pt, (arI G 200 f_pt))] s.heap.size = A at hD hT ⊢
  have hA : ∀ q : Nat, s.heap.size ≤ q → A q := fun q h => by rw [← hAe]; exact Or.inr h
  have hS : va_S A s.heap s.heap [] := va_S.rf
  replace hP : va_P G.1 vwCl [(a_k, (oc5 a_h a_j a_pt e_ln e_se e_lh e_br e_we e_me e_ce e_wy e_ho e_ov)), (a_h, (oc1 e_wa e_le e_st e_fo e_lc a_l a_g a_b a_s a_p a_w e_gb a_bb)), (a_g, (oc6 6 5 a_gn e_g)), (a_gn, (arI G 30 f_g)), (a_b, (oc6 5 24 a_bn e_b)), (a_bn, (arI G 120 f_b)), (a_p, (oc6 8 5 a_pn e_p)), (a_pn, (arI G 40 f_p)), (a_bb, (arJ G 24 f_bb)), (a_j, (oc2 a_as a_sk)), (a_as, (arI G 8 f_as)), (a_sk, (arJ G 50 f_sk)), (a_l, (arW G 6 f_l)), (a_pt, (arI G 200 f_pt))] s.heap := hP
  have hl := lv_entry ([.ref a_k, .int p_c, .int p_w, .int p_h, .int p_u]) (n := 9) (Nat.le_of_ble_eq_true rfl)
  rw [lg_entry_eq]
  generalize (lg_sl ([.ref a_k, .int p_c, .int p_w, .int p_h, .int p_u]) ++ List.replicate (9 - (lg_sl ([.ref a_k, .int p_c, .int p_w, .int p_h, .int p_u])).length) Slot.unset).toArray = ls at hl ⊢
  replace hl : lv_has ls 9 [(0, .ref a_k), (1, .int p_c), (2, .int p_w), (3, .int p_h), (4, .int p_u)] := hl
  refine lv_aload_n hx hb dX5_run_0 rfl (lv_at hl 0 rfl) ?_
  refine lv_iload_n hx hb dX5_run_1 rfl (lv_at hl 1 rfl) ?_
  refine va_put (D := G.1) (ci := 5) (v := .int p_c) (ty := .int) (C := RX5) (T := TX5) (N := 13) hx hb hts inG_X5 tyX5 tyX5_ok nmX5 hown hK hP hD hS 0 rfl rfl 9 (by decide +kernel) (hts _ fl_X5_26) (fun _ h9 => h9) rfl (by decide +kernel) rfl rfl (Nat.le_of_ble_eq_true rfl) dX5_run_2 ?_
  clear hP hD hS
  intro H locs hP hD hS
  refine g5_rs [(a_k, (oc5 a_h a_j a_pt e_ln e_se e_lh e_br e_we e_me p_c e_wy e_ho e_ov)), (a_h, (oc1 e_wa e_le e_st e_fo e_lc a_l a_g a_b a_s a_p a_w e_gb a_bb)), (a_g, (oc6 6 5 a_gn e_g)), (a_gn, (arI G 30 f_g)), (a_b, (oc6 5 24 a_bn e_b)), (a_bn, (arI G 120 f_b)), (a_p, (oc6 8 5 a_pn e_p)), (a_pn, (arI G 40 f_p)), (a_bb, (arJ G 24 f_bb)), (a_j, (oc2 a_as a_sk)), (a_as, (arI G 8 f_as)), (a_sk, (arJ G 50 f_sk)), (a_l, (arW G 6 f_l)), (a_pt, (arI G 200 f_pt))] hP hD ?_
  clear hP hD
  intro hP hD
  refine lv_aload_n hx hb dX5_run_5 rfl (lv_at hl 0 rfl) ?_
  refine W.eq (g2 := F0 m 6 ls [.ref a_k]) rfl ?_
  refine lv_iload_n hx hb dX5_run_6 rfl (lv_at hl 2 rfl) ?_
  refine va_put (D := G.1) (ci := 5) (v := .int p_w) (ty := .int) (C := RX5) (T := TX5) (N := 13) hx hb hts inG_X5 tyX5 tyX5_ok nmX5 hown hK hP hD hS 0 rfl rfl 10 (by decide +kernel) (hts _ fl_X5_30) (fun _ h9 => h9) rfl (by decide +kernel) rfl rfl (Nat.le_of_ble_eq_true rfl) dX5_run_7 ?_
  clear hP hD hS
  intro H locs hP hD hS
  refine g5_rs [(a_k, (oc5 a_h a_j a_pt e_ln e_se e_lh e_br e_we e_me p_c p_w e_ho e_ov)), (a_h, (oc1 e_wa e_le e_st e_fo e_lc a_l a_g a_b a_s a_p a_w e_gb a_bb)), (a_g, (oc6 6 5 a_gn e_g)), (a_gn, (arI G 30 f_g)), (a_b, (oc6 5 24 a_bn e_b)), (a_bn, (arI G 120 f_b)), (a_p, (oc6 8 5 a_pn e_p)), (a_pn, (arI G 40 f_p)), (a_bb, (arJ G 24 f_bb)), (a_j, (oc2 a_as a_sk)), (a_as, (arI G 8 f_as)), (a_sk, (arJ G 50 f_sk)), (a_l, (arW G 6 f_l)), (a_pt, (arI G 200 f_pt))] hP hD ?_
  clear hP hD
  intro hP hD
  refine lv_aload_n hx hb dX5_run_10 rfl (lv_at hl 0 rfl) ?_
  refine lv_iload_n hx hb dX5_run_11 rfl (lv_at hl 3 rfl) ?_
  refine va_put (D := G.1) (ci := 5) (v := .int p_h) (ty := .int) (C := RX5) (T := TX5) (N := 13) hx hb hts inG_X5 tyX5 tyX5_ok nmX5 hown hK hP hD hS 0 rfl rfl 11 (by decide +kernel) (hts _ fl_X5_33) (fun _ h9 => h9) rfl (by decide +kernel) rfl rfl (Nat.le_of_ble_eq_true rfl) dX5_run_12 ?_
  clear hP hD hS
  intro H locs hP hD hS
  refine g5_rs [(a_k, (oc5 a_h a_j a_pt e_ln e_se e_lh e_br e_we e_me p_c p_w p_h e_ov)), (a_h, (oc1 e_wa e_le e_st e_fo e_lc a_l a_g a_b a_s a_p a_w e_gb a_bb)), (a_g, (oc6 6 5 a_gn e_g)), (a_gn, (arI G 30 f_g)), (a_b, (oc6 5 24 a_bn e_b)), (a_bn, (arI G 120 f_b)), (a_p, (oc6 8 5 a_pn e_p)), (a_pn, (arI G 40 f_p)), (a_bb, (arJ G 24 f_bb)), (a_j, (oc2 a_as a_sk)), (a_as, (arI G 8 f_as)), (a_sk, (arJ G 50 f_sk)), (a_l, (arW G 6 f_l)), (a_pt, (arI G 200 f_pt))] hP hD ?_
  clear hP hD
  intro hP hD
  refine W.eq (g2 := F0 m 15 ls []) rfl ?_
  refine lv_aload_n hx hb dX5_run_15 rfl (lv_at hl 0 rfl) ?_
  refine lv_iconst (v := 0) hx hb dX5_run_16 (by decide +kernel) ?_
  refine va_put (D := G.1) (ci := 5) (v := .int 0) (ty := .int) (C := RX5) (T := TX5) (N := 13) hx hb hts inG_X5 tyX5 tyX5_ok nmX5 hown hK hP hD hS 0 rfl rfl 3 (by decide +kernel) (hts _ fl_X5_36) (fun _ h9 => h9) rfl (by decide +kernel) rfl rfl (Nat.le_of_ble_eq_true rfl) dX5_run_17 ?_
  clear hP hD hS
  intro H locs hP hD hS
  refine g5_rs [(a_k, (oc5 a_h a_j a_pt 0 e_se e_lh e_br e_we e_me p_c p_w p_h e_ov)), (a_h, (oc1 e_wa e_le e_st e_fo e_lc a_l a_g a_b a_s a_p a_w e_gb a_bb)), (a_g, (oc6 6 5 a_gn e_g)), (a_gn, (arI G 30 f_g)), (a_b, (oc6 5 24 a_bn e_b)), (a_bn, (arI G 120 f_b)), (a_p, (oc6 8 5 a_pn e_p)), (a_pn, (arI G 40 f_p)), (a_bb, (arJ G 24 f_bb)), (a_j, (oc2 a_as a_sk)), (a_as, (arI G 8 f_as)), (a_sk, (arJ G 50 f_sk)), (a_l, (arW G 6 f_l)), (a_pt, (arI G 200 f_pt))] hP hD ?_
  clear hP hD
  intro hP hD
  refine lv_aload_n hx hb dX5_run_20 rfl (lv_at hl 0 rfl) ?_
  refine lv_iconst (v := (-1)) hx hb dX5_run_21 (by decide +kernel) ?_
  refine W.eq (g2 := F0 m 22 ls [.int (-1), .ref a_k]) rfl ?_
  refine va_put (D := G.1) (ci := 5) (v := .int (-1)) (ty := .int) (C := RX5) (T := TX5) (N := 13) hx hb hts inG_X5 tyX5 tyX5_ok nmX5 hown hK hP hD hS 0 rfl rfl 4 (by decide +kernel) (hts _ fl_X5_39) (fun _ h9 => h9) rfl (by decide +kernel) rfl rfl (Nat.le_of_ble_eq_true rfl) dX5_run_22 ?_
  clear hP hD hS
  intro H locs hP hD hS
  refine g5_rs [(a_k, (oc5 a_h a_j a_pt 0 (-1) e_lh e_br e_we e_me p_c p_w p_h e_ov)), (a_h, (oc1 e_wa e_le e_st e_fo e_lc a_l a_g a_b a_s a_p a_w e_gb a_bb)), (a_g, (oc6 6 5 a_gn e_g)), (a_gn, (arI G 30 f_g)), (a_b, (oc6 5 24 a_bn e_b)), (a_bn, (arI G 120 f_b)), (a_p, (oc6 8 5 a_pn e_p)), (a_pn, (arI G 40 f_p)), (a_bb, (arJ G 24 f_bb)), (a_j, (oc2 a_as a_sk)), (a_as, (arI G 8 f_as)), (a_sk, (arJ G 50 f_sk)), (a_l, (arW G 6 f_l)), (a_pt, (arI G 200 f_pt))] hP hD ?_
  clear hP hD
  intro hP hD
  refine lv_aload_n hx hb dX5_run_25 rfl (lv_at hl 0 rfl) ?_
  refine lv_iconst (v := (-1)) hx hb dX5_run_26 (by decide +kernel) ?_
  refine va_put (D := G.1) (ci := 5) (v := .int (-1)) (ty := .int) (C := RX5) (T := TX5) (N := 13) hx hb hts inG_X5 tyX5 tyX5_ok nmX5 hown hK hP hD hS 0 rfl rfl 5 (by decide +kernel) (hts _ fl_X5_42) (fun _ h9 => h9) rfl (by decide +kernel) rfl rfl (Nat.le_of_ble_eq_true rfl) dX5_run_27 ?_
  clear hP hD hS
  intro H locs hP hD hS
  refine g5_rs [(a_k, (oc5 a_h a_j a_pt 0 (-1) (-1) e_br e_we e_me p_c p_w p_h e_ov)), (a_h, (oc1 e_wa e_le e_st e_fo e_lc a_l a_g a_b a_s a_p a_w e_gb a_bb)), (a_g, (oc6 6 5 a_gn e_g)), (a_gn, (arI G 30 f_g)), (a_b, (oc6 5 24 a_bn e_b)), (a_bn, (arI G 120 f_b)), (a_p, (oc6 8 5 a_pn e_p)), (a_pn, (arI G 40 f_p)), (a_bb, (arJ G 24 f_bb)), (a_j, (oc2 a_as a_sk)), (a_as, (arI G 8 f_as)), (a_sk, (arJ G 50 f_sk)), (a_l, (arW G 6 f_l)), (a_pt, (arI G 200 f_pt))] hP hD ?_
  clear hP hD
  intro hP hD
  refine lv_aload_n hx hb dX5_run_30 rfl (lv_at hl 0 rfl) ?_
  refine W.eq (g2 := F0 m 31 ls [.ref a_k]) rfl ?_
  refine lv_ldc (v := 1000000) hx hb hown (hts _ ki_X5_45) dX5_run_31 ?_
  refine va_put (D := G.1) (ci := 5) (v := .int 1000000) (ty := .int) (C := RX5) (T := TX5) (N := 13) hx hb hts inG_X5 tyX5 tyX5_ok nmX5 hown hK hP hD hS 0 rfl rfl 6 (by decide +kernel) (hts _ fl_X5_46) (fun _ h9 => h9) rfl (by decide +kernel) rfl rfl (Nat.le_of_ble_eq_true rfl) dX5_run_33 ?_
  clear hP hD hS
  intro H locs hP hD hS
  refine g5_rs [(a_k, (oc5 a_h a_j a_pt 0 (-1) (-1) 1000000 e_we e_me p_c p_w p_h e_ov)), (a_h, (oc1 e_wa e_le e_st e_fo e_lc a_l a_g a_b a_s a_p a_w e_gb a_bb)), (a_g, (oc6 6 5 a_gn e_g)), (a_gn, (arI G 30 f_g)), (a_b, (oc6 5 24 a_bn e_b)), (a_bn, (arI G 120 f_b)), (a_p, (oc6 8 5 a_pn e_p)), (a_pn, (arI G 40 f_p)), (a_bb, (arJ G 24 f_bb)), (a_j, (oc2 a_as a_sk)), (a_as, (arI G 8 f_as)), (a_sk, (arJ G 50 f_sk)), (a_l, (arW G 6 f_l)), (a_pt, (arI G 200 f_pt))] hP hD ?_
  clear hP hD
  intro hP hD
  refine lv_aload_n hx hb dX5_run_36 rfl (lv_at hl 0 rfl) ?_
  refine lv_iconst (v := 0) hx hb dX5_run_37 (by decide +kernel) ?_
  refine va_put (D := G.1) (ci := 5) (v := .int 0) (ty := .int) (C := RX5) (T := TX5) (N := 13) hx hb hts inG_X5 tyX5 tyX5_ok nmX5 hown hK hP hD hS 0 rfl rfl 7 (by decide +kernel) (hts _ fl_X5_49) (fun _ h9 => h9) rfl (by decide +kernel) rfl rfl (Nat.le_of_ble_eq_true rfl) dX5_run_38 ?_
  clear hP hD hS
  intro H locs hP hD hS
  refine g5_rs [(a_k, (oc5 a_h a_j a_pt 0 (-1) (-1) 1000000 0 e_me p_c p_w p_h e_ov)), (a_h, (oc1 e_wa e_le e_st e_fo e_lc a_l a_g a_b a_s a_p a_w e_gb a_bb)), (a_g, (oc6 6 5 a_gn e_g)), (a_gn, (arI G 30 f_g)), (a_b, (oc6 5 24 a_bn e_b)), (a_bn, (arI G 120 f_b)), (a_p, (oc6 8 5 a_pn e_p)), (a_pn, (arI G 40 f_p)), (a_bb, (arJ G 24 f_bb)), (a_j, (oc2 a_as a_sk)), (a_as, (arI G 8 f_as)), (a_sk, (arJ G 50 f_sk)), (a_l, (arW G 6 f_l)), (a_pt, (arI G 200 f_pt))] hP hD ?_
  clear hP hD
  intro hP hD
  refine W.eq (g2 := F0 m 41 ls []) rfl ?_
  refine lv_aload_n hx hb dX5_run_41 rfl (lv_at hl 0 rfl) ?_
  refine lv_iload_n hx hb dX5_run_42 rfl (lv_at hl 1 rfl) ?_
  refine lv_iload_n hx hb dX5_run_43 rfl (lv_at hl 2 rfl) ?_
  refine lv_iload_n hx hb dX5_run_44 rfl (lv_at hl 3 rfl) ?_
  obtain ⟨hPc, hDc, hFc⟩ := g5_sub3 (wc := []) hP hD hS hA [] (by decide +kernel) rfl
  refine va_calli (va_runSN (As := [.int p_c, .int p_w, .int p_h]) (rest := [.ref a_k]) ⟨hx, hb, hml, hown, hts⟩ (x_isLook l G H.size p_c p_w p_h) ⟨va_cnB 3 hts gW_X11_isLook rfl rfl rfl (hN.1 _ g5_nw_X5_52) (hts _ ini_X11) hs_X11_isLook ⟨Nat.le_of_ble_eq_true rfl, Nat.le_of_ble_eq_true rfl⟩, hts _ st_X11_isLook, trivial⟩ (g5_preS hPc hK hDc hN hT hS hFc) rfl rfl hl.1 rfl (lv_room (Nat.le_of_ble_eq_true rfl)) dX5_run_45 ⟨Nat.le_of_ble_eq_true rfl, Nat.le_of_ble_eq_true rfl⟩) hS (fun q _ h => hFc q h) hFc (fun r u t H locs ht hvm hw hB hz1 hk1 hS => ?_)
  obtain ⟨hP1, hD1⟩ := hB
  have hP1 := g5_ht ht hP1
  rcases hw with ⟨(i_1 : (0 ≤ p_c.toInt ∧ p_c.toInt ≤ 63) ∧ (0 ≤ p_w.toInt ∧ p_w.toInt ≤ 3) ∧ (0 ≤ p_h.toInt ∧ p_h.toInt ≤ 23)), rfl, rfl⟩ | ⟨rfl, rfl⟩
  ·
    have hJ9 := g5_same hP hk1
    clear hP hPc hDc hFc ht hvm hz1 hk1 hP1 hD1
    have hP := hJ9
    clear hJ9
    refine lv_if_ne (tgt := 55) hx hb dX5_run_48 (by decide +kernel) (fun c_2 => ?_) (fun c_2 => ?_)
    ·
      refine lv_iconst (v := 0) hx hb dX5_run_55 (by decide +kernel) ?_
      refine va_put (D := G.1) (ci := 5) (v := .int 0) (ty := .boolean) (C := RX5) (T := TX5) (N := 13) hx hb hts inG_X5 tyX5 tyX5_ok nmX5 hown hK hP hD hS 0 rfl rfl 12 (by decide +kernel) (hts _ fl_X5_56) (fun _ h9 => h9) rfl (by decide +kernel) rfl rfl (Nat.le_of_ble_eq_true rfl) dX5_run_56 ?_
      clear hP hD hS
      intro H locs hP hD hS
      refine g5_rs [(a_k, (oc5 a_h a_j a_pt 0 (-1) (-1) 1000000 0 e_me p_c p_w p_h 0)), (a_h, (oc1 e_wa e_le e_st e_fo e_lc a_l a_g a_b a_s a_p a_w e_gb a_bb)), (a_g, (oc6 6 5 a_gn e_g)), (a_gn, (arI G 30 f_g)), (a_b, (oc6 5 24 a_bn e_b)), (a_bn, (arI G 120 f_b)), (a_p, (oc6 8 5 a_pn e_p)), (a_pn, (arI G 40 f_p)), (a_bb, (arJ G 24 f_bb)), (a_j, (oc2 a_as a_sk)), (a_as, (arI G 8 f_as)), (a_sk, (arJ G 50 f_sk)), (a_l, (arW G 6 f_l)), (a_pt, (arI G 200 f_pt))] hP hD ?_
      clear hP hD
      intro hP hD
      refine lv_aload_n hx hb dX5_run_59 rfl (lv_at hl 0 rfl) ?_
      refine va_get (D := G.1) (ci := 5) (v := .ref a_h) (C := RX5) (T := TX5) (N := 13) hx hb hts inG_X5 hown hK hP 0 rfl rfl 0 (by decide +kernel) (hts _ fl_X5_22) (fun _ h9 => h9) rfl dX5_run_60 ?_
      refine W.eq (g2 := F0 m 63 ls [.ref a_h]) rfl ?_
      refine va_get (D := G.1) (ci := 1) (v := .long e_gb) (C := RX1) (T := TX1) (N := 13) hx hb hts inG_X1 hown hK hP 1 rfl rfl 11 (by decide +kernel) (hts _ fl_X5_60) (fun _ h9 => h9) rfl dX5_run_63 ?_
      refine lv_aload_n hx hb dX5_run_66 rfl (lv_at hl 0 rfl) ?_
      refine lv_iload hx hb dX5_run_67 (lv_at hl 4 rfl) ?_
      obtain ⟨hPc, hDc, hFc⟩ := g5_sub3 (wc := [(a_k, (oc5 a_h a_j a_pt 0 (-1) (-1) 1000000 0 e_me p_c p_w p_h 0)), (a_h, (oc1 e_wa e_le e_st e_fo e_lc a_l a_g a_b a_s a_p a_w e_gb a_bb)), (a_p, (oc6 8 5 a_pn e_p)), (a_pn, (arI G 40 f_p))]) hP hD hS hA [0, 1, 6, 7] (by decide +kernel) rfl
      refine va_calll (va_runV (As := [.int p_u]) (rest := [.long e_gb]) ⟨hx, hb, hml, hown, hts⟩ (k_hung l G a_k a_h a_p a_pn a_j a_pt a_l a_g a_b a_s a_w a_bb H.size e_le e_st e_fo e_lc e_p 0 (-1) (-1) 1000000 0 e_me p_c p_w p_h 0 p_u e_wa e_gb f_p h_e_p ⟨by decide, by decide⟩ (gOK_cell e_pk)) (cwV 1 hts gV_X5_66 rfl rfl rfl hv_X5_hungBoard ⟨Nat.le_of_ble_eq_true rfl, Nat.le_of_ble_eq_true rfl⟩) (g5_preV hPc hK hDc hN hT hS hFc (ci := 5) (q0 := 0) rfl rfl) rfl rfl hl.1 rfl (lv_room (Nat.le_of_ble_eq_true rfl)) dX5_run_69 ⟨Nat.le_of_ble_eq_true rfl, Nat.le_of_ble_eq_true rfl⟩) hS (fun q _ h => hFc q h) hFc (fun r u t H locs ht hvm hw hB hz1 hk1 hS => ?_)
      obtain ⟨hP1, hD1⟩ := hB
      have hP1 := g5_ht ht hP1
      obtain ⟨z4, (i_3 : inT z4 f_p e_p.toInt), y5, rfl⟩ := hw
      have hJ9 := va_join (wr := [(a_g, (oc6 6 5 a_gn e_g)), (a_gn, (arI G 30 f_g)), (a_b, (oc6 5 24 a_bn e_b)), (a_bn, (arI G 120 f_b)), (a_bb, (arJ G 24 f_bb)), (a_j, (oc2 a_as a_sk)), (a_as, (arI G 8 f_as)), (a_sk, (arJ G 50 f_sk)), (a_l, (arW G 6 f_l)), (a_pt, (arI G 200 f_pt))]) hP hD [0, 1, 6, 7] [2, 3, 4, 5, 8, 9, 10, 11, 12, 13] rfl rfl (by decide +kernel) (by decide +kernel) hk1 hFc hP1 hD1
      clear hP hD hPc hDc hFc ht hvm hz1 hk1 hP1 hD1
      obtain ⟨hP, hD⟩ := hJ9
      refine g5_rs [(a_g, (oc6 6 5 a_gn e_g)), (a_gn, (arI G 30 f_g)), (a_b, (oc6 5 24 a_bn e_b)), (a_bn, (arI G 120 f_b)), (a_bb, (arJ G 24 f_bb)), (a_j, (oc2 a_as a_sk)), (a_as, (arI G 8 f_as)), (a_sk, (arJ G 50 f_sk)), (a_l, (arW G 6 f_l)), (a_pt, (arI G 200 f_pt)), (a_k, (oc5 a_h a_j a_pt 0 (-1) (-1) 1000000 0 e_me p_c p_w p_h 0)), (a_h, (oc1 e_wa e_le e_st e_fo e_lc a_l a_g a_b a_s a_p a_w e_gb a_bb)), (a_p, (oc6 8 5 a_pn e_p)), (a_pn, (arI G 40 f_p))] hP hD ?_
      clear hP hD
      intro hP hD
      refine g5_tl (v := z4) y5 ?_
      refine lv_lor hx hb dX5_run_72 ?_
      refine W.eq (g2 := F0 m 73 ls [.long (e_gb ||| z4)]) rfl ?_
      refine lv_lstore (lv' := [(5, .long (e_gb ||| z4)), (0, .ref a_k), (1, .int p_c), (2, .int p_w), (3, .int p_h), (4, .int p_u)]) hx hb dX5_run_73 hl (by decide +kernel) rfl ?_
      clear hl
      intro ls hl
      refine lv_iconst (v := 0) hx hb dX5_run_75 (by decide +kernel) ?_
      refine lv_istore (lv' := [(7, .int 0), (5, .long (e_gb ||| z4)), (0, .ref a_k), (1, .int p_c), (2, .int p_w), (3, .int p_h), (4, .int p_u)]) hx hb dX5_run_76 hl (by decide +kernel) rfl ?_
      clear hl
      intro ls hl
      refine g5_loop (α := (Int32) × (Int32) × (Int32) × (Int32) × (Int32) × (Int32) × (Int32) × (Int32) × (Int32) × (Int32) × (Int32) × (Nat → Int32) × (Nat → Int32) × (Nat → Int64)) (fun (q : (Int32) × (Int32) × (Int32) × (Int32) × (Int32) × (Int32) × (Int32) × (Int32) × (Int32) × (Int32) × (Int32) × (Nat → Int32) × (Nat → Int32) × (Nat → Int64)) (ls : Array Slot) (H : Heap) (locs : List Loc) => match q with | (k_i, k_ln, k_se, k_lh, k_br, k_we, k_me, k_ce, k_wy, k_ho, k_ov, k_pt, k_as, k_sk) => lv_has ls 9 [(7, .int k_i), (5, .long (e_gb ||| z4)), (0, .ref a_k), (1, .int p_c), (2, .int p_w), (3, .int p_h), (4, .int p_u)] ∧ va_P G.1 vwCl [(a_g, (oc6 6 5 a_gn e_g)), (a_gn, (arI G 30 f_g)), (a_b, (oc6 5 24 a_bn e_b)), (a_bn, (arI G 120 f_b)), (a_bb, (arJ G 24 f_bb)), (a_j, (oc2 a_as a_sk)), (a_as, (arI G 8 k_as)), (a_sk, (arJ G 50 k_sk)), (a_l, (arW G 6 f_l)), (a_pt, (arI G 200 k_pt)), (a_k, (oc5 a_h a_j a_pt k_ln k_se k_lh k_br k_we k_me k_ce k_wy k_ho k_ov)), (a_h, (oc1 e_wa e_le e_st e_fo e_lc a_l a_g a_b a_s a_p a_w e_gb a_bb)), (a_p, (oc6 8 5 a_pn e_p)), (a_pn, (arI G 40 f_p))] H ∧ va_D A [(a_g, (oc6 6 5 a_gn e_g)), (a_gn, (arI G 30 f_g)), (a_b, (oc6 5 24 a_bn e_b)), (a_bn, (arI G 120 f_b)), (a_bb, (arJ G 24 f_bb)), (a_j, (oc2 a_as a_sk)), (a_as, (arI G 8 k_as)), (a_sk, (arJ G 50 k_sk)), (a_l, (arW G 6 f_l)), (a_pt, (arI G 200 k_pt)), (a_k, (oc5 a_h a_j a_pt k_ln k_se k_lh k_br k_we k_me k_ce k_wy k_ho k_ov)), (a_h, (oc1 e_wa e_le e_st e_fo e_lc a_l a_g a_b a_s a_p a_w e_gb a_bb)), (a_p, (oc6 8 5 a_pn e_p)), (a_pn, (arI G 40 f_p))] ∧ va_S A s.heap H locs ∧ (0 ≤ k_i.toInt ∧ k_i.toInt ≤ 200) ∧ (0 ≤ k_ln.toInt ∧ k_ln.toInt ≤ 200) ∧ ((-1) ≤ k_lh.toInt ∧ k_lh.toInt ≤ 23) ∧ (0 ≤ k_br.toInt ∧ k_br.toInt ≤ 1000000) ∧ (0 ≤ k_ce.toInt ∧ k_ce.toInt ≤ 63) ∧ (0 ≤ k_wy.toInt ∧ k_wy.toInt ≤ 3) ∧ (0 ≤ k_ho.toInt ∧ k_ho.toInt ≤ 23) ∧ (0 ≤ k_ov.toInt ∧ k_ov.toInt ≤ 1) ∧ (k_ln.toInt = k_i.toInt) ∧ (∀ j : Nat, (j : Int) < k_ln.toInt → 0 ≤ (k_pt j).toInt ∧ (k_pt j).toInt ≤ 1535)) (fun (q : (Int32) × (Int32) × (Int32) × (Int32) × (Int32) × (Int32) × (Int32) × (Int32) × (Int32) × (Int32) × (Int32) × (Nat → Int32) × (Nat → Int32) × (Nat → Int64)) => match q with | (k_i, k_ln, k_se, k_lh, k_br, k_we, k_me, k_ce, k_wy, k_ho, k_ov, k_pt, k_as, k_sk) => Int.toNat (200 - k_i.toInt)) (0, 0, (-1), (-1), 1000000, 0, e_me, p_c, p_w, p_h, 0, f_pt, f_as, f_sk) ⟨lv_sub hl [0, 1, 2, 3, 4, 5, 6] rfl, hP, hD, hS, ⟨by decide, by decide⟩, ⟨by decide, by decide⟩, ⟨by decide, by decide⟩, ⟨by decide, by decide⟩, ⟨by omega, by omega⟩, ⟨by omega, by omega⟩, ⟨by omega, by omega⟩, ⟨by decide, by decide⟩, (by decide +kernel), fun j h => absurd h (by have z : (0 : Int32).toInt = 0 := (by decide +kernel); omega)⟩ ?_
      rintro ⟨k_i, k_ln, k_se, k_lh, k_br, k_we, k_me, k_ce, k_wy, k_ho, k_ov, k_pt, k_as, k_sk⟩ ls H locs ⟨hl, hP, hD, hS, (i_6 : 0 ≤ k_i.toInt ∧ k_i.toInt ≤ 200), (i_7 : 0 ≤ k_ln.toInt ∧ k_ln.toInt ≤ 200), (i_8 : (-1) ≤ k_lh.toInt ∧ k_lh.toInt ≤ 23), (i_9 : 0 ≤ k_br.toInt ∧ k_br.toInt ≤ 1000000), (i_10 : 0 ≤ k_ce.toInt ∧ k_ce.toInt ≤ 63), (i_11 : 0 ≤ k_wy.toInt ∧ k_wy.toInt ≤ 3), (i_12 : 0 ≤ k_ho.toInt ∧ k_ho.toInt ≤ 23), (i_13 : 0 ≤ k_ov.toInt ∧ k_ov.toInt ≤ 1), (i_14 : k_ln.toInt = k_i.toInt), (i_15 : ∀ j : Nat, (j : Int) < k_ln.toInt → 0 ≤ (k_pt j).toInt ∧ (k_pt j).toInt ≤ 1535)⟩ ih_78_16
      replace hl : lv_has ls 9 [(7, .int k_i), (5, .long (e_gb ||| z4)), (0, .ref a_k), (1, .int p_c), (2, .int p_w), (3, .int p_h), (4, .int p_u)] := hl
      refine g5_rs [(a_g, (oc6 6 5 a_gn e_g)), (a_gn, (arI G 30 f_g)), (a_b, (oc6 5 24 a_bn e_b)), (a_bn, (arI G 120 f_b)), (a_bb, (arJ G 24 f_bb)), (a_j, (oc2 a_as a_sk)), (a_as, (arI G 8 k_as)), (a_sk, (arJ G 50 k_sk)), (a_l, (arW G 6 f_l)), (a_pt, (arI G 200 k_pt)), (a_k, (oc5 a_h a_j a_pt k_ln k_se k_lh k_br k_we k_me k_ce k_wy k_ho k_ov)), (a_h, (oc1 e_wa e_le e_st e_fo e_lc a_l a_g a_b a_s a_p a_w e_gb a_bb)), (a_p, (oc6 8 5 a_pn e_p)), (a_pn, (arI G 40 f_p))] hP hD ?_
      clear hP hD
      intro hP hD
      refine lv_iload hx hb dX5_run_78 (lv_at hl 0 rfl) ?_
      refine lv_sipush (v := 200) hx hb dX5_run_80 (by decide +kernel) ?_
      refine lv_icmp_ge (tgt := 227) hx hb dX5_run_83 (by decide +kernel) (fun c_17 => ?_) (fun c_17 => ?_)
      ·
        have i_17 : k_i.toInt ≥ 200 := g5_ge (a := k_i.toInt) (b := 200) rfl (by decide +kernel) c_17
        exact W.vret hx hb hr (fun t ht hW => ⟨⟨[(a_k, (oc5 a_h a_j a_pt k_ln k_se k_lh k_br k_we k_me k_ce k_wy k_ho k_ov)), (a_h, (oc1 e_wa e_le e_st e_fo e_lc a_l a_g a_b a_s a_p a_w e_gb a_bb)), (a_g, (oc6 6 5 a_gn e_g)), (a_gn, (arI G 30 f_g)), (a_b, (oc6 5 24 a_bn e_b)), (a_bn, (arI G 120 f_b)), (a_p, (oc6 8 5 a_pn e_p)), (a_pn, (arI G 40 f_p)), (a_bb, (arJ G 24 f_bb)), (a_j, (oc2 a_as a_sk)), (a_as, (arI G 8 k_as)), (a_sk, (arJ G 50 k_sk)), (a_l, (arW G 6 f_l)), (a_pt, (arI G 200 k_pt))], rfl, ⟨k_ln, k_se, k_lh, k_br, k_we, k_me, k_ce, k_wy, k_ho, k_ov, k_pt, k_as, k_sk, i_7, i_13, i_15, rfl⟩, by rw [ht]; exact hP.sub [10, 11, 0, 1, 2, 3, 12, 13, 4, 5, 6, 7, 8, 9] rfl, hD.sub [10, 11, 0, 1, 2, 3, 12, 13, 4, 5, 6, 7, 8, 9] (by decide +kernel) rfl⟩, hS.F ht⟩) hS.2.2 dX5_run_227
      ·
        have i_17 : k_i.toInt < 200 := g5_geN (a := k_i.toInt) (b := 200) rfl (by decide +kernel) c_17
        refine lv_aload_n hx hb dX5_run_86 rfl (lv_at hl 2 rfl) ?_
        refine va_get (D := G.1) (ci := 5) (v := .int k_ov) (C := RX5) (T := TX5) (N := 13) hx hb hts inG_X5 hown hK hP 10 rfl rfl 12 (by decide +kernel) (hts _ fl_X5_56) (fun _ h9 => h9) rfl dX5_run_87 ?_
        refine lv_if_ne (tgt := 227) hx hb dX5_run_90 (by decide +kernel) (fun c_18 => ?_) (fun c_18 => ?_)
        ·
          have n_18 : gNe (k_ov.toInt) (0) := g5_ne (a := k_ov.toInt) (b := 0) rfl (by decide +kernel) c_18
          have i_18 : k_ov.toInt ≥ 1 := by have z := g5_ne (a := k_ov.toInt) (b := 0) (by rfl) (by decide +kernel) c_18; omega
          exact W.vret hx hb hr (fun t ht hW => ⟨⟨[(a_k, (oc5 a_h a_j a_pt k_ln k_se k_lh k_br k_we k_me k_ce k_wy k_ho k_ov)), (a_h, (oc1 e_wa e_le e_st e_fo e_lc a_l a_g a_b a_s a_p a_w e_gb a_bb)), (a_g, (oc6 6 5 a_gn e_g)), (a_gn, (arI G 30 f_g)), (a_b, (oc6 5 24 a_bn e_b)), (a_bn, (arI G 120 f_b)), (a_p, (oc6 8 5 a_pn e_p)), (a_pn, (arI G 40 f_p)), (a_bb, (arJ G 24 f_bb)), (a_j, (oc2 a_as a_sk)), (a_as, (arI G 8 k_as)), (a_sk, (arJ G 50 k_sk)), (a_l, (arW G 6 f_l)), (a_pt, (arI G 200 k_pt))], rfl, ⟨k_ln, k_se, k_lh, k_br, k_we, k_me, k_ce, k_wy, k_ho, k_ov, k_pt, k_as, k_sk, i_7, i_13, i_15, rfl⟩, by rw [ht]; exact hP.sub [10, 11, 0, 1, 2, 3, 12, 13, 4, 5, 6, 7, 8, 9] rfl, hD.sub [10, 11, 0, 1, 2, 3, 12, 13, 4, 5, 6, 7, 8, 9] (by decide +kernel) rfl⟩, hS.F ht⟩) hS.2.2 dX5_run_227
        ·
          have i_18 : k_ov.toInt = 0 := g5_neN (a := k_ov.toInt) (b := 0) rfl (by decide +kernel) c_18
          refine lv_aload_n hx hb dX5_run_93 rfl (lv_at hl 2 rfl) ?_
          refine va_get (D := G.1) (ci := 5) (v := .int k_ce) (C := RX5) (T := TX5) (N := 13) hx hb hts inG_X5 hown hK hP 10 rfl rfl 9 (by decide +kernel) (hts _ fl_X5_26) (fun _ h9 => h9) rfl dX5_run_94 ?_
          refine lv_aload_n hx hb dX5_run_97 rfl (lv_at hl 2 rfl) ?_
          refine va_get (D := G.1) (ci := 5) (v := .int k_wy) (C := RX5) (T := TX5) (N := 13) hx hb hts inG_X5 hown hK hP 10 rfl rfl 10 (by decide +kernel) (hts _ fl_X5_30) (fun _ h9 => h9) rfl dX5_run_98 ?_
          refine W.eq (g2 := F0 m 101 ls [.int k_wy, .int k_ce]) rfl ?_
          obtain ⟨hPc, hDc, hFc⟩ := g5_sub3 (wc := []) hP hD hS hA [] (by decide +kernel) rfl
          refine va_calli (va_runSN (As := [.int k_ce, .int k_wy]) (rest := []) ⟨hx, hb, hml, hown, hts⟩ (k_beside l G H.size k_ce k_wy i_10) ⟨va_cnB 2 hts gW_X11_beside rfl rfl rfl (hN.1 _ g5_nw_X5_70) (hts _ ini_X11) hs_X11_beside ⟨Nat.le_of_ble_eq_true rfl, Nat.le_of_ble_eq_true rfl⟩, hts _ st_X11_beside, trivial⟩ (g5_preS hPc hK hDc hN hT hS hFc) rfl rfl hl.1 rfl (lv_room (Nat.le_of_ble_eq_true rfl)) dX5_run_101 ⟨Nat.le_of_ble_eq_true rfl, Nat.le_of_ble_eq_true rfl⟩) hS (fun q _ h => hFc q h) hFc (fun r u t H locs ht hvm hw hB hz1 hk1 hS => ?_)
          obtain ⟨hP1, hD1⟩ := hB
          have hP1 := g5_ht ht hP1
          obtain ⟨z21, (i_19 : z21.toInt = bs k_ce.toInt k_wy.toInt), (i_20 : -1 ≤ z21.toInt ∧ z21.toInt ≤ 63), y22, rfl⟩ := hw
          have hJ9 := g5_same hP hk1
          clear hP hPc hDc hFc ht hvm hz1 hk1 hP1 hD1
          have hP := hJ9
          clear hJ9
          refine g5_ti (v := z21) y22 ?_
          refine lv_istore (lv' := [(8, .int z21), (7, .int k_i), (5, .long (e_gb ||| z4)), (0, .ref a_k), (1, .int p_c), (2, .int p_w), (3, .int p_h), (4, .int p_u)]) hx hb dX5_run_104 hl (by decide +kernel) rfl ?_
          clear hl
          intro ls hl
          refine lv_iload hx hb dX5_run_106 (lv_at hl 0 rfl) ?_
          refine lv_iconst (v := (-1)) hx hb dX5_run_108 (by decide +kernel) ?_
          refine lv_icmp_eq (tgt := 127) hx hb dX5_run_109 (by decide +kernel) (fun c_23 => ?_) (fun c_23 => ?_)
          ·
            have i_23 : z21.toInt = (-1) := g5_eq (a := z21.toInt) (b := (-1)) rfl (by decide +kernel) c_23
            exact W.vret hx hb hr (fun t ht hW => ⟨⟨[(a_k, (oc5 a_h a_j a_pt k_ln k_se k_lh k_br k_we k_me k_ce k_wy k_ho k_ov)), (a_h, (oc1 e_wa e_le e_st e_fo e_lc a_l a_g a_b a_s a_p a_w e_gb a_bb)), (a_g, (oc6 6 5 a_gn e_g)), (a_gn, (arI G 30 f_g)), (a_b, (oc6 5 24 a_bn e_b)), (a_bn, (arI G 120 f_b)), (a_p, (oc6 8 5 a_pn e_p)), (a_pn, (arI G 40 f_p)), (a_bb, (arJ G 24 f_bb)), (a_j, (oc2 a_as a_sk)), (a_as, (arI G 8 k_as)), (a_sk, (arJ G 50 k_sk)), (a_l, (arW G 6 f_l)), (a_pt, (arI G 200 k_pt))], rfl, ⟨k_ln, k_se, k_lh, k_br, k_we, k_me, k_ce, k_wy, k_ho, k_ov, k_pt, k_as, k_sk, i_7, i_13, i_15, rfl⟩, by rw [ht]; exact hP.sub [10, 11, 0, 1, 2, 3, 12, 13, 4, 5, 6, 7, 8, 9] rfl, hD.sub [10, 11, 0, 1, 2, 3, 12, 13, 4, 5, 6, 7, 8, 9] (by decide +kernel) rfl⟩, hS.F ht⟩) hS.2.2 dX5_run_127
          ·
            have n_23 : gNe (z21.toInt) ((-1)) := g5_eqN (a := z21.toInt) (b := (-1)) rfl (by decide +kernel) c_23
            have i_23 : z21.toInt ≥ 0 := by have z := g5_eqN (a := z21.toInt) (b := (-1)) (by rfl) (by decide +kernel) c_23; omega
            refine lv_aload_n hx hb dX5_run_112 rfl (lv_at hl 3 rfl) ?_
            refine va_get (D := G.1) (ci := 5) (v := .ref a_h) (C := RX5) (T := TX5) (N := 13) hx hb hts inG_X5 hown hK hP 10 rfl rfl 0 (by decide +kernel) (hts _ fl_X5_22) (fun _ h9 => h9) rfl dX5_run_113 ?_
            refine va_get (D := G.1) (ci := 1) (v := .long e_wa) (C := RX1) (T := TX1) (N := 13) hx hb hts inG_X1 hown hK hP 11 rfl rfl 0 (by decide +kernel) (hts _ fl_X5_74) (fun _ h9 => h9) rfl dX5_run_116 ?_
            refine lv_iload hx hb dX5_run_119 (lv_at hl 0 rfl) ?_
            refine W.eq (g2 := F0 m 121 ls [.int z21, .long e_wa]) rfl ?_
            obtain ⟨hPc, hDc, hFc⟩ := g5_sub3 (wc := []) hP hD hS hA [] (by decide +kernel) rfl
            refine va_calli (va_runSN (As := [.long e_wa, .int z21]) (rest := []) ⟨hx, hb, hml, hown, hts⟩ (k_isOn l G H.size z21 e_wa ⟨by omega, by omega⟩) ⟨va_cnB 2 hts gW_X11_isOn rfl rfl rfl (hN.1 _ g5_nw_X5_77) (hts _ ini_X11) hs_X11_isOn ⟨Nat.le_of_ble_eq_true rfl, Nat.le_of_ble_eq_true rfl⟩, hts _ st_X11_isOn, trivial⟩ (g5_preS hPc hK hDc hN hT hS hFc) rfl rfl hl.1 rfl (lv_room (Nat.le_of_ble_eq_true rfl)) dX5_run_121 ⟨Nat.le_of_ble_eq_true rfl, Nat.le_of_ble_eq_true rfl⟩) hS (fun q _ h => hFc q h) hFc (fun r u t H locs ht hvm hw hB hz1 hk1 hS => ?_)
            obtain ⟨hP1, hD1⟩ := hB
            have hP1 := g5_ht ht hP1
            rcases hw with ⟨(i_24 : onB e_wa z21.toInt = false), rfl, rfl⟩ | ⟨(i_25 : onB e_wa z21.toInt = true), rfl, rfl⟩
            ·
              have hJ9 := g5_same hP hk1
              clear hP hPc hDc hFc ht hvm hz1 hk1 hP1 hD1
              have hP := hJ9
              clear hJ9
              refine lv_if_eq (tgt := 128) hx hb dX5_run_124 (by decide +kernel) (fun c_26 => ?_) (fun c_26 => ?_)
              ·
                refine lv_aload_n hx hb dX5_run_128 rfl (lv_at hl 3 rfl) ?_
                refine lv_iload hx hb dX5_run_129 (lv_at hl 0 rfl) ?_
                refine va_put (D := G.1) (ci := 5) (v := .int z21) (ty := .int) (C := RX5) (T := TX5) (N := 13) hx hb hts inG_X5 tyX5 tyX5_ok nmX5 hown hK hP hD hS 10 rfl rfl 9 (by decide +kernel) (hts _ fl_X5_26) (fun _ h9 => h9) rfl (by decide +kernel) rfl rfl (Nat.le_of_ble_eq_true rfl) dX5_run_131 ?_
                clear hP hD hS
                intro H locs hP hD hS
                refine g5_rs [(a_g, (oc6 6 5 a_gn e_g)), (a_gn, (arI G 30 f_g)), (a_b, (oc6 5 24 a_bn e_b)), (a_bn, (arI G 120 f_b)), (a_bb, (arJ G 24 f_bb)), (a_j, (oc2 a_as a_sk)), (a_as, (arI G 8 k_as)), (a_sk, (arJ G 50 k_sk)), (a_l, (arW G 6 f_l)), (a_pt, (arI G 200 k_pt)), (a_k, (oc5 a_h a_j a_pt k_ln k_se k_lh k_br k_we k_me z21 k_wy k_ho k_ov)), (a_h, (oc1 e_wa e_le e_st e_fo e_lc a_l a_g a_b a_s a_p a_w e_gb a_bb)), (a_p, (oc6 8 5 a_pn e_p)), (a_pn, (arI G 40 f_p))] hP hD ?_
                clear hP hD
                intro hP hD
                refine lv_aload_n hx hb dX5_run_134 rfl (lv_at hl 3 rfl) ?_
                refine W.eq (g2 := F0 m 135 ls [.ref a_k]) rfl ?_
                refine lv_aload_n hx hb dX5_run_135 rfl (lv_at hl 3 rfl) ?_
                refine va_get (D := G.1) (ci := 5) (v := .int k_ho) (C := RX5) (T := TX5) (N := 13) hx hb hts inG_X5 hown hK hP 10 rfl rfl 11 (by decide +kernel) (hts _ fl_X5_33) (fun _ h9 => h9) rfl dX5_run_136 ?_
                refine va_put (D := G.1) (ci := 5) (v := .int k_ho) (ty := .int) (C := RX5) (T := TX5) (N := 13) hx hb hts inG_X5 tyX5 tyX5_ok nmX5 hown hK hP hD hS 10 rfl rfl 5 (by decide +kernel) (hts _ fl_X5_42) (fun _ h9 => h9) rfl (by decide +kernel) rfl rfl (Nat.le_of_ble_eq_true rfl) dX5_run_139 ?_
                clear hP hD hS
                intro H locs hP hD hS
                refine g5_rs [(a_g, (oc6 6 5 a_gn e_g)), (a_gn, (arI G 30 f_g)), (a_b, (oc6 5 24 a_bn e_b)), (a_bn, (arI G 120 f_b)), (a_bb, (arJ G 24 f_bb)), (a_j, (oc2 a_as a_sk)), (a_as, (arI G 8 k_as)), (a_sk, (arJ G 50 k_sk)), (a_l, (arW G 6 f_l)), (a_pt, (arI G 200 k_pt)), (a_k, (oc5 a_h a_j a_pt k_ln k_se k_ho k_br k_we k_me z21 k_wy k_ho k_ov)), (a_h, (oc1 e_wa e_le e_st e_fo e_lc a_l a_g a_b a_s a_p a_w e_gb a_bb)), (a_p, (oc6 8 5 a_pn e_p)), (a_pn, (arI G 40 f_p))] hP hD ?_
                clear hP hD
                intro hP hD
                refine lv_aload_n hx hb dX5_run_142 rfl (lv_at hl 3 rfl) ?_
                refine va_get (D := G.1) (ci := 5) (v := .ref a_pt) (C := RX5) (T := TX5) (N := 13) hx hb hts inG_X5 hown hK hP 10 rfl rfl 2 (by decide +kernel) (hts _ fl_X5_18) (fun _ h9 => h9) rfl dX5_run_143 ?_
                refine W.eq (g2 := F0 m 146 ls [.ref a_pt]) rfl ?_
                refine lv_iload hx hb dX5_run_146 (lv_at hl 1 rfl) ?_
                refine lv_aload_n hx hb dX5_run_148 rfl (lv_at hl 3 rfl) ?_
                refine va_get (D := G.1) (ci := 5) (v := .int k_ho) (C := RX5) (T := TX5) (N := 13) hx hb hts inG_X5 hown hK hP 10 rfl rfl 11 (by decide +kernel) (hts _ fl_X5_33) (fun _ h9 => h9) rfl dX5_run_149 ?_
                refine lv_bipush (v := 64) hx hb dX5_run_152 (by decide +kernel) ?_
                refine lv_imul hx hb dX5_run_154 ?_
                have t_27 : (k_ho * 64).toInt = k_ho.toInt * 64 := g5_imul (a := k_ho.toInt) (b := 64) (by rfl) (by decide +kernel) (by omega) (by omega)
                refine W.eq (g2 := F0 m 155 ls [.int (k_ho * 64), .int k_i, .ref a_pt]) rfl ?_
                refine lv_aload_n hx hb dX5_run_155 rfl (lv_at hl 3 rfl) ?_
                refine va_get (D := G.1) (ci := 5) (v := .int z21) (C := RX5) (T := TX5) (N := 13) hx hb hts inG_X5 hown hK hP 10 rfl rfl 9 (by decide +kernel) (hts _ fl_X5_26) (fun _ h9 => h9) rfl dX5_run_156 ?_
                refine lv_iadd hx hb dX5_run_159 ?_
                have t_28 : ((k_ho * 64) + z21).toInt = (k_ho * 64).toInt + z21.toInt := g5_iadd (a := (k_ho * 64).toInt) (b := z21.toInt) (by rfl) (by rfl) (by omega) (by omega)
                refine va_iast hx hb hK hP hD hS 9 0 rfl rfl (i := k_i) (x := ((k_ho * 64) + z21)) (vp_in_iff.mpr ⟨by omega, by omega⟩) dX5_run_160 ?_
                clear hP hD hS
                intro H locs hP hD hS
                refine g5_rs [(a_g, (oc6 6 5 a_gn e_g)), (a_gn, (arI G 30 f_g)), (a_b, (oc6 5 24 a_bn e_b)), (a_bn, (arI G 120 f_b)), (a_bb, (arJ G 24 f_bb)), (a_j, (oc2 a_as a_sk)), (a_as, (arI G 8 k_as)), (a_sk, (arJ G 50 k_sk)), (a_l, (arW G 6 f_l)), (a_pt, (arI G 200 (upd k_pt k_i.toNatClampNeg ((k_ho * 64) + z21)))), (a_k, (oc5 a_h a_j a_pt k_ln k_se k_ho k_br k_we k_me z21 k_wy k_ho k_ov)), (a_h, (oc1 e_wa e_le e_st e_fo e_lc a_l a_g a_b a_s a_p a_w e_gb a_bb)), (a_p, (oc6 8 5 a_pn e_p)), (a_pn, (arI G 40 f_p))] hP hD ?_
                clear hP hD
                intro hP hD
                refine lv_aload_n hx hb dX5_run_161 rfl (lv_at hl 3 rfl) ?_
                refine W.eq (g2 := F0 m 162 ls [.ref a_k]) rfl ?_
                refine lv_iload hx hb dX5_run_162 (lv_at hl 1 rfl) ?_
                refine lv_iconst (v := 1) hx hb dX5_run_164 (by decide +kernel) ?_
                refine lv_iadd hx hb dX5_run_165 ?_
                have t_29 : (k_i + 1).toInt = k_i.toInt + 1 := g5_iadd (a := k_i.toInt) (b := 1) (by rfl) (by decide +kernel) (by omega) (by omega)
                refine va_put (D := G.1) (ci := 5) (v := .int (k_i + 1)) (ty := .int) (C := RX5) (T := TX5) (N := 13) hx hb hts inG_X5 tyX5 tyX5_ok nmX5 hown hK hP hD hS 10 rfl rfl 3 (by decide +kernel) (hts _ fl_X5_36) (fun _ h9 => h9) rfl (by decide +kernel) rfl rfl (Nat.le_of_ble_eq_true rfl) dX5_run_166 ?_
                clear hP hD hS
                intro H locs hP hD hS
                refine g5_rs [(a_g, (oc6 6 5 a_gn e_g)), (a_gn, (arI G 30 f_g)), (a_b, (oc6 5 24 a_bn e_b)), (a_bn, (arI G 120 f_b)), (a_bb, (arJ G 24 f_bb)), (a_j, (oc2 a_as a_sk)), (a_as, (arI G 8 k_as)), (a_sk, (arJ G 50 k_sk)), (a_l, (arW G 6 f_l)), (a_pt, (arI G 200 (upd k_pt k_i.toNatClampNeg ((k_ho * 64) + z21)))), (a_k, (oc5 a_h a_j a_pt (k_i + 1) k_se k_ho k_br k_we k_me z21 k_wy k_ho k_ov)), (a_h, (oc1 e_wa e_le e_st e_fo e_lc a_l a_g a_b a_s a_p a_w e_gb a_bb)), (a_p, (oc6 8 5 a_pn e_p)), (a_pn, (arI G 40 f_p))] hP hD ?_
                clear hP hD
                intro hP hD
                refine lv_aload_n hx hb dX5_run_169 rfl (lv_at hl 3 rfl) ?_
                refine W.eq (g2 := F0 m 170 ls [.ref a_k]) rfl ?_
                refine va_get (D := G.1) (ci := 5) (v := .ref a_h) (C := RX5) (T := TX5) (N := 13) hx hb hts inG_X5 hown hK hP 10 rfl rfl 0 (by decide +kernel) (hts _ fl_X5_22) (fun _ h9 => h9) rfl dX5_run_170 ?_
                refine va_get (D := G.1) (ci := 1) (v := .ref a_bb) (C := RX1) (T := TX1) (N := 13) hx hb hts inG_X1 hown hK hP 11 rfl rfl 12 (by decide +kernel) (hts _ fl_X5_81) (fun _ h9 => h9) rfl dX5_run_173 ?_
                refine lv_aload_n hx hb dX5_run_176 rfl (lv_at hl 3 rfl) ?_
                refine va_get (D := G.1) (ci := 5) (v := .int k_ho) (C := RX5) (T := TX5) (N := 13) hx hb hts inG_X5 hown hK hP 10 rfl rfl 11 (by decide +kernel) (hts _ fl_X5_33) (fun _ h9 => h9) rfl dX5_run_177 ?_
                refine va_lald hx hb hK hP 4 1 rfl rfl (i := k_ho) (vp_in_iff.mpr ⟨by omega, by omega⟩) dX5_run_180 ?_
                refine W.eq (g2 := F0 m 181 ls [.long (f_bb k_ho.toNatClampNeg)]) rfl ?_
                refine lv_lload hx hb dX5_run_181 (lv_at hl 2 rfl) ?_
                refine lv_lor hx hb dX5_run_183 ?_
                refine lv_aload_n hx hb dX5_run_184 rfl (lv_at hl 3 rfl) ?_
                refine va_get (D := G.1) (ci := 5) (v := .int z21) (C := RX5) (T := TX5) (N := 13) hx hb hts inG_X5 hown hK hP 10 rfl rfl 9 (by decide +kernel) (hts _ fl_X5_26) (fun _ h9 => h9) rfl dX5_run_185 ?_
                obtain ⟨hPc, hDc, hFc⟩ := g5_sub3 (wc := []) hP hD hS hA [] (by decide +kernel) rfl
                refine va_calli (va_runSN (As := [.long ((f_bb k_ho.toNatClampNeg) ||| (e_gb ||| z4)), .int z21]) (rest := []) ⟨hx, hb, hml, hown, hts⟩ (k_isOn l G H.size z21 ((f_bb k_ho.toNatClampNeg) ||| (e_gb ||| z4)) ⟨by omega, by omega⟩) ⟨va_cnB 2 hts gW_X11_isOn rfl rfl rfl (hN.1 _ g5_nw_X5_77) (hts _ ini_X11) hs_X11_isOn ⟨Nat.le_of_ble_eq_true rfl, Nat.le_of_ble_eq_true rfl⟩, hts _ st_X11_isOn, trivial⟩ (g5_preS hPc hK hDc hN hT hS hFc) rfl rfl hl.1 rfl (lv_room (Nat.le_of_ble_eq_true rfl)) dX5_run_188 ⟨Nat.le_of_ble_eq_true rfl, Nat.le_of_ble_eq_true rfl⟩) hS (fun q _ h => hFc q h) hFc (fun r u t H locs ht hvm hw hB hz1 hk1 hS => ?_)
                obtain ⟨hP1, hD1⟩ := hB
                have hP1 := g5_ht ht hP1
                rcases hw with ⟨(i_30 : onB ((f_bb k_ho.toNatClampNeg) ||| (e_gb ||| z4)) z21.toInt = false), rfl, rfl⟩ | ⟨(i_31 : onB ((f_bb k_ho.toNatClampNeg) ||| (e_gb ||| z4)) z21.toInt = true), rfl, rfl⟩
                ·
                  have hJ9 := g5_same hP hk1
                  clear hP hPc hDc hFc ht hvm hz1 hk1 hP1 hD1
                  have hP := hJ9
                  clear hJ9
                  refine lv_if_eq (tgt := 221) hx hb dX5_run_191 (by decide +kernel) (fun c_32 => ?_) (fun c_32 => ?_)
                  ·
                    refine lv_iinc (v := (k_i + 1)) (lv' := [(7, .int (k_i + 1)), (8, .int z21), (5, .long (e_gb ||| z4)), (0, .ref a_k), (1, .int p_c), (2, .int p_w), (3, .int p_h), (4, .int p_u)]) hx hb dX5_run_221 hl (k := 1) rfl rfl (by decide +kernel) rfl ?_
                    clear hl
                    intro ls hl
                    have t_33 : (k_i + 1).toInt = k_i.toInt + 1 := g5_iadd (a := k_i.toInt) (b := 1) rfl (by decide +kernel) (by omega) (by omega)
                    refine lv_goto (tgt := 78) hx hb dX5_run_224 (by decide +kernel) ?_
                    exact ih_78_16 ((k_i + 1), (k_i + 1), k_se, k_ho, k_br, k_we, k_me, z21, k_wy, k_ho, k_ov, (upd k_pt k_i.toNatClampNeg ((k_ho * 64) + z21)), k_as, k_sk) ls H locs (show Int.toNat (200 - (k_i + 1).toInt) < Int.toNat (200 - k_i.toInt) from g_up (show k_i.toInt < (k_i + 1).toInt by omega) (show k_i.toInt < 200 by omega)) ⟨lv_sub hl [0, 2, 3, 4, 5, 6, 7] rfl, hP, hD, hS, ⟨by omega, by omega⟩, ⟨by omega, by omega⟩, ⟨by omega, by omega⟩, i_9, ⟨by omega, by omega⟩, i_11, i_12, i_13, by omega, g_rows (k := k_i) (fun j hj => i_15 j (by omega)) (by omega) (by omega) (by omega)⟩
                  ·
                    exact absurd c_32 (by decide +kernel)
                ·
                  have hJ9 := g5_same hP hk1
                  clear hP hPc hDc hFc ht hvm hz1 hk1 hP1 hD1
                  have hP := hJ9
                  clear hJ9
                  refine lv_if_eq (tgt := 221) hx hb dX5_run_191 (by decide +kernel) (fun c_34 => ?_) (fun c_34 => ?_)
                  ·
                    exact absurd c_34 (by decide +kernel)
                  ·
                    refine lv_aload_n hx hb dX5_run_194 rfl (lv_at hl 3 rfl) ?_
                    obtain ⟨hPc, hDc, hFc⟩ := g5_sub3 (wc := [(a_k, (oc5 a_h a_j a_pt (k_i + 1) k_se k_ho k_br k_we k_me z21 k_wy k_ho k_ov)), (a_h, (oc1 e_wa e_le e_st e_fo e_lc a_l a_g a_b a_s a_p a_w e_gb a_bb)), (a_b, (oc6 5 24 a_bn e_b)), (a_bn, (arI G 120 f_b)), (a_j, (oc2 a_as a_sk)), (a_as, (arI G 8 k_as)), (a_sk, (arJ G 50 k_sk)), (a_l, (arW G 6 f_l))]) hP hD hS hA [10, 11, 2, 3, 5, 6, 7, 8] (by decide +kernel) rfl
                    refine va_callv (va_runV (As := []) (rest := []) ⟨hx, hb, hml, hown, hts⟩ (k_meetBodiesN l G a_k a_h a_b a_bn a_j a_as a_sk a_l a_pt a_g a_s a_p a_w a_bb H.size (k_i + 1) k_se k_ho k_br k_we k_me z21 k_wy k_ho k_ov e_le e_st e_fo e_lc e_b e_wa e_gb f_b k_as k_sk f_l i_9 ⟨by omega, by omega⟩ i_11 i_12 i_13 h_e_b (e_f)) (cwV 0 hts gV_X5_85 rfl rfl rfl hv_X5_meetBodies ⟨Nat.le_of_ble_eq_true rfl, Nat.le_of_ble_eq_true rfl⟩) (g5_preV hPc hK hDc hN hT hS hFc (ci := 5) (q0 := 0) rfl rfl) rfl rfl hl.1 rfl (lv_room (Nat.le_of_ble_eq_true rfl)) dX5_run_195 ⟨Nat.le_of_ble_eq_true rfl, Nat.le_of_ble_eq_true rfl⟩) hS (fun q _ h => hFc q h) hFc (fun u t H locs ht hvm hw hB hz1 hk1 hS => ?_)
                    obtain ⟨hP1, hD1⟩ := hB
                    have hP1 := g5_ht ht hP1
                    obtain ⟨z36, z37, z38, z39, (i_35 : 0 ≤ z37.toInt ∧ z37.toInt ≤ 1), rfl⟩ := hw
                    have hJ9 := va_join (wr := [(a_g, (oc6 6 5 a_gn e_g)), (a_gn, (arI G 30 f_g)), (a_bb, (arJ G 24 f_bb)), (a_pt, (arI G 200 (upd k_pt k_i.toNatClampNeg ((k_ho * 64) + z21)))), (a_p, (oc6 8 5 a_pn e_p)), (a_pn, (arI G 40 f_p))]) hP hD [10, 11, 2, 3, 5, 6, 7, 8] [0, 1, 4, 9, 12, 13] rfl rfl (by decide +kernel) (by decide +kernel) hk1 hFc hP1 hD1
                    clear hP hD hPc hDc hFc ht hvm hz1 hk1 hP1 hD1
                    obtain ⟨hP, hD⟩ := hJ9
                    refine g5_rs [(a_g, (oc6 6 5 a_gn e_g)), (a_gn, (arI G 30 f_g)), (a_bb, (arJ G 24 f_bb)), (a_pt, (arI G 200 (upd k_pt k_i.toNatClampNeg ((k_ho * 64) + z21)))), (a_p, (oc6 8 5 a_pn e_p)), (a_pn, (arI G 40 f_p)), (a_k, (oc5 a_h a_j a_pt (k_i + 1) z36 k_ho k_br k_we k_me z21 k_wy k_ho z37)), (a_h, (oc1 e_wa e_le e_st e_fo e_lc a_l a_g a_b a_s a_p a_w e_gb a_bb)), (a_b, (oc6 5 24 a_bn e_b)), (a_bn, (arI G 120 f_b)), (a_j, (oc2 a_as a_sk)), (a_as, (arI G 8 z38)), (a_sk, (arJ G 50 z39)), (a_l, (arW G 6 f_l))] hP hD ?_
                    clear hP hD
                    intro hP hD
                    refine lv_aload_n hx hb dX5_run_198 rfl (lv_at hl 3 rfl) ?_
                    refine va_get (D := G.1) (ci := 5) (v := .int z37) (C := RX5) (T := TX5) (N := 13) hx hb hts inG_X5 hown hK hP 6 rfl rfl 12 (by decide +kernel) (hts _ fl_X5_56) (fun _ h9 => h9) rfl dX5_run_199 ?_
                    refine W.eq (g2 := F0 m 202 ls [.int z37]) rfl ?_
                    refine lv_if_ne (tgt := 221) hx hb dX5_run_202 (by decide +kernel) (fun c_40 => ?_) (fun c_40 => ?_)
                    ·
                      have n_40 : gNe (z37.toInt) (0) := g5_ne (a := z37.toInt) (b := 0) rfl (by decide +kernel) c_40
                      have i_40 : z37.toInt ≥ 1 := by have z := g5_ne (a := z37.toInt) (b := 0) (by rfl) (by decide +kernel) c_40; omega
                      refine lv_iinc (v := (k_i + 1)) (lv' := [(7, .int (k_i + 1)), (8, .int z21), (5, .long (e_gb ||| z4)), (0, .ref a_k), (1, .int p_c), (2, .int p_w), (3, .int p_h), (4, .int p_u)]) hx hb dX5_run_221 hl (k := 1) rfl rfl (by decide +kernel) rfl ?_
                      clear hl
                      intro ls hl
                      have t_41 : (k_i + 1).toInt = k_i.toInt + 1 := g5_iadd (a := k_i.toInt) (b := 1) rfl (by decide +kernel) (by omega) (by omega)
                      refine lv_goto (tgt := 78) hx hb dX5_run_224 (by decide +kernel) ?_
                      exact ih_78_16 ((k_i + 1), (k_i + 1), z36, k_ho, k_br, k_we, k_me, z21, k_wy, k_ho, z37, (upd k_pt k_i.toNatClampNeg ((k_ho * 64) + z21)), z38, z39) ls H locs (show Int.toNat (200 - (k_i + 1).toInt) < Int.toNat (200 - k_i.toInt) from g_up (show k_i.toInt < (k_i + 1).toInt by omega) (show k_i.toInt < 200 by omega)) ⟨lv_sub hl [0, 2, 3, 4, 5, 6, 7] rfl, hP.sub [0, 1, 8, 9, 2, 10, 11, 12, 13, 3, 6, 7, 4, 5] rfl, hD.sub [0, 1, 8, 9, 2, 10, 11, 12, 13, 3, 6, 7, 4, 5] (by decide +kernel) rfl, hS, ⟨by omega, by omega⟩, ⟨by omega, by omega⟩, ⟨by omega, by omega⟩, i_9, ⟨by omega, by omega⟩, i_11, i_12, i_35, by omega, g_rows (k := k_i) (fun j hj => i_15 j (by omega)) (by omega) (by omega) (by omega)⟩
                    ·
                      have i_40 : z37.toInt = 0 := g5_neN (a := z37.toInt) (b := 0) rfl (by decide +kernel) c_40
                      refine lv_lload hx hb dX5_run_205 (lv_at hl 2 rfl) ?_
                      refine lv_aload_n hx hb dX5_run_207 rfl (lv_at hl 3 rfl) ?_
                      refine va_get (D := G.1) (ci := 5) (v := .int z21) (C := RX5) (T := TX5) (N := 13) hx hb hts inG_X5 hown hK hP 6 rfl rfl 9 (by decide +kernel) (hts _ fl_X5_26) (fun _ h9 => h9) rfl dX5_run_208 ?_
                      obtain ⟨hPc, hDc, hFc⟩ := g5_sub3 (wc := []) hP hD hS hA [] (by decide +kernel) rfl
                      refine va_calli (va_runSN (As := [.long (e_gb ||| z4), .int z21]) (rest := []) ⟨hx, hb, hml, hown, hts⟩ (k_isOn l G H.size z21 (e_gb ||| z4) ⟨by omega, by omega⟩) ⟨va_cnB 2 hts gW_X11_isOn rfl rfl rfl (hN.1 _ g5_nw_X5_77) (hts _ ini_X11) hs_X11_isOn ⟨Nat.le_of_ble_eq_true rfl, Nat.le_of_ble_eq_true rfl⟩, hts _ st_X11_isOn, trivial⟩ (g5_preS hPc hK hDc hN hT hS hFc) rfl rfl hl.1 rfl (lv_room (Nat.le_of_ble_eq_true rfl)) dX5_run_211 ⟨Nat.le_of_ble_eq_true rfl, Nat.le_of_ble_eq_true rfl⟩) hS (fun q _ h => hFc q h) hFc (fun r u t H locs ht hvm hw hB hz1 hk1 hS => ?_)
                      obtain ⟨hP1, hD1⟩ := hB
                      have hP1 := g5_ht ht hP1
                      rcases hw with ⟨(i_42 : onB (e_gb ||| z4) z21.toInt = false), rfl, rfl⟩ | ⟨(i_43 : onB (e_gb ||| z4) z21.toInt = true), rfl, rfl⟩
                      ·
                        have hJ9 := g5_same hP hk1
                        clear hP hPc hDc hFc ht hvm hz1 hk1 hP1 hD1
                        have hP := hJ9
                        clear hJ9
                        refine lv_if_eq (tgt := 221) hx hb dX5_run_214 (by decide +kernel) (fun c_44 => ?_) (fun c_44 => ?_)
                        ·
                          refine lv_iinc (v := (k_i + 1)) (lv' := [(7, .int (k_i + 1)), (8, .int z21), (5, .long (e_gb ||| z4)), (0, .ref a_k), (1, .int p_c), (2, .int p_w), (3, .int p_h), (4, .int p_u)]) hx hb dX5_run_221 hl (k := 1) rfl rfl (by decide +kernel) rfl ?_
                          clear hl
                          intro ls hl
                          have t_45 : (k_i + 1).toInt = k_i.toInt + 1 := g5_iadd (a := k_i.toInt) (b := 1) rfl (by decide +kernel) (by omega) (by omega)
                          refine lv_goto (tgt := 78) hx hb dX5_run_224 (by decide +kernel) ?_
                          exact ih_78_16 ((k_i + 1), (k_i + 1), z36, k_ho, k_br, k_we, k_me, z21, k_wy, k_ho, z37, (upd k_pt k_i.toNatClampNeg ((k_ho * 64) + z21)), z38, z39) ls H locs (show Int.toNat (200 - (k_i + 1).toInt) < Int.toNat (200 - k_i.toInt) from g_up (show k_i.toInt < (k_i + 1).toInt by omega) (show k_i.toInt < 200 by omega)) ⟨lv_sub hl [0, 2, 3, 4, 5, 6, 7] rfl, hP.sub [0, 1, 8, 9, 2, 10, 11, 12, 13, 3, 6, 7, 4, 5] rfl, hD.sub [0, 1, 8, 9, 2, 10, 11, 12, 13, 3, 6, 7, 4, 5] (by decide +kernel) rfl, hS, ⟨by omega, by omega⟩, ⟨by omega, by omega⟩, ⟨by omega, by omega⟩, i_9, ⟨by omega, by omega⟩, i_11, i_12, i_35, by omega, g_rows (k := k_i) (fun j hj => i_15 j (by omega)) (by omega) (by omega) (by omega)⟩
                        ·
                          exact absurd c_44 (by decide +kernel)
                      ·
                        have hJ9 := g5_same hP hk1
                        clear hP hPc hDc hFc ht hvm hz1 hk1 hP1 hD1
                        have hP := hJ9
                        clear hJ9
                        refine lv_if_eq (tgt := 221) hx hb dX5_run_214 (by decide +kernel) (fun c_46 => ?_) (fun c_46 => ?_)
                        ·
                          exact absurd c_46 (by decide +kernel)
                        ·
                          have hin_47 : inR f_g e_g.toInt z21.toInt ∨ inR f_p e_p.toInt z21.toInt := g_inor e_gi i_3 (by omega) (by omega) i_43
                          refine lv_aload_n hx hb dX5_run_217 rfl (lv_at hl 3 rfl) ?_
                          obtain ⟨hPc, hDc, hFc⟩ := g5_sub3 (wc := [(a_k, (oc5 a_h a_j a_pt (k_i + 1) z36 k_ho k_br k_we k_me z21 k_wy k_ho z37)), (a_h, (oc1 e_wa e_le e_st e_fo e_lc a_l a_g a_b a_s a_p a_w e_gb a_bb)), (a_g, (oc6 6 5 a_gn e_g)), (a_gn, (arI G 30 f_g)), (a_p, (oc6 8 5 a_pn e_p)), (a_pn, (arI G 40 f_p)), (a_j, (oc2 a_as a_sk)), (a_as, (arI G 8 z38)), (a_sk, (arJ G 50 z39)), (a_l, (arW G 6 f_l))]) hP hD hS hA [6, 7, 0, 1, 4, 5, 10, 11, 12, 13] (by decide +kernel) rfl
                          refine va_callv (va_runV (As := []) (rest := []) ⟨hx, hb, hml, hown, hts⟩ (k_meetGlassN l G a_k a_h a_g a_gn a_p a_pn a_j a_as a_sk a_l a_pt a_b a_s a_w a_bb H.size (k_i + 1) z36 k_ho k_br k_we k_me z21 k_wy k_ho z37 e_le e_st e_fo e_lc e_g e_p e_wa e_gb f_g f_p z38 z39 f_l i_9 ⟨by omega, by omega⟩ i_11 i_12 i_35 h_e_g h_e_p (e_gk) (e_pk) (hin_47) (e_f)) (cwV 0 hts gV_X5_88 rfl rfl rfl hv_X5_meetGlass ⟨Nat.le_of_ble_eq_true rfl, Nat.le_of_ble_eq_true rfl⟩) (g5_preV hPc hK hDc hN hT hS hFc (ci := 5) (q0 := 0) rfl rfl) rfl rfl hl.1 rfl (lv_room (Nat.le_of_ble_eq_true rfl)) dX5_run_218 ⟨Nat.le_of_ble_eq_true rfl, Nat.le_of_ble_eq_true rfl⟩) hS (fun q _ h => hFc q h) hFc (fun u t H locs ht hvm hw hB hz1 hk1 hS => ?_)
                          obtain ⟨hP1, hD1⟩ := hB
                          have hP1 := g5_ht ht hP1
                          obtain ⟨z52, z53, z54, z55, z56, z57, z58, z59, (i_48 : 0 ≤ z52.toInt ∧ z52.toInt ≤ 1000000), (i_49 : 0 ≤ z55.toInt ∧ z55.toInt ≤ 3), (i_50 : 0 ≤ z56.toInt ∧ z56.toInt ≤ 23), (i_51 : 0 ≤ z57.toInt ∧ z57.toInt ≤ 1), rfl⟩ := hw
                          have hJ9 := va_join (wr := [(a_bb, (arJ G 24 f_bb)), (a_pt, (arI G 200 (upd k_pt k_i.toNatClampNeg ((k_ho * 64) + z21)))), (a_b, (oc6 5 24 a_bn e_b)), (a_bn, (arI G 120 f_b))]) hP hD [6, 7, 0, 1, 4, 5, 10, 11, 12, 13] [2, 3, 8, 9] rfl rfl (by decide +kernel) (by decide +kernel) hk1 hFc hP1 hD1
                          clear hP hD hPc hDc hFc ht hvm hz1 hk1 hP1 hD1
                          obtain ⟨hP, hD⟩ := hJ9
                          refine g5_rs [(a_bb, (arJ G 24 f_bb)), (a_pt, (arI G 200 (upd k_pt k_i.toNatClampNeg ((k_ho * 64) + z21)))), (a_b, (oc6 5 24 a_bn e_b)), (a_bn, (arI G 120 f_b)), (a_k, (oc5 a_h a_j a_pt (k_i + 1) z36 k_ho z52 z53 z54 z21 z55 z56 z57)), (a_h, (oc1 e_wa e_le e_st e_fo e_lc a_l a_g a_b a_s a_p a_w e_gb a_bb)), (a_g, (oc6 6 5 a_gn e_g)), (a_gn, (arI G 30 f_g)), (a_p, (oc6 8 5 a_pn e_p)), (a_pn, (arI G 40 f_p)), (a_j, (oc2 a_as a_sk)), (a_as, (arI G 8 z58)), (a_sk, (arJ G 50 z59)), (a_l, (arW G 6 f_l))] hP hD ?_
                          clear hP hD
                          intro hP hD
                          refine lv_iinc (v := (k_i + 1)) (lv' := [(7, .int (k_i + 1)), (8, .int z21), (5, .long (e_gb ||| z4)), (0, .ref a_k), (1, .int p_c), (2, .int p_w), (3, .int p_h), (4, .int p_u)]) hx hb dX5_run_221 hl (k := 1) rfl rfl (by decide +kernel) rfl ?_
                          clear hl
                          intro ls hl
                          have t_60 : (k_i + 1).toInt = k_i.toInt + 1 := g5_iadd (a := k_i.toInt) (b := 1) rfl (by decide +kernel) (by omega) (by omega)
                          refine lv_goto (tgt := 78) hx hb dX5_run_224 (by decide +kernel) ?_
                          exact ih_78_16 ((k_i + 1), (k_i + 1), z36, k_ho, z52, z53, z54, z21, z55, z56, z57, (upd k_pt k_i.toNatClampNeg ((k_ho * 64) + z21)), z58, z59) ls H locs (show Int.toNat (200 - (k_i + 1).toInt) < Int.toNat (200 - k_i.toInt) from g_up (show k_i.toInt < (k_i + 1).toInt by omega) (show k_i.toInt < 200 by omega)) ⟨lv_sub hl [0, 2, 3, 4, 5, 6, 7] rfl, hP.sub [6, 7, 2, 3, 0, 10, 11, 12, 13, 1, 4, 5, 8, 9] rfl, hD.sub [6, 7, 2, 3, 0, 10, 11, 12, 13, 1, 4, 5, 8, 9] (by decide +kernel) rfl, hS, ⟨by omega, by omega⟩, ⟨by omega, by omega⟩, ⟨by omega, by omega⟩, i_48, ⟨by omega, by omega⟩, i_49, i_50, i_51, by omega, g_rows (k := k_i) (fun j hj => i_15 j (by omega)) (by omega) (by omega) (by omega)⟩
              ·
                exact absurd c_26 (by decide +kernel)
            ·
              have hJ9 := g5_same hP hk1
              clear hP hPc hDc hFc ht hvm hz1 hk1 hP1 hD1
              have hP := hJ9
              clear hJ9
              refine lv_if_eq (tgt := 128) hx hb dX5_run_124 (by decide +kernel) (fun c_61 => ?_) (fun c_61 => ?_)
              ·
                exact absurd c_61 (by decide +kernel)
              ·
                exact W.vret hx hb hr (fun t ht hW => ⟨⟨[(a_k, (oc5 a_h a_j a_pt k_ln k_se k_lh k_br k_we k_me k_ce k_wy k_ho k_ov)), (a_h, (oc1 e_wa e_le e_st e_fo e_lc a_l a_g a_b a_s a_p a_w e_gb a_bb)), (a_g, (oc6 6 5 a_gn e_g)), (a_gn, (arI G 30 f_g)), (a_b, (oc6 5 24 a_bn e_b)), (a_bn, (arI G 120 f_b)), (a_p, (oc6 8 5 a_pn e_p)), (a_pn, (arI G 40 f_p)), (a_bb, (arJ G 24 f_bb)), (a_j, (oc2 a_as a_sk)), (a_as, (arI G 8 k_as)), (a_sk, (arJ G 50 k_sk)), (a_l, (arW G 6 f_l)), (a_pt, (arI G 200 k_pt))], rfl, ⟨k_ln, k_se, k_lh, k_br, k_we, k_me, k_ce, k_wy, k_ho, k_ov, k_pt, k_as, k_sk, i_7, i_13, i_15, rfl⟩, by rw [ht]; exact hP.sub [10, 11, 0, 1, 2, 3, 12, 13, 4, 5, 6, 7, 8, 9] rfl, hD.sub [10, 11, 0, 1, 2, 3, 12, 13, 4, 5, 6, 7, 8, 9] (by decide +kernel) rfl⟩, hS.F ht⟩) hS.2.2 dX5_run_127
    ·
      exact absurd c_2 (by decide +kernel)
  ·
    have hJ9 := g5_same hP hk1
    clear hP hPc hDc hFc ht hvm hz1 hk1 hP1 hD1
    have hP := hJ9
    clear hJ9
    refine lv_if_ne (tgt := 55) hx hb dX5_run_48 (by decide +kernel) (fun c_62 => ?_) (fun c_62 => ?_)
    ·
      exact absurd c_62 (by decide +kernel)
    ·
      refine lv_iconst (v := 1) hx hb dX5_run_51 (by decide +kernel) ?_
      refine lv_goto (tgt := 56) hx hb dX5_run_52 (by decide +kernel) ?_
      refine va_put (D := G.1) (ci := 5) (v := .int 1) (ty := .boolean) (C := RX5) (T := TX5) (N := 13) hx hb hts inG_X5 tyX5 tyX5_ok nmX5 hown hK hP hD hS 0 rfl rfl 12 (by decide +kernel) (hts _ fl_X5_56) (fun _ h9 => h9) rfl (by decide +kernel) rfl rfl (Nat.le_of_ble_eq_true rfl) dX5_run_56 ?_
      clear hP hD hS
      intro H locs hP hD hS
      refine g5_rs [(a_k, (oc5 a_h a_j a_pt 0 (-1) (-1) 1000000 0 e_me p_c p_w p_h 1)), (a_h, (oc1 e_wa e_le e_st e_fo e_lc a_l a_g a_b a_s a_p a_w e_gb a_bb)), (a_g, (oc6 6 5 a_gn e_g)), (a_gn, (arI G 30 f_g)), (a_b, (oc6 5 24 a_bn e_b)), (a_bn, (arI G 120 f_b)), (a_p, (oc6 8 5 a_pn e_p)), (a_pn, (arI G 40 f_p)), (a_bb, (arJ G 24 f_bb)), (a_j, (oc2 a_as a_sk)), (a_as, (arI G 8 f_as)), (a_sk, (arJ G 50 f_sk)), (a_l, (arW G 6 f_l)), (a_pt, (arI G 200 f_pt))] hP hD ?_
      clear hP hD
      intro hP hD
      refine lv_aload_n hx hb dX5_run_59 rfl (lv_at hl 0 rfl) ?_
      refine W.eq (g2 := F0 m 60 ls [.ref a_k]) rfl ?_
      refine va_get (D := G.1) (ci := 5) (v := .ref a_h) (C := RX5) (T := TX5) (N := 13) hx hb hts inG_X5 hown hK hP 0 rfl rfl 0 (by decide +kernel) (hts _ fl_X5_22) (fun _ h9 => h9) rfl dX5_run_60 ?_
      refine va_get (D := G.1) (ci := 1) (v := .long e_gb) (C := RX1) (T := TX1) (N := 13) hx hb hts inG_X1 hown hK hP 1 rfl rfl 11 (by decide +kernel) (hts _ fl_X5_60) (fun _ h9 => h9) rfl dX5_run_63 ?_
      refine lv_aload_n hx hb dX5_run_66 rfl (lv_at hl 0 rfl) ?_
      refine lv_iload hx hb dX5_run_67 (lv_at hl 4 rfl) ?_
      obtain ⟨hPc, hDc, hFc⟩ := g5_sub3 (wc := [(a_k, (oc5 a_h a_j a_pt 0 (-1) (-1) 1000000 0 e_me p_c p_w p_h 1)), (a_h, (oc1 e_wa e_le e_st e_fo e_lc a_l a_g a_b a_s a_p a_w e_gb a_bb)), (a_p, (oc6 8 5 a_pn e_p)), (a_pn, (arI G 40 f_p))]) hP hD hS hA [0, 1, 6, 7] (by decide +kernel) rfl
      refine va_calll (va_runV (As := [.int p_u]) (rest := [.long e_gb]) ⟨hx, hb, hml, hown, hts⟩ (k_hung l G a_k a_h a_p a_pn a_j a_pt a_l a_g a_b a_s a_w a_bb H.size e_le e_st e_fo e_lc e_p 0 (-1) (-1) 1000000 0 e_me p_c p_w p_h 1 p_u e_wa e_gb f_p h_e_p ⟨by decide, by decide⟩ (gOK_cell e_pk)) (cwV 1 hts gV_X5_66 rfl rfl rfl hv_X5_hungBoard ⟨Nat.le_of_ble_eq_true rfl, Nat.le_of_ble_eq_true rfl⟩) (g5_preV hPc hK hDc hN hT hS hFc (ci := 5) (q0 := 0) rfl rfl) rfl rfl hl.1 rfl (lv_room (Nat.le_of_ble_eq_true rfl)) dX5_run_69 ⟨Nat.le_of_ble_eq_true rfl, Nat.le_of_ble_eq_true rfl⟩) hS (fun q _ h => hFc q h) hFc (fun r u t H locs ht hvm hw hB hz1 hk1 hS => ?_)
      obtain ⟨hP1, hD1⟩ := hB
      have hP1 := g5_ht ht hP1
      obtain ⟨z64, (i_63 : inT z64 f_p e_p.toInt), y65, rfl⟩ := hw
      have hJ9 := va_join (wr := [(a_g, (oc6 6 5 a_gn e_g)), (a_gn, (arI G 30 f_g)), (a_b, (oc6 5 24 a_bn e_b)), (a_bn, (arI G 120 f_b)), (a_bb, (arJ G 24 f_bb)), (a_j, (oc2 a_as a_sk)), (a_as, (arI G 8 f_as)), (a_sk, (arJ G 50 f_sk)), (a_l, (arW G 6 f_l)), (a_pt, (arI G 200 f_pt))]) hP hD [0, 1, 6, 7] [2, 3, 4, 5, 8, 9, 10, 11, 12, 13] rfl rfl (by decide +kernel) (by decide +kernel) hk1 hFc hP1 hD1
      clear hP hD hPc hDc hFc ht hvm hz1 hk1 hP1 hD1
      obtain ⟨hP, hD⟩ := hJ9
      refine g5_rs [(a_g, (oc6 6 5 a_gn e_g)), (a_gn, (arI G 30 f_g)), (a_b, (oc6 5 24 a_bn e_b)), (a_bn, (arI G 120 f_b)), (a_bb, (arJ G 24 f_bb)), (a_j, (oc2 a_as a_sk)), (a_as, (arI G 8 f_as)), (a_sk, (arJ G 50 f_sk)), (a_l, (arW G 6 f_l)), (a_pt, (arI G 200 f_pt)), (a_k, (oc5 a_h a_j a_pt 0 (-1) (-1) 1000000 0 e_me p_c p_w p_h 1)), (a_h, (oc1 e_wa e_le e_st e_fo e_lc a_l a_g a_b a_s a_p a_w e_gb a_bb)), (a_p, (oc6 8 5 a_pn e_p)), (a_pn, (arI G 40 f_p))] hP hD ?_
      clear hP hD
      intro hP hD
      refine g5_tl (v := z64) y65 ?_
      refine W.eq (g2 := F0 m 72 ls [.long z64, .long e_gb]) rfl ?_
      refine lv_lor hx hb dX5_run_72 ?_
      refine lv_lstore (lv' := [(5, .long (e_gb ||| z64)), (0, .ref a_k), (1, .int p_c), (2, .int p_w), (3, .int p_h), (4, .int p_u)]) hx hb dX5_run_73 hl (by decide +kernel) rfl ?_
      clear hl
      intro ls hl
      refine lv_iconst (v := 0) hx hb dX5_run_75 (by decide +kernel) ?_
      refine lv_istore (lv' := [(7, .int 0), (5, .long (e_gb ||| z64)), (0, .ref a_k), (1, .int p_c), (2, .int p_w), (3, .int p_h), (4, .int p_u)]) hx hb dX5_run_76 hl (by decide +kernel) rfl ?_
      clear hl
      intro ls hl
      refine lv_iload hx hb dX5_run_78 (lv_at hl 0 rfl) ?_
      refine W.eq (g2 := F0 m 80 ls [.int 0]) rfl ?_
      refine lv_sipush (v := 200) hx hb dX5_run_80 (by decide +kernel) ?_
      refine lv_icmp_ge (tgt := 227) hx hb dX5_run_83 (by decide +kernel) (fun c_66 => ?_) (fun c_66 => ?_)
      ·
        exact absurd c_66 (by decide +kernel)
      ·
        refine lv_aload_n hx hb dX5_run_86 rfl (lv_at hl 2 rfl) ?_
        refine va_get (D := G.1) (ci := 5) (v := .int 1) (C := RX5) (T := TX5) (N := 13) hx hb hts inG_X5 hown hK hP 10 rfl rfl 12 (by decide +kernel) (hts _ fl_X5_56) (fun _ h9 => h9) rfl dX5_run_87 ?_
        refine lv_if_ne (tgt := 227) hx hb dX5_run_90 (by decide +kernel) (fun c_67 => ?_) (fun c_67 => ?_)
        ·
          exact W.vret hx hb hr (fun t ht hW => ⟨⟨[(a_k, (oc5 a_h a_j a_pt 0 (-1) (-1) 1000000 0 e_me p_c p_w p_h 1)), (a_h, (oc1 e_wa e_le e_st e_fo e_lc a_l a_g a_b a_s a_p a_w e_gb a_bb)), (a_g, (oc6 6 5 a_gn e_g)), (a_gn, (arI G 30 f_g)), (a_b, (oc6 5 24 a_bn e_b)), (a_bn, (arI G 120 f_b)), (a_p, (oc6 8 5 a_pn e_p)), (a_pn, (arI G 40 f_p)), (a_bb, (arJ G 24 f_bb)), (a_j, (oc2 a_as a_sk)), (a_as, (arI G 8 f_as)), (a_sk, (arJ G 50 f_sk)), (a_l, (arW G 6 f_l)), (a_pt, (arI G 200 f_pt))], rfl, ⟨0, (-1), (-1), 1000000, 0, e_me, p_c, p_w, p_h, 1, f_pt, f_as, f_sk, ⟨by have zc_o_ln : (0 : Int32).toInt = 0 := (by decide +kernel); omega, by have zc_o_ln : (0 : Int32).toInt = 0 := (by decide +kernel); omega⟩, ⟨by have zc_o_ov : (1 : Int32).toInt = 1 := (by decide +kernel); omega, by have zc_o_ov : (1 : Int32).toInt = 1 := (by decide +kernel); omega⟩, fun j h => absurd h (by have z : (0 : Int32).toInt = 0 := (by decide +kernel); omega), rfl⟩, by rw [ht]; exact hP.sub [10, 11, 0, 1, 2, 3, 12, 13, 4, 5, 6, 7, 8, 9] rfl, hD.sub [10, 11, 0, 1, 2, 3, 12, 13, 4, 5, 6, 7, 8, 9] (by decide +kernel) rfl⟩, hS.F ht⟩) hS.2.2 dX5_run_227
        ·
          exact absurd c_67 (by decide +kernel)
set_option maxHeartbeats 4000000 in
set_option maxRecDepth 100000 in
theorem k_runL (l : Launch) (G : g5_G) (a_k a_h a_g a_gn a_b a_bn a_p a_pn a_bb a_j a_as a_sk a_l a_lo a_sr a_cd a_hd a_pt a_s a_w : Nat) (sz : Nat) (e_le : Int32) (e_st : Int32) (e_fo : Int32) (e_lc : Int32) (e_g : Int32) (e_b : Int32) (e_p : Int32) (e_cl : Int32) (e_ln : Int32) (e_se : Int32) (e_lh : Int32) (e_br : Int32) (e_we : Int32) (e_me : Int32) (e_ce : Int32) (e_wy : Int32) (e_ho : Int32) (e_ov : Int32) (p_c : Int32) (p_w : Int32) (p_h : Int32) (p_u : Int32) (e_wa : Int64) (e_gb : Int64) (f_g : Nat → Int32) (f_b : Nat → Int32) (f_p : Nat → Int32) (f_bb : Nat → Int64) (f_as : Nat → Int32) (f_sk : Nat → Int64) (f_l : Nat → Option Nat) (f_sr : Nat → Int32) (f_cd : Nat → Int32) (f_hd : Nat → Int32) (f_pt : Nat → Int32) (n_sr : Nat) (n_cd : Nat) (n_hd : Nat) (h_e_g : 0 ≤ e_g.toInt ∧ e_g.toInt ≤ 6) (h_e_b : 0 ≤ e_b.toInt ∧ e_b.toInt ≤ 5) (h_e_p : 0 ≤ e_p.toInt ∧ e_p.toInt ≤ 8) (h_e_cl : 0 ≤ e_cl.toInt ∧ e_cl.toInt ≤ 12) (h_e_ov : 0 ≤ e_ov.toInt ∧ e_ov.toInt ≤ 1) (e_gk : gOK f_g e_g.toInt) (e_pk : gOK f_p e_p.toInt) (e_gi : inT e_gb f_g e_g.toInt) (e_f : 0 ≤ e_fo.toInt ∧ e_fo.toInt < e_lc.toInt ∧ e_lc.toInt ≤ 6) (e_a : f_l e_fo.toNatClampNeg = some a_lo) (e_hn : n_cd ≤ 400) (e_hs : ∀ j : Nat, j < n_sr → 0 ≤ (f_sr j).toInt ∧ (f_sr j).toInt ≤ (n_cd : Int)) (e_hk : ∀ j : Nat, j < n_cd → (f_cd j >>> (12 &&& 31)).toInt = 1 → (f_cd j &&& 4095).toInt < 8) (e_c : (e_cl.toInt : Int) ≤ (n_hd : Int) ∧ (e_cl.toInt + 1 : Int) ≤ (n_sr : Int)) : Met l yX5_run (wsG yX5_run cX5_run 9 none) ({ frames := 13, cells := 0, slots := 0, locals := 528 }) (va_Pc [.ref a_k, .int p_c, .int p_w, .int p_h, .int p_u] (g5_P G [(a_k, (oc5 a_h a_j a_pt e_ln e_se e_lh e_br e_we e_me e_ce e_wy e_ho e_ov)), (a_h, (oc1 e_wa e_le e_st e_fo e_lc a_l a_g a_b a_s a_p a_w e_gb a_bb)), (a_g, (oc6 6 5 a_gn e_g)), (a_gn, (arI G 30 f_g)), (a_b, (oc6 5 24 a_bn e_b)), (a_bn, (arI G 120 f_b)), (a_p, (oc6 8 5 a_pn e_p)), (a_pn, (arI G 40 f_p)), (a_bb, (arJ G 24 f_bb)), (a_j, (oc2 a_as a_sk)), (a_as, (arI G 8 f_as)), (a_sk, (arJ G 50 f_sk)), (a_l, (arW G 6 f_l)), (a_lo, (oc3 e_cl a_hd a_sr a_cd)), (a_sr, (arI G n_sr f_sr)), (a_cd, (arI G n_cd f_cd)), (a_hd, (arI G n_hd f_hd)), (a_pt, (arI G 200 f_pt))] sz)) (va_Qv (fun (u : va_W) => (∃ (o_ln : Int32) (o_se : Int32) (o_lh : Int32) (o_br : Int32) (o_we : Int32) (o_me : Int32) (o_ce : Int32) (o_wy : Int32) (o_ho : Int32) (o_ov : Int32) (o_pt : Nat → Int32) (o_as : Nat → Int32) (o_sk : Nat → Int64), (0 ≤ o_ln.toInt ∧ o_ln.toInt ≤ 200) ∧ (0 ≤ o_ov.toInt ∧ o_ov.toInt ≤ 1) ∧ (∀ j : Nat, (j : Int) < o_ln.toInt → 0 ≤ (o_pt j).toInt ∧ (o_pt j).toInt ≤ 1535) ∧ (u = [(a_k, (oc5 a_h a_j a_pt o_ln o_se o_lh o_br o_we o_me o_ce o_wy o_ho o_ov)), (a_h, (oc1 e_wa e_le e_st e_fo e_lc a_l a_g a_b a_s a_p a_w e_gb a_bb)), (a_g, (oc6 6 5 a_gn e_g)), (a_gn, (arI G 30 f_g)), (a_b, (oc6 5 24 a_bn e_b)), (a_bn, (arI G 120 f_b)), (a_p, (oc6 8 5 a_pn e_p)), (a_pn, (arI G 40 f_p)), (a_bb, (arJ G 24 f_bb)), (a_j, (oc2 a_as a_sk)), (a_as, (arI G 8 o_as)), (a_sk, (arJ G 50 o_sk)), (a_l, (arW G 6 f_l)), (a_lo, (oc3 e_cl a_hd a_sr a_cd)), (a_sr, (arI G n_sr f_sr)), (a_cd, (arI G n_cd f_cd)), (a_hd, (arI G n_hd f_hd)), (a_pt, (arI G 200 o_pt))]))) (g5_B G (va_A [(a_k, (oc5 a_h a_j a_pt e_ln e_se e_lh e_br e_we e_me e_ce e_wy e_ho e_ov)), (a_h, (oc1 e_wa e_le e_st e_fo e_lc a_l a_g a_b a_s a_p a_w e_gb a_bb)), (a_g, (oc6 6 5 a_gn e_g)), (a_gn, (arI G 30 f_g)), (a_b, (oc6 5 24 a_bn e_b)), (a_bn, (arI G 120 f_b)), (a_p, (oc6 8 5 a_pn e_p)), (a_pn, (arI G 40 f_p)), (a_bb, (arJ G 24 f_bb)), (a_j, (oc2 a_as a_sk)), (a_as, (arI G 8 f_as)), (a_sk, (arJ G 50 f_sk)), (a_l, (arW G 6 f_l)), (a_lo, (oc3 e_cl a_hd a_sr a_cd)), (a_sr, (arI G n_sr f_sr)), (a_cd, (arI G n_cd f_cd)), (a_hd, (arI G n_hd f_hd)), (a_pt, (arI G 200 f_pt))] sz)) (va_A [(a_k, (oc5 a_h a_j a_pt e_ln e_se e_lh e_br e_we e_me e_ce e_wy e_ho e_ov)), (a_h, (oc1 e_wa e_le e_st e_fo e_lc a_l a_g a_b a_s a_p a_w e_gb a_bb)), (a_g, (oc6 6 5 a_gn e_g)), (a_gn, (arI G 30 f_g)), (a_b, (oc6 5 24 a_bn e_b)), (a_bn, (arI G 120 f_b)), (a_p, (oc6 8 5 a_pn e_p)), (a_pn, (arI G 40 f_p)), (a_bb, (arJ G 24 f_bb)), (a_j, (oc2 a_as a_sk)), (a_as, (arI G 8 f_as)), (a_sk, (arJ G 50 f_sk)), (a_l, (arW G 6 f_l)), (a_lo, (oc3 e_cl a_hd a_sr a_cd)), (a_sr, (arI G n_sr f_sr)), (a_cd, (arI G n_cd f_cd)), (a_hd, (arI G n_hd f_hd)), (a_pt, (arI G 200 f_pt))] sz)) 0 0 (va_A [(a_k, (oc5 a_h a_j a_pt e_ln e_se e_lh e_br e_we e_me e_ce e_wy e_ho e_ov)), (a_h, (oc1 e_wa e_le e_st e_fo e_lc a_l a_g a_b a_s a_p a_w e_gb a_bb)), (a_g, (oc6 6 5 a_gn e_g)), (a_gn, (arI G 30 f_g)), (a_b, (oc6 5 24 a_bn e_b)), (a_bn, (arI G 120 f_b)), (a_p, (oc6 8 5 a_pn e_p)), (a_pn, (arI G 40 f_p)), (a_bb, (arJ G 24 f_bb)), (a_j, (oc2 a_as a_sk)), (a_as, (arI G 8 f_as)), (a_sk, (arJ G 50 f_sk)), (a_l, (arW G 6 f_l)), (a_lo, (oc3 e_cl a_hd a_sr a_cd)), (a_sr, (arI G n_sr f_sr)), (a_cd, (arI G n_cd f_cd)), (a_hd, (arI G n_hd f_hd)), (a_pt, (arI G 200 f_pt))] sz) := by
  refine Met.ofW (cc := cX5_run) (maxL := 9) (ret := none) (by decide +kernel) rfl ?_
  intro p e s m args below meth c s₁ B hml hv
  obtain ⟨rfl, hsz, hP, hK, hD0, hN, hT⟩ := hv
  have hx := B.exec
  have hb := B.bytes
  have hr := B.returns
  have hts : ∀ w ∈ tblG, w.before _ s = true := fun w h => atoms_spec (ws := (wsG yX5_run cX5_run 9 none)) B.pre w (List.mem_cons_of_mem _ h)
  have hown : s.vm.findClass RX5 = some m.cls := findClass_of_methodNamed B.named
  have hlocks := B.notSynchronized
  subst hsz
  have hD := hD0.self (sz := s.heap.size)
  generalize hAe : va_A [(a_k, (oc5 a_h a_j a_pt e_ln e_se e_lh e_br e_we e_me e_ce e_wy e_ho e_ov)), (a_h, (oc1 e_wa e_le e_st e_fo e_lc a_l a_g a_b a_s a_p a_w e_gb a_bb)), (a_g, (oc6 6 5 a_gn e_g)), (a_gn, (arI G 30 f_g)), (a_b, (oc6 5 24 a_bn e_b)), (a_bn, (arI G 120 f_b)), (a_p, (oc6 8 5 a_pn e_p)), (a_pn, (arI G 40 f_p)), (a_bb, (arJ G 24 f_bb)), (a_j, (oc2 a_as a_sk)), (a_as, (arI G 8 f_as)), (a_sk, (arJ G 50 f_sk)), (a_l, (arW G 6 f_l)), (a_lo, (oc3 e_cl a_hd a_sr a_cd)), (a_sr, (arI G n_sr f_sr)), (a_cd, (arI G n_cd f_cd)), (a_hd, (arI G n_hd f_hd)), (a_pt, (arI G 200 f_pt))] s.heap.size = A at hD hT ⊢
  have hA : ∀ q : Nat, s.heap.size ≤ q → A q := fun q h => by rw [← hAe]; exact Or.inr h
  have hS : va_S A s.heap s.heap [] := va_S.rf
  replace hP : va_P G.1 vwCl [(a_k, (oc5 a_h a_j a_pt e_ln e_se e_lh e_br e_we e_me e_ce e_wy e_ho e_ov)), (a_h, (oc1 e_wa e_le e_st e_fo e_lc a_l a_g a_b a_s a_p a_w e_gb a_bb)), (a_g, (oc6 6 5 a_gn e_g)), (a_gn, (arI G 30 f_g)), (a_b, (oc6 5 24 a_bn e_b)), (a_bn, (arI G 120 f_b)), (a_p, (oc6 8 5 a_pn e_p)), (a_pn, (arI G 40 f_p)), (a_bb, (arJ G 24 f_bb)), (a_j, (oc2 a_as a_sk)), (a_as, (arI G 8 f_as)), (a_sk, (arJ G 50 f_sk)), (a_l, (arW G 6 f_l)), (a_lo, (oc3 e_cl a_hd a_sr a_cd)), (a_sr, (arI G n_sr f_sr)), (a_cd, (arI G n_cd f_cd)), (a_hd, (arI G n_hd f_hd)), (a_pt, (arI G 200 f_pt))] s.heap := hP
  have hl := lv_entry ([.ref a_k, .int p_c, .int p_w, .int p_h, .int p_u]) (n := 9) (Nat.le_of_ble_eq_true rfl)
  rw [lg_entry_eq]
  generalize (lg_sl ([.ref a_k, .int p_c, .int p_w, .int p_h, .int p_u]) ++ List.replicate (9 - (lg_sl ([.ref a_k, .int p_c, .int p_w, .int p_h, .int p_u])).length) Slot.unset).toArray = ls at hl ⊢
  replace hl : lv_has ls 9 [(0, .ref a_k), (1, .int p_c), (2, .int p_w), (3, .int p_h), (4, .int p_u)] := hl
  refine lv_aload_n hx hb dX5_run_0 rfl (lv_at hl 0 rfl) ?_
  refine lv_iload_n hx hb dX5_run_1 rfl (lv_at hl 1 rfl) ?_
  refine va_put (D := G.1) (ci := 5) (v := .int p_c) (ty := .int) (C := RX5) (T := TX5) (N := 13) hx hb hts inG_X5 tyX5 tyX5_ok nmX5 hown hK hP hD hS 0 rfl rfl 9 (by decide +kernel) (hts _ fl_X5_26) (fun _ h9 => h9) rfl (by decide +kernel) rfl rfl (Nat.le_of_ble_eq_true rfl) dX5_run_2 ?_
  clear hP hD hS
  intro H locs hP hD hS
  refine g5_rs [(a_k, (oc5 a_h a_j a_pt e_ln e_se e_lh e_br e_we e_me p_c e_wy e_ho e_ov)), (a_h, (oc1 e_wa e_le e_st e_fo e_lc a_l a_g a_b a_s a_p a_w e_gb a_bb)), (a_g, (oc6 6 5 a_gn e_g)), (a_gn, (arI G 30 f_g)), (a_b, (oc6 5 24 a_bn e_b)), (a_bn, (arI G 120 f_b)), (a_p, (oc6 8 5 a_pn e_p)), (a_pn, (arI G 40 f_p)), (a_bb, (arJ G 24 f_bb)), (a_j, (oc2 a_as a_sk)), (a_as, (arI G 8 f_as)), (a_sk, (arJ G 50 f_sk)), (a_l, (arW G 6 f_l)), (a_lo, (oc3 e_cl a_hd a_sr a_cd)), (a_sr, (arI G n_sr f_sr)), (a_cd, (arI G n_cd f_cd)), (a_hd, (arI G n_hd f_hd)), (a_pt, (arI G 200 f_pt))] hP hD ?_
  clear hP hD
  intro hP hD
  refine lv_aload_n hx hb dX5_run_5 rfl (lv_at hl 0 rfl) ?_
  refine W.eq (g2 := F0 m 6 ls [.ref a_k]) rfl ?_
  refine lv_iload_n hx hb dX5_run_6 rfl (lv_at hl 2 rfl) ?_
  refine va_put (D := G.1) (ci := 5) (v := .int p_w) (ty := .int) (C := RX5) (T := TX5) (N := 13) hx hb hts inG_X5 tyX5 tyX5_ok nmX5 hown hK hP hD hS 0 rfl rfl 10 (by decide +kernel) (hts _ fl_X5_30) (fun _ h9 => h9) rfl (by decide +kernel) rfl rfl (Nat.le_of_ble_eq_true rfl) dX5_run_7 ?_
  clear hP hD hS
  intro H locs hP hD hS
  refine g5_rs [(a_k, (oc5 a_h a_j a_pt e_ln e_se e_lh e_br e_we e_me p_c p_w e_ho e_ov)), (a_h, (oc1 e_wa e_le e_st e_fo e_lc a_l a_g a_b a_s a_p a_w e_gb a_bb)), (a_g, (oc6 6 5 a_gn e_g)), (a_gn, (arI G 30 f_g)), (a_b, (oc6 5 24 a_bn e_b)), (a_bn, (arI G 120 f_b)), (a_p, (oc6 8 5 a_pn e_p)), (a_pn, (arI G 40 f_p)), (a_bb, (arJ G 24 f_bb)), (a_j, (oc2 a_as a_sk)), (a_as, (arI G 8 f_as)), (a_sk, (arJ G 50 f_sk)), (a_l, (arW G 6 f_l)), (a_lo, (oc3 e_cl a_hd a_sr a_cd)), (a_sr, (arI G n_sr f_sr)), (a_cd, (arI G n_cd f_cd)), (a_hd, (arI G n_hd f_hd)), (a_pt, (arI G 200 f_pt))] hP hD ?_
  clear hP hD
  intro hP hD
  refine lv_aload_n hx hb dX5_run_10 rfl (lv_at hl 0 rfl) ?_
  refine lv_iload_n hx hb dX5_run_11 rfl (lv_at hl 3 rfl) ?_
  refine va_put (D := G.1) (ci := 5) (v := .int p_h) (ty := .int) (C := RX5) (T := TX5) (N := 13) hx hb hts inG_X5 tyX5 tyX5_ok nmX5 hown hK hP hD hS 0 rfl rfl 11 (by decide +kernel) (hts _ fl_X5_33) (fun _ h9 => h9) rfl (by decide +kernel) rfl rfl (Nat.le_of_ble_eq_true rfl) dX5_run_12 ?_
  clear hP hD hS
  intro H locs hP hD hS
  refine g5_rs [(a_k, (oc5 a_h a_j a_pt e_ln e_se e_lh e_br e_we e_me p_c p_w p_h e_ov)), (a_h, (oc1 e_wa e_le e_st e_fo e_lc a_l a_g a_b a_s a_p a_w e_gb a_bb)), (a_g, (oc6 6 5 a_gn e_g)), (a_gn, (arI G 30 f_g)), (a_b, (oc6 5 24 a_bn e_b)), (a_bn, (arI G 120 f_b)), (a_p, (oc6 8 5 a_pn e_p)), (a_pn, (arI G 40 f_p)), (a_bb, (arJ G 24 f_bb)), (a_j, (oc2 a_as a_sk)), (a_as, (arI G 8 f_as)), (a_sk, (arJ G 50 f_sk)), (a_l, (arW G 6 f_l)), (a_lo, (oc3 e_cl a_hd a_sr a_cd)), (a_sr, (arI G n_sr f_sr)), (a_cd, (arI G n_cd f_cd)), (a_hd, (arI G n_hd f_hd)), (a_pt, (arI G 200 f_pt))] hP hD ?_
  clear hP hD
  intro hP hD
  refine W.eq (g2 := F0 m 15 ls []) rfl ?_
  refine lv_aload_n hx hb dX5_run_15 rfl (lv_at hl 0 rfl) ?_
  refine lv_iconst (v := 0) hx hb dX5_run_16 (by decide +kernel) ?_
  refine va_put (D := G.1) (ci := 5) (v := .int 0) (ty := .int) (C := RX5) (T := TX5) (N := 13) hx hb hts inG_X5 tyX5 tyX5_ok nmX5 hown hK hP hD hS 0 rfl rfl 3 (by decide +kernel) (hts _ fl_X5_36) (fun _ h9 => h9) rfl (by decide +kernel) rfl rfl (Nat.le_of_ble_eq_true rfl) dX5_run_17 ?_
  clear hP hD hS
  intro H locs hP hD hS
  refine g5_rs [(a_k, (oc5 a_h a_j a_pt 0 e_se e_lh e_br e_we e_me p_c p_w p_h e_ov)), (a_h, (oc1 e_wa e_le e_st e_fo e_lc a_l a_g a_b a_s a_p a_w e_gb a_bb)), (a_g, (oc6 6 5 a_gn e_g)), (a_gn, (arI G 30 f_g)), (a_b, (oc6 5 24 a_bn e_b)), (a_bn, (arI G 120 f_b)), (a_p, (oc6 8 5 a_pn e_p)), (a_pn, (arI G 40 f_p)), (a_bb, (arJ G 24 f_bb)), (a_j, (oc2 a_as a_sk)), (a_as, (arI G 8 f_as)), (a_sk, (arJ G 50 f_sk)), (a_l, (arW G 6 f_l)), (a_lo, (oc3 e_cl a_hd a_sr a_cd)), (a_sr, (arI G n_sr f_sr)), (a_cd, (arI G n_cd f_cd)), (a_hd, (arI G n_hd f_hd)), (a_pt, (arI G 200 f_pt))] hP hD ?_
  clear hP hD
  intro hP hD
  refine lv_aload_n hx hb dX5_run_20 rfl (lv_at hl 0 rfl) ?_
  refine lv_iconst (v := (-1)) hx hb dX5_run_21 (by decide +kernel) ?_
  refine W.eq (g2 := F0 m 22 ls [.int (-1), .ref a_k]) rfl ?_
  refine va_put (D := G.1) (ci := 5) (v := .int (-1)) (ty := .int) (C := RX5) (T := TX5) (N := 13) hx hb hts inG_X5 tyX5 tyX5_ok nmX5 hown hK hP hD hS 0 rfl rfl 4 (by decide +kernel) (hts _ fl_X5_39) (fun _ h9 => h9) rfl (by decide +kernel) rfl rfl (Nat.le_of_ble_eq_true rfl) dX5_run_22 ?_
  clear hP hD hS
  intro H locs hP hD hS
  refine g5_rs [(a_k, (oc5 a_h a_j a_pt 0 (-1) e_lh e_br e_we e_me p_c p_w p_h e_ov)), (a_h, (oc1 e_wa e_le e_st e_fo e_lc a_l a_g a_b a_s a_p a_w e_gb a_bb)), (a_g, (oc6 6 5 a_gn e_g)), (a_gn, (arI G 30 f_g)), (a_b, (oc6 5 24 a_bn e_b)), (a_bn, (arI G 120 f_b)), (a_p, (oc6 8 5 a_pn e_p)), (a_pn, (arI G 40 f_p)), (a_bb, (arJ G 24 f_bb)), (a_j, (oc2 a_as a_sk)), (a_as, (arI G 8 f_as)), (a_sk, (arJ G 50 f_sk)), (a_l, (arW G 6 f_l)), (a_lo, (oc3 e_cl a_hd a_sr a_cd)), (a_sr, (arI G n_sr f_sr)), (a_cd, (arI G n_cd f_cd)), (a_hd, (arI G n_hd f_hd)), (a_pt, (arI G 200 f_pt))] hP hD ?_
  clear hP hD
  intro hP hD
  refine lv_aload_n hx hb dX5_run_25 rfl (lv_at hl 0 rfl) ?_
  refine lv_iconst (v := (-1)) hx hb dX5_run_26 (by decide +kernel) ?_
  refine va_put (D := G.1) (ci := 5) (v := .int (-1)) (ty := .int) (C := RX5) (T := TX5) (N := 13) hx hb hts inG_X5 tyX5 tyX5_ok nmX5 hown hK hP hD hS 0 rfl rfl 5 (by decide +kernel) (hts _ fl_X5_42) (fun _ h9 => h9) rfl (by decide +kernel) rfl rfl (Nat.le_of_ble_eq_true rfl) dX5_run_27 ?_
  clear hP hD hS
  intro H locs hP hD hS
  refine g5_rs [(a_k, (oc5 a_h a_j a_pt 0 (-1) (-1) e_br e_we e_me p_c p_w p_h e_ov)), (a_h, (oc1 e_wa e_le e_st e_fo e_lc a_l a_g a_b a_s a_p a_w e_gb a_bb)), (a_g, (oc6 6 5 a_gn e_g)), (a_gn, (arI G 30 f_g)), (a_b, (oc6 5 24 a_bn e_b)), (a_bn, (arI G 120 f_b)), (a_p, (oc6 8 5 a_pn e_p)), (a_pn, (arI G 40 f_p)), (a_bb, (arJ G 24 f_bb)), (a_j, (oc2 a_as a_sk)), (a_as, (arI G 8 f_as)), (a_sk, (arJ G 50 f_sk)), (a_l, (arW G 6 f_l)), (a_lo, (oc3 e_cl a_hd a_sr a_cd)), (a_sr, (arI G n_sr f_sr)), (a_cd, (arI G n_cd f_cd)), (a_hd, (arI G n_hd f_hd)), (a_pt, (arI G 200 f_pt))] hP hD ?_
  clear hP hD
  intro hP hD
  refine lv_aload_n hx hb dX5_run_30 rfl (lv_at hl 0 rfl) ?_
  refine W.eq (g2 := F0 m 31 ls [.ref a_k]) rfl ?_
  refine lv_ldc (v := 1000000) hx hb hown (hts _ ki_X5_45) dX5_run_31 ?_
  refine va_put (D := G.1) (ci := 5) (v := .int 1000000) (ty := .int) (C := RX5) (T := TX5) (N := 13) hx hb hts inG_X5 tyX5 tyX5_ok nmX5 hown hK hP hD hS 0 rfl rfl 6 (by decide +kernel) (hts _ fl_X5_46) (fun _ h9 => h9) rfl (by decide +kernel) rfl rfl (Nat.le_of_ble_eq_true rfl) dX5_run_33 ?_
  clear hP hD hS
  intro H locs hP hD hS
  refine g5_rs [(a_k, (oc5 a_h a_j a_pt 0 (-1) (-1) 1000000 e_we e_me p_c p_w p_h e_ov)), (a_h, (oc1 e_wa e_le e_st e_fo e_lc a_l a_g a_b a_s a_p a_w e_gb a_bb)), (a_g, (oc6 6 5 a_gn e_g)), (a_gn, (arI G 30 f_g)), (a_b, (oc6 5 24 a_bn e_b)), (a_bn, (arI G 120 f_b)), (a_p, (oc6 8 5 a_pn e_p)), (a_pn, (arI G 40 f_p)), (a_bb, (arJ G 24 f_bb)), (a_j, (oc2 a_as a_sk)), (a_as, (arI G 8 f_as)), (a_sk, (arJ G 50 f_sk)), (a_l, (arW G 6 f_l)), (a_lo, (oc3 e_cl a_hd a_sr a_cd)), (a_sr, (arI G n_sr f_sr)), (a_cd, (arI G n_cd f_cd)), (a_hd, (arI G n_hd f_hd)), (a_pt, (arI G 200 f_pt))] hP hD ?_
  clear hP hD
  intro hP hD
  refine lv_aload_n hx hb dX5_run_36 rfl (lv_at hl 0 rfl) ?_
  refine lv_iconst (v := 0) hx hb dX5_run_37 (by decide +kernel) ?_
  refine va_put (D := G.1) (ci := 5) (v := .int 0) (ty := .int) (C := RX5) (T := TX5) (N := 13) hx hb hts inG_X5 tyX5 tyX5_ok nmX5 hown hK hP hD hS 0 rfl rfl 7 (by decide +kernel) (hts _ fl_X5_49) (fun _ h9 => h9) rfl (by decide +kernel) rfl rfl (Nat.le_of_ble_eq_true rfl) dX5_run_38 ?_
  clear hP hD hS
  intro H locs hP hD hS
  refine g5_rs [(a_k, (oc5 a_h a_j a_pt 0 (-1) (-1) 1000000 0 e_me p_c p_w p_h e_ov)), (a_h, (oc1 e_wa e_le e_st e_fo e_lc a_l a_g a_b a_s a_p a_w e_gb a_bb)), (a_g, (oc6 6 5 a_gn e_g)), (a_gn, (arI G 30 f_g)), (a_b, (oc6 5 24 a_bn e_b)), (a_bn, (arI G 120 f_b)), (a_p, (oc6 8 5 a_pn e_p)), (a_pn, (arI G 40 f_p)), (a_bb, (arJ G 24 f_bb)), (a_j, (oc2 a_as a_sk)), (a_as, (arI G 8 f_as)), (a_sk, (arJ G 50 f_sk)), (a_l, (arW G 6 f_l)), (a_lo, (oc3 e_cl a_hd a_sr a_cd)), (a_sr, (arI G n_sr f_sr)), (a_cd, (arI G n_cd f_cd)), (a_hd, (arI G n_hd f_hd)), (a_pt, (arI G 200 f_pt))] hP hD ?_
  clear hP hD
  intro hP hD
  refine W.eq (g2 := F0 m 41 ls []) rfl ?_
  refine lv_aload_n hx hb dX5_run_41 rfl (lv_at hl 0 rfl) ?_
  refine lv_iload_n hx hb dX5_run_42 rfl (lv_at hl 1 rfl) ?_
  refine lv_iload_n hx hb dX5_run_43 rfl (lv_at hl 2 rfl) ?_
  refine lv_iload_n hx hb dX5_run_44 rfl (lv_at hl 3 rfl) ?_
  obtain ⟨hPc, hDc, hFc⟩ := g5_sub3 (wc := []) hP hD hS hA [] (by decide +kernel) rfl
  refine va_calli (va_runSN (As := [.int p_c, .int p_w, .int p_h]) (rest := [.ref a_k]) ⟨hx, hb, hml, hown, hts⟩ (x_isLook l G H.size p_c p_w p_h) ⟨va_cnB 3 hts gW_X11_isLook rfl rfl rfl (hN.1 _ g5_nw_X5_52) (hts _ ini_X11) hs_X11_isLook ⟨Nat.le_of_ble_eq_true rfl, Nat.le_of_ble_eq_true rfl⟩, hts _ st_X11_isLook, trivial⟩ (g5_preS hPc hK hDc hN hT hS hFc) rfl rfl hl.1 rfl (lv_room (Nat.le_of_ble_eq_true rfl)) dX5_run_45 ⟨Nat.le_of_ble_eq_true rfl, Nat.le_of_ble_eq_true rfl⟩) hS (fun q _ h => hFc q h) hFc (fun r u t H locs ht hvm hw hB hz1 hk1 hS => ?_)
  obtain ⟨hP1, hD1⟩ := hB
  have hP1 := g5_ht ht hP1
  rcases hw with ⟨(i_1 : (0 ≤ p_c.toInt ∧ p_c.toInt ≤ 63) ∧ (0 ≤ p_w.toInt ∧ p_w.toInt ≤ 3) ∧ (0 ≤ p_h.toInt ∧ p_h.toInt ≤ 23)), rfl, rfl⟩ | ⟨rfl, rfl⟩
  ·
    have hJ9 := g5_same hP hk1
    clear hP hPc hDc hFc ht hvm hz1 hk1 hP1 hD1
    have hP := hJ9
    clear hJ9
    refine lv_if_ne (tgt := 55) hx hb dX5_run_48 (by decide +kernel) (fun c_2 => ?_) (fun c_2 => ?_)
    ·
      refine lv_iconst (v := 0) hx hb dX5_run_55 (by decide +kernel) ?_
      refine va_put (D := G.1) (ci := 5) (v := .int 0) (ty := .boolean) (C := RX5) (T := TX5) (N := 13) hx hb hts inG_X5 tyX5 tyX5_ok nmX5 hown hK hP hD hS 0 rfl rfl 12 (by decide +kernel) (hts _ fl_X5_56) (fun _ h9 => h9) rfl (by decide +kernel) rfl rfl (Nat.le_of_ble_eq_true rfl) dX5_run_56 ?_
      clear hP hD hS
      intro H locs hP hD hS
      refine g5_rs [(a_k, (oc5 a_h a_j a_pt 0 (-1) (-1) 1000000 0 e_me p_c p_w p_h 0)), (a_h, (oc1 e_wa e_le e_st e_fo e_lc a_l a_g a_b a_s a_p a_w e_gb a_bb)), (a_g, (oc6 6 5 a_gn e_g)), (a_gn, (arI G 30 f_g)), (a_b, (oc6 5 24 a_bn e_b)), (a_bn, (arI G 120 f_b)), (a_p, (oc6 8 5 a_pn e_p)), (a_pn, (arI G 40 f_p)), (a_bb, (arJ G 24 f_bb)), (a_j, (oc2 a_as a_sk)), (a_as, (arI G 8 f_as)), (a_sk, (arJ G 50 f_sk)), (a_l, (arW G 6 f_l)), (a_lo, (oc3 e_cl a_hd a_sr a_cd)), (a_sr, (arI G n_sr f_sr)), (a_cd, (arI G n_cd f_cd)), (a_hd, (arI G n_hd f_hd)), (a_pt, (arI G 200 f_pt))] hP hD ?_
      clear hP hD
      intro hP hD
      refine lv_aload_n hx hb dX5_run_59 rfl (lv_at hl 0 rfl) ?_
      refine va_get (D := G.1) (ci := 5) (v := .ref a_h) (C := RX5) (T := TX5) (N := 13) hx hb hts inG_X5 hown hK hP 0 rfl rfl 0 (by decide +kernel) (hts _ fl_X5_22) (fun _ h9 => h9) rfl dX5_run_60 ?_
      refine W.eq (g2 := F0 m 63 ls [.ref a_h]) rfl ?_
      refine va_get (D := G.1) (ci := 1) (v := .long e_gb) (C := RX1) (T := TX1) (N := 13) hx hb hts inG_X1 hown hK hP 1 rfl rfl 11 (by decide +kernel) (hts _ fl_X5_60) (fun _ h9 => h9) rfl dX5_run_63 ?_
      refine lv_aload_n hx hb dX5_run_66 rfl (lv_at hl 0 rfl) ?_
      refine lv_iload hx hb dX5_run_67 (lv_at hl 4 rfl) ?_
      obtain ⟨hPc, hDc, hFc⟩ := g5_sub3 (wc := [(a_k, (oc5 a_h a_j a_pt 0 (-1) (-1) 1000000 0 e_me p_c p_w p_h 0)), (a_h, (oc1 e_wa e_le e_st e_fo e_lc a_l a_g a_b a_s a_p a_w e_gb a_bb)), (a_p, (oc6 8 5 a_pn e_p)), (a_pn, (arI G 40 f_p))]) hP hD hS hA [0, 1, 6, 7] (by decide +kernel) rfl
      refine va_calll (va_runV (As := [.int p_u]) (rest := [.long e_gb]) ⟨hx, hb, hml, hown, hts⟩ (k_hung l G a_k a_h a_p a_pn a_j a_pt a_l a_g a_b a_s a_w a_bb H.size e_le e_st e_fo e_lc e_p 0 (-1) (-1) 1000000 0 e_me p_c p_w p_h 0 p_u e_wa e_gb f_p h_e_p ⟨by decide, by decide⟩ (gOK_cell e_pk)) (cwV 1 hts gV_X5_66 rfl rfl rfl hv_X5_hungBoard ⟨Nat.le_of_ble_eq_true rfl, Nat.le_of_ble_eq_true rfl⟩) (g5_preV hPc hK hDc hN hT hS hFc (ci := 5) (q0 := 0) rfl rfl) rfl rfl hl.1 rfl (lv_room (Nat.le_of_ble_eq_true rfl)) dX5_run_69 ⟨Nat.le_of_ble_eq_true rfl, Nat.le_of_ble_eq_true rfl⟩) hS (fun q _ h => hFc q h) hFc (fun r u t H locs ht hvm hw hB hz1 hk1 hS => ?_)
      obtain ⟨hP1, hD1⟩ := hB
      have hP1 := g5_ht ht hP1
      obtain ⟨z4, (i_3 : inT z4 f_p e_p.toInt), y5, rfl⟩ := hw
      have hJ9 := va_join (wr := [(a_g, (oc6 6 5 a_gn e_g)), (a_gn, (arI G 30 f_g)), (a_b, (oc6 5 24 a_bn e_b)), (a_bn, (arI G 120 f_b)), (a_bb, (arJ G 24 f_bb)), (a_j, (oc2 a_as a_sk)), (a_as, (arI G 8 f_as)), (a_sk, (arJ G 50 f_sk)), (a_l, (arW G 6 f_l)), (a_lo, (oc3 e_cl a_hd a_sr a_cd)), (a_sr, (arI G n_sr f_sr)), (a_cd, (arI G n_cd f_cd)), (a_hd, (arI G n_hd f_hd)), (a_pt, (arI G 200 f_pt))]) hP hD [0, 1, 6, 7] [2, 3, 4, 5, 8, 9, 10, 11, 12, 13, 14, 15, 16, 17] rfl rfl (by decide +kernel) (by decide +kernel) hk1 hFc hP1 hD1
      clear hP hD hPc hDc hFc ht hvm hz1 hk1 hP1 hD1
      obtain ⟨hP, hD⟩ := hJ9
      refine g5_rs [(a_g, (oc6 6 5 a_gn e_g)), (a_gn, (arI G 30 f_g)), (a_b, (oc6 5 24 a_bn e_b)), (a_bn, (arI G 120 f_b)), (a_bb, (arJ G 24 f_bb)), (a_j, (oc2 a_as a_sk)), (a_as, (arI G 8 f_as)), (a_sk, (arJ G 50 f_sk)), (a_l, (arW G 6 f_l)), (a_lo, (oc3 e_cl a_hd a_sr a_cd)), (a_sr, (arI G n_sr f_sr)), (a_cd, (arI G n_cd f_cd)), (a_hd, (arI G n_hd f_hd)), (a_pt, (arI G 200 f_pt)), (a_k, (oc5 a_h a_j a_pt 0 (-1) (-1) 1000000 0 e_me p_c p_w p_h 0)), (a_h, (oc1 e_wa e_le e_st e_fo e_lc a_l a_g a_b a_s a_p a_w e_gb a_bb)), (a_p, (oc6 8 5 a_pn e_p)), (a_pn, (arI G 40 f_p))] hP hD ?_
      clear hP hD
      intro hP hD
      refine g5_tl (v := z4) y5 ?_
      refine lv_lor hx hb dX5_run_72 ?_
      refine W.eq (g2 := F0 m 73 ls [.long (e_gb ||| z4)]) rfl ?_
      refine lv_lstore (lv' := [(5, .long (e_gb ||| z4)), (0, .ref a_k), (1, .int p_c), (2, .int p_w), (3, .int p_h), (4, .int p_u)]) hx hb dX5_run_73 hl (by decide +kernel) rfl ?_
      clear hl
      intro ls hl
      refine lv_iconst (v := 0) hx hb dX5_run_75 (by decide +kernel) ?_
      refine lv_istore (lv' := [(7, .int 0), (5, .long (e_gb ||| z4)), (0, .ref a_k), (1, .int p_c), (2, .int p_w), (3, .int p_h), (4, .int p_u)]) hx hb dX5_run_76 hl (by decide +kernel) rfl ?_
      clear hl
      intro ls hl
      refine g5_loop (α := (Int32) × (Int32) × (Int32) × (Int32) × (Int32) × (Int32) × (Int32) × (Int32) × (Int32) × (Int32) × (Int32) × (Nat → Int32) × (Nat → Int32) × (Nat → Int64)) (fun (q : (Int32) × (Int32) × (Int32) × (Int32) × (Int32) × (Int32) × (Int32) × (Int32) × (Int32) × (Int32) × (Int32) × (Nat → Int32) × (Nat → Int32) × (Nat → Int64)) (ls : Array Slot) (H : Heap) (locs : List Loc) => match q with | (k_i, k_ln, k_se, k_lh, k_br, k_we, k_me, k_ce, k_wy, k_ho, k_ov, k_pt, k_as, k_sk) => lv_has ls 9 [(7, .int k_i), (5, .long (e_gb ||| z4)), (0, .ref a_k), (1, .int p_c), (2, .int p_w), (3, .int p_h), (4, .int p_u)] ∧ va_P G.1 vwCl [(a_g, (oc6 6 5 a_gn e_g)), (a_gn, (arI G 30 f_g)), (a_b, (oc6 5 24 a_bn e_b)), (a_bn, (arI G 120 f_b)), (a_bb, (arJ G 24 f_bb)), (a_j, (oc2 a_as a_sk)), (a_as, (arI G 8 k_as)), (a_sk, (arJ G 50 k_sk)), (a_l, (arW G 6 f_l)), (a_lo, (oc3 e_cl a_hd a_sr a_cd)), (a_sr, (arI G n_sr f_sr)), (a_cd, (arI G n_cd f_cd)), (a_hd, (arI G n_hd f_hd)), (a_pt, (arI G 200 k_pt)), (a_k, (oc5 a_h a_j a_pt k_ln k_se k_lh k_br k_we k_me k_ce k_wy k_ho k_ov)), (a_h, (oc1 e_wa e_le e_st e_fo e_lc a_l a_g a_b a_s a_p a_w e_gb a_bb)), (a_p, (oc6 8 5 a_pn e_p)), (a_pn, (arI G 40 f_p))] H ∧ va_D A [(a_g, (oc6 6 5 a_gn e_g)), (a_gn, (arI G 30 f_g)), (a_b, (oc6 5 24 a_bn e_b)), (a_bn, (arI G 120 f_b)), (a_bb, (arJ G 24 f_bb)), (a_j, (oc2 a_as a_sk)), (a_as, (arI G 8 k_as)), (a_sk, (arJ G 50 k_sk)), (a_l, (arW G 6 f_l)), (a_lo, (oc3 e_cl a_hd a_sr a_cd)), (a_sr, (arI G n_sr f_sr)), (a_cd, (arI G n_cd f_cd)), (a_hd, (arI G n_hd f_hd)), (a_pt, (arI G 200 k_pt)), (a_k, (oc5 a_h a_j a_pt k_ln k_se k_lh k_br k_we k_me k_ce k_wy k_ho k_ov)), (a_h, (oc1 e_wa e_le e_st e_fo e_lc a_l a_g a_b a_s a_p a_w e_gb a_bb)), (a_p, (oc6 8 5 a_pn e_p)), (a_pn, (arI G 40 f_p))] ∧ va_S A s.heap H locs ∧ (0 ≤ k_i.toInt ∧ k_i.toInt ≤ 200) ∧ (0 ≤ k_ln.toInt ∧ k_ln.toInt ≤ 200) ∧ ((-1) ≤ k_lh.toInt ∧ k_lh.toInt ≤ 23) ∧ (0 ≤ k_br.toInt ∧ k_br.toInt ≤ 1000000) ∧ (0 ≤ k_ce.toInt ∧ k_ce.toInt ≤ 63) ∧ (0 ≤ k_wy.toInt ∧ k_wy.toInt ≤ 3) ∧ (0 ≤ k_ho.toInt ∧ k_ho.toInt ≤ 23) ∧ (0 ≤ k_ov.toInt ∧ k_ov.toInt ≤ 1) ∧ (k_ln.toInt = k_i.toInt) ∧ (∀ j : Nat, (j : Int) < k_ln.toInt → 0 ≤ (k_pt j).toInt ∧ (k_pt j).toInt ≤ 1535)) (fun (q : (Int32) × (Int32) × (Int32) × (Int32) × (Int32) × (Int32) × (Int32) × (Int32) × (Int32) × (Int32) × (Int32) × (Nat → Int32) × (Nat → Int32) × (Nat → Int64)) => match q with | (k_i, k_ln, k_se, k_lh, k_br, k_we, k_me, k_ce, k_wy, k_ho, k_ov, k_pt, k_as, k_sk) => Int.toNat (200 - k_i.toInt)) (0, 0, (-1), (-1), 1000000, 0, e_me, p_c, p_w, p_h, 0, f_pt, f_as, f_sk) ⟨lv_sub hl [0, 1, 2, 3, 4, 5, 6] rfl, hP, hD, hS, ⟨by decide, by decide⟩, ⟨by decide, by decide⟩, ⟨by decide, by decide⟩, ⟨by decide, by decide⟩, ⟨by omega, by omega⟩, ⟨by omega, by omega⟩, ⟨by omega, by omega⟩, ⟨by decide, by decide⟩, (by decide +kernel), fun j h => absurd h (by have z : (0 : Int32).toInt = 0 := (by decide +kernel); omega)⟩ ?_
      rintro ⟨k_i, k_ln, k_se, k_lh, k_br, k_we, k_me, k_ce, k_wy, k_ho, k_ov, k_pt, k_as, k_sk⟩ ls H locs ⟨hl, hP, hD, hS, (i_6 : 0 ≤ k_i.toInt ∧ k_i.toInt ≤ 200), (i_7 : 0 ≤ k_ln.toInt ∧ k_ln.toInt ≤ 200), (i_8 : (-1) ≤ k_lh.toInt ∧ k_lh.toInt ≤ 23), (i_9 : 0 ≤ k_br.toInt ∧ k_br.toInt ≤ 1000000), (i_10 : 0 ≤ k_ce.toInt ∧ k_ce.toInt ≤ 63), (i_11 : 0 ≤ k_wy.toInt ∧ k_wy.toInt ≤ 3), (i_12 : 0 ≤ k_ho.toInt ∧ k_ho.toInt ≤ 23), (i_13 : 0 ≤ k_ov.toInt ∧ k_ov.toInt ≤ 1), (i_14 : k_ln.toInt = k_i.toInt), (i_15 : ∀ j : Nat, (j : Int) < k_ln.toInt → 0 ≤ (k_pt j).toInt ∧ (k_pt j).toInt ≤ 1535)⟩ ih_78_16
      replace hl : lv_has ls 9 [(7, .int k_i), (5, .long (e_gb ||| z4)), (0, .ref a_k), (1, .int p_c), (2, .int p_w), (3, .int p_h), (4, .int p_u)] := hl
      refine g5_rs [(a_g, (oc6 6 5 a_gn e_g)), (a_gn, (arI G 30 f_g)), (a_b, (oc6 5 24 a_bn e_b)), (a_bn, (arI G 120 f_b)), (a_bb, (arJ G 24 f_bb)), (a_j, (oc2 a_as a_sk)), (a_as, (arI G 8 k_as)), (a_sk, (arJ G 50 k_sk)), (a_l, (arW G 6 f_l)), (a_lo, (oc3 e_cl a_hd a_sr a_cd)), (a_sr, (arI G n_sr f_sr)), (a_cd, (arI G n_cd f_cd)), (a_hd, (arI G n_hd f_hd)), (a_pt, (arI G 200 k_pt)), (a_k, (oc5 a_h a_j a_pt k_ln k_se k_lh k_br k_we k_me k_ce k_wy k_ho k_ov)), (a_h, (oc1 e_wa e_le e_st e_fo e_lc a_l a_g a_b a_s a_p a_w e_gb a_bb)), (a_p, (oc6 8 5 a_pn e_p)), (a_pn, (arI G 40 f_p))] hP hD ?_
      clear hP hD
      intro hP hD
      refine lv_iload hx hb dX5_run_78 (lv_at hl 0 rfl) ?_
      refine lv_sipush (v := 200) hx hb dX5_run_80 (by decide +kernel) ?_
      refine lv_icmp_ge (tgt := 227) hx hb dX5_run_83 (by decide +kernel) (fun c_17 => ?_) (fun c_17 => ?_)
      ·
        have i_17 : k_i.toInt ≥ 200 := g5_ge (a := k_i.toInt) (b := 200) rfl (by decide +kernel) c_17
        exact W.vret hx hb hr (fun t ht hW => ⟨⟨[(a_k, (oc5 a_h a_j a_pt k_ln k_se k_lh k_br k_we k_me k_ce k_wy k_ho k_ov)), (a_h, (oc1 e_wa e_le e_st e_fo e_lc a_l a_g a_b a_s a_p a_w e_gb a_bb)), (a_g, (oc6 6 5 a_gn e_g)), (a_gn, (arI G 30 f_g)), (a_b, (oc6 5 24 a_bn e_b)), (a_bn, (arI G 120 f_b)), (a_p, (oc6 8 5 a_pn e_p)), (a_pn, (arI G 40 f_p)), (a_bb, (arJ G 24 f_bb)), (a_j, (oc2 a_as a_sk)), (a_as, (arI G 8 k_as)), (a_sk, (arJ G 50 k_sk)), (a_l, (arW G 6 f_l)), (a_lo, (oc3 e_cl a_hd a_sr a_cd)), (a_sr, (arI G n_sr f_sr)), (a_cd, (arI G n_cd f_cd)), (a_hd, (arI G n_hd f_hd)), (a_pt, (arI G 200 k_pt))], rfl, ⟨k_ln, k_se, k_lh, k_br, k_we, k_me, k_ce, k_wy, k_ho, k_ov, k_pt, k_as, k_sk, i_7, i_13, i_15, rfl⟩, by rw [ht]; exact hP.sub [14, 15, 0, 1, 2, 3, 16, 17, 4, 5, 6, 7, 8, 9, 10, 11, 12, 13] rfl, hD.sub [14, 15, 0, 1, 2, 3, 16, 17, 4, 5, 6, 7, 8, 9, 10, 11, 12, 13] (by decide +kernel) rfl⟩, hS.F ht⟩) hS.2.2 dX5_run_227
      ·
        have i_17 : k_i.toInt < 200 := g5_geN (a := k_i.toInt) (b := 200) rfl (by decide +kernel) c_17
        refine lv_aload_n hx hb dX5_run_86 rfl (lv_at hl 2 rfl) ?_
        refine va_get (D := G.1) (ci := 5) (v := .int k_ov) (C := RX5) (T := TX5) (N := 13) hx hb hts inG_X5 hown hK hP 14 rfl rfl 12 (by decide +kernel) (hts _ fl_X5_56) (fun _ h9 => h9) rfl dX5_run_87 ?_
        refine lv_if_ne (tgt := 227) hx hb dX5_run_90 (by decide +kernel) (fun c_18 => ?_) (fun c_18 => ?_)
        ·
          have n_18 : gNe (k_ov.toInt) (0) := g5_ne (a := k_ov.toInt) (b := 0) rfl (by decide +kernel) c_18
          have i_18 : k_ov.toInt ≥ 1 := by have z := g5_ne (a := k_ov.toInt) (b := 0) (by rfl) (by decide +kernel) c_18; omega
          exact W.vret hx hb hr (fun t ht hW => ⟨⟨[(a_k, (oc5 a_h a_j a_pt k_ln k_se k_lh k_br k_we k_me k_ce k_wy k_ho k_ov)), (a_h, (oc1 e_wa e_le e_st e_fo e_lc a_l a_g a_b a_s a_p a_w e_gb a_bb)), (a_g, (oc6 6 5 a_gn e_g)), (a_gn, (arI G 30 f_g)), (a_b, (oc6 5 24 a_bn e_b)), (a_bn, (arI G 120 f_b)), (a_p, (oc6 8 5 a_pn e_p)), (a_pn, (arI G 40 f_p)), (a_bb, (arJ G 24 f_bb)), (a_j, (oc2 a_as a_sk)), (a_as, (arI G 8 k_as)), (a_sk, (arJ G 50 k_sk)), (a_l, (arW G 6 f_l)), (a_lo, (oc3 e_cl a_hd a_sr a_cd)), (a_sr, (arI G n_sr f_sr)), (a_cd, (arI G n_cd f_cd)), (a_hd, (arI G n_hd f_hd)), (a_pt, (arI G 200 k_pt))], rfl, ⟨k_ln, k_se, k_lh, k_br, k_we, k_me, k_ce, k_wy, k_ho, k_ov, k_pt, k_as, k_sk, i_7, i_13, i_15, rfl⟩, by rw [ht]; exact hP.sub [14, 15, 0, 1, 2, 3, 16, 17, 4, 5, 6, 7, 8, 9, 10, 11, 12, 13] rfl, hD.sub [14, 15, 0, 1, 2, 3, 16, 17, 4, 5, 6, 7, 8, 9, 10, 11, 12, 13] (by decide +kernel) rfl⟩, hS.F ht⟩) hS.2.2 dX5_run_227
        ·
          have i_18 : k_ov.toInt = 0 := g5_neN (a := k_ov.toInt) (b := 0) rfl (by decide +kernel) c_18
          refine lv_aload_n hx hb dX5_run_93 rfl (lv_at hl 2 rfl) ?_
          refine va_get (D := G.1) (ci := 5) (v := .int k_ce) (C := RX5) (T := TX5) (N := 13) hx hb hts inG_X5 hown hK hP 14 rfl rfl 9 (by decide +kernel) (hts _ fl_X5_26) (fun _ h9 => h9) rfl dX5_run_94 ?_
          refine lv_aload_n hx hb dX5_run_97 rfl (lv_at hl 2 rfl) ?_
          refine va_get (D := G.1) (ci := 5) (v := .int k_wy) (C := RX5) (T := TX5) (N := 13) hx hb hts inG_X5 hown hK hP 14 rfl rfl 10 (by decide +kernel) (hts _ fl_X5_30) (fun _ h9 => h9) rfl dX5_run_98 ?_
          refine W.eq (g2 := F0 m 101 ls [.int k_wy, .int k_ce]) rfl ?_
          obtain ⟨hPc, hDc, hFc⟩ := g5_sub3 (wc := []) hP hD hS hA [] (by decide +kernel) rfl
          refine va_calli (va_runSN (As := [.int k_ce, .int k_wy]) (rest := []) ⟨hx, hb, hml, hown, hts⟩ (k_beside l G H.size k_ce k_wy i_10) ⟨va_cnB 2 hts gW_X11_beside rfl rfl rfl (hN.1 _ g5_nw_X5_70) (hts _ ini_X11) hs_X11_beside ⟨Nat.le_of_ble_eq_true rfl, Nat.le_of_ble_eq_true rfl⟩, hts _ st_X11_beside, trivial⟩ (g5_preS hPc hK hDc hN hT hS hFc) rfl rfl hl.1 rfl (lv_room (Nat.le_of_ble_eq_true rfl)) dX5_run_101 ⟨Nat.le_of_ble_eq_true rfl, Nat.le_of_ble_eq_true rfl⟩) hS (fun q _ h => hFc q h) hFc (fun r u t H locs ht hvm hw hB hz1 hk1 hS => ?_)
          obtain ⟨hP1, hD1⟩ := hB
          have hP1 := g5_ht ht hP1
          obtain ⟨z21, (i_19 : z21.toInt = bs k_ce.toInt k_wy.toInt), (i_20 : -1 ≤ z21.toInt ∧ z21.toInt ≤ 63), y22, rfl⟩ := hw
          have hJ9 := g5_same hP hk1
          clear hP hPc hDc hFc ht hvm hz1 hk1 hP1 hD1
          have hP := hJ9
          clear hJ9
          refine g5_ti (v := z21) y22 ?_
          refine lv_istore (lv' := [(8, .int z21), (7, .int k_i), (5, .long (e_gb ||| z4)), (0, .ref a_k), (1, .int p_c), (2, .int p_w), (3, .int p_h), (4, .int p_u)]) hx hb dX5_run_104 hl (by decide +kernel) rfl ?_
          clear hl
          intro ls hl
          refine lv_iload hx hb dX5_run_106 (lv_at hl 0 rfl) ?_
          refine lv_iconst (v := (-1)) hx hb dX5_run_108 (by decide +kernel) ?_
          refine lv_icmp_eq (tgt := 127) hx hb dX5_run_109 (by decide +kernel) (fun c_23 => ?_) (fun c_23 => ?_)
          ·
            have i_23 : z21.toInt = (-1) := g5_eq (a := z21.toInt) (b := (-1)) rfl (by decide +kernel) c_23
            exact W.vret hx hb hr (fun t ht hW => ⟨⟨[(a_k, (oc5 a_h a_j a_pt k_ln k_se k_lh k_br k_we k_me k_ce k_wy k_ho k_ov)), (a_h, (oc1 e_wa e_le e_st e_fo e_lc a_l a_g a_b a_s a_p a_w e_gb a_bb)), (a_g, (oc6 6 5 a_gn e_g)), (a_gn, (arI G 30 f_g)), (a_b, (oc6 5 24 a_bn e_b)), (a_bn, (arI G 120 f_b)), (a_p, (oc6 8 5 a_pn e_p)), (a_pn, (arI G 40 f_p)), (a_bb, (arJ G 24 f_bb)), (a_j, (oc2 a_as a_sk)), (a_as, (arI G 8 k_as)), (a_sk, (arJ G 50 k_sk)), (a_l, (arW G 6 f_l)), (a_lo, (oc3 e_cl a_hd a_sr a_cd)), (a_sr, (arI G n_sr f_sr)), (a_cd, (arI G n_cd f_cd)), (a_hd, (arI G n_hd f_hd)), (a_pt, (arI G 200 k_pt))], rfl, ⟨k_ln, k_se, k_lh, k_br, k_we, k_me, k_ce, k_wy, k_ho, k_ov, k_pt, k_as, k_sk, i_7, i_13, i_15, rfl⟩, by rw [ht]; exact hP.sub [14, 15, 0, 1, 2, 3, 16, 17, 4, 5, 6, 7, 8, 9, 10, 11, 12, 13] rfl, hD.sub [14, 15, 0, 1, 2, 3, 16, 17, 4, 5, 6, 7, 8, 9, 10, 11, 12, 13] (by decide +kernel) rfl⟩, hS.F ht⟩) hS.2.2 dX5_run_127
          ·
            have n_23 : gNe (z21.toInt) ((-1)) := g5_eqN (a := z21.toInt) (b := (-1)) rfl (by decide +kernel) c_23
            have i_23 : z21.toInt ≥ 0 := by have z := g5_eqN (a := z21.toInt) (b := (-1)) (by rfl) (by decide +kernel) c_23; omega
            refine lv_aload_n hx hb dX5_run_112 rfl (lv_at hl 3 rfl) ?_
            refine va_get (D := G.1) (ci := 5) (v := .ref a_h) (C := RX5) (T := TX5) (N := 13) hx hb hts inG_X5 hown hK hP 14 rfl rfl 0 (by decide +kernel) (hts _ fl_X5_22) (fun _ h9 => h9) rfl dX5_run_113 ?_
            refine va_get (D := G.1) (ci := 1) (v := .long e_wa) (C := RX1) (T := TX1) (N := 13) hx hb hts inG_X1 hown hK hP 15 rfl rfl 0 (by decide +kernel) (hts _ fl_X5_74) (fun _ h9 => h9) rfl dX5_run_116 ?_
            refine lv_iload hx hb dX5_run_119 (lv_at hl 0 rfl) ?_
            refine W.eq (g2 := F0 m 121 ls [.int z21, .long e_wa]) rfl ?_
            obtain ⟨hPc, hDc, hFc⟩ := g5_sub3 (wc := []) hP hD hS hA [] (by decide +kernel) rfl
            refine va_calli (va_runSN (As := [.long e_wa, .int z21]) (rest := []) ⟨hx, hb, hml, hown, hts⟩ (k_isOn l G H.size z21 e_wa ⟨by omega, by omega⟩) ⟨va_cnB 2 hts gW_X11_isOn rfl rfl rfl (hN.1 _ g5_nw_X5_77) (hts _ ini_X11) hs_X11_isOn ⟨Nat.le_of_ble_eq_true rfl, Nat.le_of_ble_eq_true rfl⟩, hts _ st_X11_isOn, trivial⟩ (g5_preS hPc hK hDc hN hT hS hFc) rfl rfl hl.1 rfl (lv_room (Nat.le_of_ble_eq_true rfl)) dX5_run_121 ⟨Nat.le_of_ble_eq_true rfl, Nat.le_of_ble_eq_true rfl⟩) hS (fun q _ h => hFc q h) hFc (fun r u t H locs ht hvm hw hB hz1 hk1 hS => ?_)
            obtain ⟨hP1, hD1⟩ := hB
            have hP1 := g5_ht ht hP1
            rcases hw with ⟨(i_24 : onB e_wa z21.toInt = false), rfl, rfl⟩ | ⟨(i_25 : onB e_wa z21.toInt = true), rfl, rfl⟩
            ·
              have hJ9 := g5_same hP hk1
              clear hP hPc hDc hFc ht hvm hz1 hk1 hP1 hD1
              have hP := hJ9
              clear hJ9
              refine lv_if_eq (tgt := 128) hx hb dX5_run_124 (by decide +kernel) (fun c_26 => ?_) (fun c_26 => ?_)
              ·
                refine lv_aload_n hx hb dX5_run_128 rfl (lv_at hl 3 rfl) ?_
                refine lv_iload hx hb dX5_run_129 (lv_at hl 0 rfl) ?_
                refine va_put (D := G.1) (ci := 5) (v := .int z21) (ty := .int) (C := RX5) (T := TX5) (N := 13) hx hb hts inG_X5 tyX5 tyX5_ok nmX5 hown hK hP hD hS 14 rfl rfl 9 (by decide +kernel) (hts _ fl_X5_26) (fun _ h9 => h9) rfl (by decide +kernel) rfl rfl (Nat.le_of_ble_eq_true rfl) dX5_run_131 ?_
                clear hP hD hS
                intro H locs hP hD hS
                refine g5_rs [(a_g, (oc6 6 5 a_gn e_g)), (a_gn, (arI G 30 f_g)), (a_b, (oc6 5 24 a_bn e_b)), (a_bn, (arI G 120 f_b)), (a_bb, (arJ G 24 f_bb)), (a_j, (oc2 a_as a_sk)), (a_as, (arI G 8 k_as)), (a_sk, (arJ G 50 k_sk)), (a_l, (arW G 6 f_l)), (a_lo, (oc3 e_cl a_hd a_sr a_cd)), (a_sr, (arI G n_sr f_sr)), (a_cd, (arI G n_cd f_cd)), (a_hd, (arI G n_hd f_hd)), (a_pt, (arI G 200 k_pt)), (a_k, (oc5 a_h a_j a_pt k_ln k_se k_lh k_br k_we k_me z21 k_wy k_ho k_ov)), (a_h, (oc1 e_wa e_le e_st e_fo e_lc a_l a_g a_b a_s a_p a_w e_gb a_bb)), (a_p, (oc6 8 5 a_pn e_p)), (a_pn, (arI G 40 f_p))] hP hD ?_
                clear hP hD
                intro hP hD
                refine lv_aload_n hx hb dX5_run_134 rfl (lv_at hl 3 rfl) ?_
                refine W.eq (g2 := F0 m 135 ls [.ref a_k]) rfl ?_
                refine lv_aload_n hx hb dX5_run_135 rfl (lv_at hl 3 rfl) ?_
                refine va_get (D := G.1) (ci := 5) (v := .int k_ho) (C := RX5) (T := TX5) (N := 13) hx hb hts inG_X5 hown hK hP 14 rfl rfl 11 (by decide +kernel) (hts _ fl_X5_33) (fun _ h9 => h9) rfl dX5_run_136 ?_
                refine va_put (D := G.1) (ci := 5) (v := .int k_ho) (ty := .int) (C := RX5) (T := TX5) (N := 13) hx hb hts inG_X5 tyX5 tyX5_ok nmX5 hown hK hP hD hS 14 rfl rfl 5 (by decide +kernel) (hts _ fl_X5_42) (fun _ h9 => h9) rfl (by decide +kernel) rfl rfl (Nat.le_of_ble_eq_true rfl) dX5_run_139 ?_
                clear hP hD hS
                intro H locs hP hD hS
                refine g5_rs [(a_g, (oc6 6 5 a_gn e_g)), (a_gn, (arI G 30 f_g)), (a_b, (oc6 5 24 a_bn e_b)), (a_bn, (arI G 120 f_b)), (a_bb, (arJ G 24 f_bb)), (a_j, (oc2 a_as a_sk)), (a_as, (arI G 8 k_as)), (a_sk, (arJ G 50 k_sk)), (a_l, (arW G 6 f_l)), (a_lo, (oc3 e_cl a_hd a_sr a_cd)), (a_sr, (arI G n_sr f_sr)), (a_cd, (arI G n_cd f_cd)), (a_hd, (arI G n_hd f_hd)), (a_pt, (arI G 200 k_pt)), (a_k, (oc5 a_h a_j a_pt k_ln k_se k_ho k_br k_we k_me z21 k_wy k_ho k_ov)), (a_h, (oc1 e_wa e_le e_st e_fo e_lc a_l a_g a_b a_s a_p a_w e_gb a_bb)), (a_p, (oc6 8 5 a_pn e_p)), (a_pn, (arI G 40 f_p))] hP hD ?_
                clear hP hD
                intro hP hD
                refine lv_aload_n hx hb dX5_run_142 rfl (lv_at hl 3 rfl) ?_
                refine va_get (D := G.1) (ci := 5) (v := .ref a_pt) (C := RX5) (T := TX5) (N := 13) hx hb hts inG_X5 hown hK hP 14 rfl rfl 2 (by decide +kernel) (hts _ fl_X5_18) (fun _ h9 => h9) rfl dX5_run_143 ?_
                refine W.eq (g2 := F0 m 146 ls [.ref a_pt]) rfl ?_
                refine lv_iload hx hb dX5_run_146 (lv_at hl 1 rfl) ?_
                refine lv_aload_n hx hb dX5_run_148 rfl (lv_at hl 3 rfl) ?_
                refine va_get (D := G.1) (ci := 5) (v := .int k_ho) (C := RX5) (T := TX5) (N := 13) hx hb hts inG_X5 hown hK hP 14 rfl rfl 11 (by decide +kernel) (hts _ fl_X5_33) (fun _ h9 => h9) rfl dX5_run_149 ?_
                refine lv_bipush (v := 64) hx hb dX5_run_152 (by decide +kernel) ?_
                refine lv_imul hx hb dX5_run_154 ?_
                have t_27 : (k_ho * 64).toInt = k_ho.toInt * 64 := g5_imul (a := k_ho.toInt) (b := 64) (by rfl) (by decide +kernel) (by omega) (by omega)
                refine W.eq (g2 := F0 m 155 ls [.int (k_ho * 64), .int k_i, .ref a_pt]) rfl ?_
                refine lv_aload_n hx hb dX5_run_155 rfl (lv_at hl 3 rfl) ?_
                refine va_get (D := G.1) (ci := 5) (v := .int z21) (C := RX5) (T := TX5) (N := 13) hx hb hts inG_X5 hown hK hP 14 rfl rfl 9 (by decide +kernel) (hts _ fl_X5_26) (fun _ h9 => h9) rfl dX5_run_156 ?_
                refine lv_iadd hx hb dX5_run_159 ?_
                have t_28 : ((k_ho * 64) + z21).toInt = (k_ho * 64).toInt + z21.toInt := g5_iadd (a := (k_ho * 64).toInt) (b := z21.toInt) (by rfl) (by rfl) (by omega) (by omega)
                refine va_iast hx hb hK hP hD hS 13 0 rfl rfl (i := k_i) (x := ((k_ho * 64) + z21)) (vp_in_iff.mpr ⟨by omega, by omega⟩) dX5_run_160 ?_
                clear hP hD hS
                intro H locs hP hD hS
                refine g5_rs [(a_g, (oc6 6 5 a_gn e_g)), (a_gn, (arI G 30 f_g)), (a_b, (oc6 5 24 a_bn e_b)), (a_bn, (arI G 120 f_b)), (a_bb, (arJ G 24 f_bb)), (a_j, (oc2 a_as a_sk)), (a_as, (arI G 8 k_as)), (a_sk, (arJ G 50 k_sk)), (a_l, (arW G 6 f_l)), (a_lo, (oc3 e_cl a_hd a_sr a_cd)), (a_sr, (arI G n_sr f_sr)), (a_cd, (arI G n_cd f_cd)), (a_hd, (arI G n_hd f_hd)), (a_pt, (arI G 200 (upd k_pt k_i.toNatClampNeg ((k_ho * 64) + z21)))), (a_k, (oc5 a_h a_j a_pt k_ln k_se k_ho k_br k_we k_me z21 k_wy k_ho k_ov)), (a_h, (oc1 e_wa e_le e_st e_fo e_lc a_l a_g a_b a_s a_p a_w e_gb a_bb)), (a_p, (oc6 8 5 a_pn e_p)), (a_pn, (arI G 40 f_p))] hP hD ?_
                clear hP hD
                intro hP hD
                refine lv_aload_n hx hb dX5_run_161 rfl (lv_at hl 3 rfl) ?_
                refine W.eq (g2 := F0 m 162 ls [.ref a_k]) rfl ?_
                refine lv_iload hx hb dX5_run_162 (lv_at hl 1 rfl) ?_
                refine lv_iconst (v := 1) hx hb dX5_run_164 (by decide +kernel) ?_
                refine lv_iadd hx hb dX5_run_165 ?_
                have t_29 : (k_i + 1).toInt = k_i.toInt + 1 := g5_iadd (a := k_i.toInt) (b := 1) (by rfl) (by decide +kernel) (by omega) (by omega)
                refine va_put (D := G.1) (ci := 5) (v := .int (k_i + 1)) (ty := .int) (C := RX5) (T := TX5) (N := 13) hx hb hts inG_X5 tyX5 tyX5_ok nmX5 hown hK hP hD hS 14 rfl rfl 3 (by decide +kernel) (hts _ fl_X5_36) (fun _ h9 => h9) rfl (by decide +kernel) rfl rfl (Nat.le_of_ble_eq_true rfl) dX5_run_166 ?_
                clear hP hD hS
                intro H locs hP hD hS
                refine g5_rs [(a_g, (oc6 6 5 a_gn e_g)), (a_gn, (arI G 30 f_g)), (a_b, (oc6 5 24 a_bn e_b)), (a_bn, (arI G 120 f_b)), (a_bb, (arJ G 24 f_bb)), (a_j, (oc2 a_as a_sk)), (a_as, (arI G 8 k_as)), (a_sk, (arJ G 50 k_sk)), (a_l, (arW G 6 f_l)), (a_lo, (oc3 e_cl a_hd a_sr a_cd)), (a_sr, (arI G n_sr f_sr)), (a_cd, (arI G n_cd f_cd)), (a_hd, (arI G n_hd f_hd)), (a_pt, (arI G 200 (upd k_pt k_i.toNatClampNeg ((k_ho * 64) + z21)))), (a_k, (oc5 a_h a_j a_pt (k_i + 1) k_se k_ho k_br k_we k_me z21 k_wy k_ho k_ov)), (a_h, (oc1 e_wa e_le e_st e_fo e_lc a_l a_g a_b a_s a_p a_w e_gb a_bb)), (a_p, (oc6 8 5 a_pn e_p)), (a_pn, (arI G 40 f_p))] hP hD ?_
                clear hP hD
                intro hP hD
                refine lv_aload_n hx hb dX5_run_169 rfl (lv_at hl 3 rfl) ?_
                refine W.eq (g2 := F0 m 170 ls [.ref a_k]) rfl ?_
                refine va_get (D := G.1) (ci := 5) (v := .ref a_h) (C := RX5) (T := TX5) (N := 13) hx hb hts inG_X5 hown hK hP 14 rfl rfl 0 (by decide +kernel) (hts _ fl_X5_22) (fun _ h9 => h9) rfl dX5_run_170 ?_
                refine va_get (D := G.1) (ci := 1) (v := .ref a_bb) (C := RX1) (T := TX1) (N := 13) hx hb hts inG_X1 hown hK hP 15 rfl rfl 12 (by decide +kernel) (hts _ fl_X5_81) (fun _ h9 => h9) rfl dX5_run_173 ?_
                refine lv_aload_n hx hb dX5_run_176 rfl (lv_at hl 3 rfl) ?_
                refine va_get (D := G.1) (ci := 5) (v := .int k_ho) (C := RX5) (T := TX5) (N := 13) hx hb hts inG_X5 hown hK hP 14 rfl rfl 11 (by decide +kernel) (hts _ fl_X5_33) (fun _ h9 => h9) rfl dX5_run_177 ?_
                refine va_lald hx hb hK hP 4 1 rfl rfl (i := k_ho) (vp_in_iff.mpr ⟨by omega, by omega⟩) dX5_run_180 ?_
                refine W.eq (g2 := F0 m 181 ls [.long (f_bb k_ho.toNatClampNeg)]) rfl ?_
                refine lv_lload hx hb dX5_run_181 (lv_at hl 2 rfl) ?_
                refine lv_lor hx hb dX5_run_183 ?_
                refine lv_aload_n hx hb dX5_run_184 rfl (lv_at hl 3 rfl) ?_
                refine va_get (D := G.1) (ci := 5) (v := .int z21) (C := RX5) (T := TX5) (N := 13) hx hb hts inG_X5 hown hK hP 14 rfl rfl 9 (by decide +kernel) (hts _ fl_X5_26) (fun _ h9 => h9) rfl dX5_run_185 ?_
                obtain ⟨hPc, hDc, hFc⟩ := g5_sub3 (wc := []) hP hD hS hA [] (by decide +kernel) rfl
                refine va_calli (va_runSN (As := [.long ((f_bb k_ho.toNatClampNeg) ||| (e_gb ||| z4)), .int z21]) (rest := []) ⟨hx, hb, hml, hown, hts⟩ (k_isOn l G H.size z21 ((f_bb k_ho.toNatClampNeg) ||| (e_gb ||| z4)) ⟨by omega, by omega⟩) ⟨va_cnB 2 hts gW_X11_isOn rfl rfl rfl (hN.1 _ g5_nw_X5_77) (hts _ ini_X11) hs_X11_isOn ⟨Nat.le_of_ble_eq_true rfl, Nat.le_of_ble_eq_true rfl⟩, hts _ st_X11_isOn, trivial⟩ (g5_preS hPc hK hDc hN hT hS hFc) rfl rfl hl.1 rfl (lv_room (Nat.le_of_ble_eq_true rfl)) dX5_run_188 ⟨Nat.le_of_ble_eq_true rfl, Nat.le_of_ble_eq_true rfl⟩) hS (fun q _ h => hFc q h) hFc (fun r u t H locs ht hvm hw hB hz1 hk1 hS => ?_)
                obtain ⟨hP1, hD1⟩ := hB
                have hP1 := g5_ht ht hP1
                rcases hw with ⟨(i_30 : onB ((f_bb k_ho.toNatClampNeg) ||| (e_gb ||| z4)) z21.toInt = false), rfl, rfl⟩ | ⟨(i_31 : onB ((f_bb k_ho.toNatClampNeg) ||| (e_gb ||| z4)) z21.toInt = true), rfl, rfl⟩
                ·
                  have hJ9 := g5_same hP hk1
                  clear hP hPc hDc hFc ht hvm hz1 hk1 hP1 hD1
                  have hP := hJ9
                  clear hJ9
                  refine lv_if_eq (tgt := 221) hx hb dX5_run_191 (by decide +kernel) (fun c_32 => ?_) (fun c_32 => ?_)
                  ·
                    refine lv_iinc (v := (k_i + 1)) (lv' := [(7, .int (k_i + 1)), (8, .int z21), (5, .long (e_gb ||| z4)), (0, .ref a_k), (1, .int p_c), (2, .int p_w), (3, .int p_h), (4, .int p_u)]) hx hb dX5_run_221 hl (k := 1) rfl rfl (by decide +kernel) rfl ?_
                    clear hl
                    intro ls hl
                    have t_33 : (k_i + 1).toInt = k_i.toInt + 1 := g5_iadd (a := k_i.toInt) (b := 1) rfl (by decide +kernel) (by omega) (by omega)
                    refine lv_goto (tgt := 78) hx hb dX5_run_224 (by decide +kernel) ?_
                    exact ih_78_16 ((k_i + 1), (k_i + 1), k_se, k_ho, k_br, k_we, k_me, z21, k_wy, k_ho, k_ov, (upd k_pt k_i.toNatClampNeg ((k_ho * 64) + z21)), k_as, k_sk) ls H locs (show Int.toNat (200 - (k_i + 1).toInt) < Int.toNat (200 - k_i.toInt) from g_up (show k_i.toInt < (k_i + 1).toInt by omega) (show k_i.toInt < 200 by omega)) ⟨lv_sub hl [0, 2, 3, 4, 5, 6, 7] rfl, hP, hD, hS, ⟨by omega, by omega⟩, ⟨by omega, by omega⟩, ⟨by omega, by omega⟩, i_9, ⟨by omega, by omega⟩, i_11, i_12, i_13, by omega, g_rows (k := k_i) (fun j hj => i_15 j (by omega)) (by omega) (by omega) (by omega)⟩
                  ·
                    exact absurd c_32 (by decide +kernel)
                ·
                  have hJ9 := g5_same hP hk1
                  clear hP hPc hDc hFc ht hvm hz1 hk1 hP1 hD1
                  have hP := hJ9
                  clear hJ9
                  refine lv_if_eq (tgt := 221) hx hb dX5_run_191 (by decide +kernel) (fun c_34 => ?_) (fun c_34 => ?_)
                  ·
                    exact absurd c_34 (by decide +kernel)
                  ·
                    refine lv_aload_n hx hb dX5_run_194 rfl (lv_at hl 3 rfl) ?_
                    obtain ⟨hPc, hDc, hFc⟩ := g5_sub3 (wc := [(a_k, (oc5 a_h a_j a_pt (k_i + 1) k_se k_ho k_br k_we k_me z21 k_wy k_ho k_ov)), (a_h, (oc1 e_wa e_le e_st e_fo e_lc a_l a_g a_b a_s a_p a_w e_gb a_bb)), (a_b, (oc6 5 24 a_bn e_b)), (a_bn, (arI G 120 f_b)), (a_j, (oc2 a_as a_sk)), (a_as, (arI G 8 k_as)), (a_sk, (arJ G 50 k_sk)), (a_l, (arW G 6 f_l)), (a_lo, (oc3 e_cl a_hd a_sr a_cd)), (a_sr, (arI G n_sr f_sr)), (a_cd, (arI G n_cd f_cd)), (a_hd, (arI G n_hd f_hd))]) hP hD hS hA [14, 15, 2, 3, 5, 6, 7, 8, 9, 10, 11, 12] (by decide +kernel) rfl
                    refine va_callv (va_runV (As := []) (rest := []) ⟨hx, hb, hml, hown, hts⟩ (k_meetBodiesL l G a_k a_h a_b a_bn a_j a_as a_sk a_l a_lo a_sr a_cd a_hd a_pt a_g a_s a_p a_w a_bb H.size (k_i + 1) k_se k_ho k_br k_we k_me z21 k_wy k_ho k_ov e_le e_st e_fo e_lc e_b e_cl e_wa e_gb f_b k_as k_sk f_l f_sr f_cd f_hd n_sr n_cd n_hd i_9 ⟨by omega, by omega⟩ i_11 i_12 i_13 h_e_b h_e_cl (e_f) (e_a) (e_hn) (e_hs) (e_hk) (e_c)) (cwV 0 hts gV_X5_85 rfl rfl rfl hv_X5_meetBodies ⟨Nat.le_of_ble_eq_true rfl, Nat.le_of_ble_eq_true rfl⟩) (g5_preV hPc hK hDc hN hT hS hFc (ci := 5) (q0 := 0) rfl rfl) rfl rfl hl.1 rfl (lv_room (Nat.le_of_ble_eq_true rfl)) dX5_run_195 ⟨Nat.le_of_ble_eq_true rfl, Nat.le_of_ble_eq_true rfl⟩) hS (fun q _ h => hFc q h) hFc (fun u t H locs ht hvm hw hB hz1 hk1 hS => ?_)
                    obtain ⟨hP1, hD1⟩ := hB
                    have hP1 := g5_ht ht hP1
                    obtain ⟨z36, z37, z38, z39, (i_35 : 0 ≤ z37.toInt ∧ z37.toInt ≤ 1), rfl⟩ := hw
                    have hJ9 := va_join (wr := [(a_g, (oc6 6 5 a_gn e_g)), (a_gn, (arI G 30 f_g)), (a_bb, (arJ G 24 f_bb)), (a_pt, (arI G 200 (upd k_pt k_i.toNatClampNeg ((k_ho * 64) + z21)))), (a_p, (oc6 8 5 a_pn e_p)), (a_pn, (arI G 40 f_p))]) hP hD [14, 15, 2, 3, 5, 6, 7, 8, 9, 10, 11, 12] [0, 1, 4, 13, 16, 17] rfl rfl (by decide +kernel) (by decide +kernel) hk1 hFc hP1 hD1
                    clear hP hD hPc hDc hFc ht hvm hz1 hk1 hP1 hD1
                    obtain ⟨hP, hD⟩ := hJ9
                    refine g5_rs [(a_g, (oc6 6 5 a_gn e_g)), (a_gn, (arI G 30 f_g)), (a_bb, (arJ G 24 f_bb)), (a_pt, (arI G 200 (upd k_pt k_i.toNatClampNeg ((k_ho * 64) + z21)))), (a_p, (oc6 8 5 a_pn e_p)), (a_pn, (arI G 40 f_p)), (a_k, (oc5 a_h a_j a_pt (k_i + 1) z36 k_ho k_br k_we k_me z21 k_wy k_ho z37)), (a_h, (oc1 e_wa e_le e_st e_fo e_lc a_l a_g a_b a_s a_p a_w e_gb a_bb)), (a_b, (oc6 5 24 a_bn e_b)), (a_bn, (arI G 120 f_b)), (a_j, (oc2 a_as a_sk)), (a_as, (arI G 8 z38)), (a_sk, (arJ G 50 z39)), (a_l, (arW G 6 f_l)), (a_lo, (oc3 e_cl a_hd a_sr a_cd)), (a_sr, (arI G n_sr f_sr)), (a_cd, (arI G n_cd f_cd)), (a_hd, (arI G n_hd f_hd))] hP hD ?_
                    clear hP hD
                    intro hP hD
                    refine lv_aload_n hx hb dX5_run_198 rfl (lv_at hl 3 rfl) ?_
                    refine va_get (D := G.1) (ci := 5) (v := .int z37) (C := RX5) (T := TX5) (N := 13) hx hb hts inG_X5 hown hK hP 6 rfl rfl 12 (by decide +kernel) (hts _ fl_X5_56) (fun _ h9 => h9) rfl dX5_run_199 ?_
                    refine W.eq (g2 := F0 m 202 ls [.int z37]) rfl ?_
                    refine lv_if_ne (tgt := 221) hx hb dX5_run_202 (by decide +kernel) (fun c_40 => ?_) (fun c_40 => ?_)
                    ·
                      have n_40 : gNe (z37.toInt) (0) := g5_ne (a := z37.toInt) (b := 0) rfl (by decide +kernel) c_40
                      have i_40 : z37.toInt ≥ 1 := by have z := g5_ne (a := z37.toInt) (b := 0) (by rfl) (by decide +kernel) c_40; omega
                      refine lv_iinc (v := (k_i + 1)) (lv' := [(7, .int (k_i + 1)), (8, .int z21), (5, .long (e_gb ||| z4)), (0, .ref a_k), (1, .int p_c), (2, .int p_w), (3, .int p_h), (4, .int p_u)]) hx hb dX5_run_221 hl (k := 1) rfl rfl (by decide +kernel) rfl ?_
                      clear hl
                      intro ls hl
                      have t_41 : (k_i + 1).toInt = k_i.toInt + 1 := g5_iadd (a := k_i.toInt) (b := 1) rfl (by decide +kernel) (by omega) (by omega)
                      refine lv_goto (tgt := 78) hx hb dX5_run_224 (by decide +kernel) ?_
                      exact ih_78_16 ((k_i + 1), (k_i + 1), z36, k_ho, k_br, k_we, k_me, z21, k_wy, k_ho, z37, (upd k_pt k_i.toNatClampNeg ((k_ho * 64) + z21)), z38, z39) ls H locs (show Int.toNat (200 - (k_i + 1).toInt) < Int.toNat (200 - k_i.toInt) from g_up (show k_i.toInt < (k_i + 1).toInt by omega) (show k_i.toInt < 200 by omega)) ⟨lv_sub hl [0, 2, 3, 4, 5, 6, 7] rfl, hP.sub [0, 1, 8, 9, 2, 10, 11, 12, 13, 14, 15, 16, 17, 3, 6, 7, 4, 5] rfl, hD.sub [0, 1, 8, 9, 2, 10, 11, 12, 13, 14, 15, 16, 17, 3, 6, 7, 4, 5] (by decide +kernel) rfl, hS, ⟨by omega, by omega⟩, ⟨by omega, by omega⟩, ⟨by omega, by omega⟩, i_9, ⟨by omega, by omega⟩, i_11, i_12, i_35, by omega, g_rows (k := k_i) (fun j hj => i_15 j (by omega)) (by omega) (by omega) (by omega)⟩
                    ·
                      have i_40 : z37.toInt = 0 := g5_neN (a := z37.toInt) (b := 0) rfl (by decide +kernel) c_40
                      refine lv_lload hx hb dX5_run_205 (lv_at hl 2 rfl) ?_
                      refine lv_aload_n hx hb dX5_run_207 rfl (lv_at hl 3 rfl) ?_
                      refine va_get (D := G.1) (ci := 5) (v := .int z21) (C := RX5) (T := TX5) (N := 13) hx hb hts inG_X5 hown hK hP 6 rfl rfl 9 (by decide +kernel) (hts _ fl_X5_26) (fun _ h9 => h9) rfl dX5_run_208 ?_
                      obtain ⟨hPc, hDc, hFc⟩ := g5_sub3 (wc := []) hP hD hS hA [] (by decide +kernel) rfl
                      refine va_calli (va_runSN (As := [.long (e_gb ||| z4), .int z21]) (rest := []) ⟨hx, hb, hml, hown, hts⟩ (k_isOn l G H.size z21 (e_gb ||| z4) ⟨by omega, by omega⟩) ⟨va_cnB 2 hts gW_X11_isOn rfl rfl rfl (hN.1 _ g5_nw_X5_77) (hts _ ini_X11) hs_X11_isOn ⟨Nat.le_of_ble_eq_true rfl, Nat.le_of_ble_eq_true rfl⟩, hts _ st_X11_isOn, trivial⟩ (g5_preS hPc hK hDc hN hT hS hFc) rfl rfl hl.1 rfl (lv_room (Nat.le_of_ble_eq_true rfl)) dX5_run_211 ⟨Nat.le_of_ble_eq_true rfl, Nat.le_of_ble_eq_true rfl⟩) hS (fun q _ h => hFc q h) hFc (fun r u t H locs ht hvm hw hB hz1 hk1 hS => ?_)
                      obtain ⟨hP1, hD1⟩ := hB
                      have hP1 := g5_ht ht hP1
                      rcases hw with ⟨(i_42 : onB (e_gb ||| z4) z21.toInt = false), rfl, rfl⟩ | ⟨(i_43 : onB (e_gb ||| z4) z21.toInt = true), rfl, rfl⟩
                      ·
                        have hJ9 := g5_same hP hk1
                        clear hP hPc hDc hFc ht hvm hz1 hk1 hP1 hD1
                        have hP := hJ9
                        clear hJ9
                        refine lv_if_eq (tgt := 221) hx hb dX5_run_214 (by decide +kernel) (fun c_44 => ?_) (fun c_44 => ?_)
                        ·
                          refine lv_iinc (v := (k_i + 1)) (lv' := [(7, .int (k_i + 1)), (8, .int z21), (5, .long (e_gb ||| z4)), (0, .ref a_k), (1, .int p_c), (2, .int p_w), (3, .int p_h), (4, .int p_u)]) hx hb dX5_run_221 hl (k := 1) rfl rfl (by decide +kernel) rfl ?_
                          clear hl
                          intro ls hl
                          have t_45 : (k_i + 1).toInt = k_i.toInt + 1 := g5_iadd (a := k_i.toInt) (b := 1) rfl (by decide +kernel) (by omega) (by omega)
                          refine lv_goto (tgt := 78) hx hb dX5_run_224 (by decide +kernel) ?_
                          exact ih_78_16 ((k_i + 1), (k_i + 1), z36, k_ho, k_br, k_we, k_me, z21, k_wy, k_ho, z37, (upd k_pt k_i.toNatClampNeg ((k_ho * 64) + z21)), z38, z39) ls H locs (show Int.toNat (200 - (k_i + 1).toInt) < Int.toNat (200 - k_i.toInt) from g_up (show k_i.toInt < (k_i + 1).toInt by omega) (show k_i.toInt < 200 by omega)) ⟨lv_sub hl [0, 2, 3, 4, 5, 6, 7] rfl, hP.sub [0, 1, 8, 9, 2, 10, 11, 12, 13, 14, 15, 16, 17, 3, 6, 7, 4, 5] rfl, hD.sub [0, 1, 8, 9, 2, 10, 11, 12, 13, 14, 15, 16, 17, 3, 6, 7, 4, 5] (by decide +kernel) rfl, hS, ⟨by omega, by omega⟩, ⟨by omega, by omega⟩, ⟨by omega, by omega⟩, i_9, ⟨by omega, by omega⟩, i_11, i_12, i_35, by omega, g_rows (k := k_i) (fun j hj => i_15 j (by omega)) (by omega) (by omega) (by omega)⟩
                        ·
                          exact absurd c_44 (by decide +kernel)
                      ·
                        have hJ9 := g5_same hP hk1
                        clear hP hPc hDc hFc ht hvm hz1 hk1 hP1 hD1
                        have hP := hJ9
                        clear hJ9
                        refine lv_if_eq (tgt := 221) hx hb dX5_run_214 (by decide +kernel) (fun c_46 => ?_) (fun c_46 => ?_)
                        ·
                          exact absurd c_46 (by decide +kernel)
                        ·
                          have hin_47 : inR f_g e_g.toInt z21.toInt ∨ inR f_p e_p.toInt z21.toInt := g_inor e_gi i_3 (by omega) (by omega) i_43
                          refine lv_aload_n hx hb dX5_run_217 rfl (lv_at hl 3 rfl) ?_
                          obtain ⟨hPc, hDc, hFc⟩ := g5_sub3 (wc := [(a_k, (oc5 a_h a_j a_pt (k_i + 1) z36 k_ho k_br k_we k_me z21 k_wy k_ho z37)), (a_h, (oc1 e_wa e_le e_st e_fo e_lc a_l a_g a_b a_s a_p a_w e_gb a_bb)), (a_g, (oc6 6 5 a_gn e_g)), (a_gn, (arI G 30 f_g)), (a_p, (oc6 8 5 a_pn e_p)), (a_pn, (arI G 40 f_p)), (a_j, (oc2 a_as a_sk)), (a_as, (arI G 8 z38)), (a_sk, (arJ G 50 z39)), (a_l, (arW G 6 f_l)), (a_lo, (oc3 e_cl a_hd a_sr a_cd)), (a_sr, (arI G n_sr f_sr)), (a_cd, (arI G n_cd f_cd)), (a_hd, (arI G n_hd f_hd))]) hP hD hS hA [6, 7, 0, 1, 4, 5, 10, 11, 12, 13, 14, 15, 16, 17] (by decide +kernel) rfl
                          refine va_callv (va_runV (As := []) (rest := []) ⟨hx, hb, hml, hown, hts⟩ (k_meetGlassL l G a_k a_h a_g a_gn a_p a_pn a_j a_as a_sk a_l a_lo a_sr a_cd a_hd a_pt a_b a_s a_w a_bb H.size (k_i + 1) z36 k_ho k_br k_we k_me z21 k_wy k_ho z37 e_le e_st e_fo e_lc e_g e_p e_cl e_wa e_gb f_g f_p z38 z39 f_l f_sr f_cd f_hd n_sr n_cd n_hd i_9 ⟨by omega, by omega⟩ i_11 i_12 i_35 h_e_g h_e_p h_e_cl (e_gk) (e_pk) (hin_47) (e_f) (e_a) (e_hn) (e_hs) (e_hk) (e_c)) (cwV 0 hts gV_X5_88 rfl rfl rfl hv_X5_meetGlass ⟨Nat.le_of_ble_eq_true rfl, Nat.le_of_ble_eq_true rfl⟩) (g5_preV hPc hK hDc hN hT hS hFc (ci := 5) (q0 := 0) rfl rfl) rfl rfl hl.1 rfl (lv_room (Nat.le_of_ble_eq_true rfl)) dX5_run_218 ⟨Nat.le_of_ble_eq_true rfl, Nat.le_of_ble_eq_true rfl⟩) hS (fun q _ h => hFc q h) hFc (fun u t H locs ht hvm hw hB hz1 hk1 hS => ?_)
                          obtain ⟨hP1, hD1⟩ := hB
                          have hP1 := g5_ht ht hP1
                          obtain ⟨z52, z53, z54, z55, z56, z57, z58, z59, (i_48 : 0 ≤ z52.toInt ∧ z52.toInt ≤ 1000000), (i_49 : 0 ≤ z55.toInt ∧ z55.toInt ≤ 3), (i_50 : 0 ≤ z56.toInt ∧ z56.toInt ≤ 23), (i_51 : 0 ≤ z57.toInt ∧ z57.toInt ≤ 1), rfl⟩ := hw
                          have hJ9 := va_join (wr := [(a_bb, (arJ G 24 f_bb)), (a_pt, (arI G 200 (upd k_pt k_i.toNatClampNeg ((k_ho * 64) + z21)))), (a_b, (oc6 5 24 a_bn e_b)), (a_bn, (arI G 120 f_b))]) hP hD [6, 7, 0, 1, 4, 5, 10, 11, 12, 13, 14, 15, 16, 17] [2, 3, 8, 9] rfl rfl (by decide +kernel) (by decide +kernel) hk1 hFc hP1 hD1
                          clear hP hD hPc hDc hFc ht hvm hz1 hk1 hP1 hD1
                          obtain ⟨hP, hD⟩ := hJ9
                          refine g5_rs [(a_bb, (arJ G 24 f_bb)), (a_pt, (arI G 200 (upd k_pt k_i.toNatClampNeg ((k_ho * 64) + z21)))), (a_b, (oc6 5 24 a_bn e_b)), (a_bn, (arI G 120 f_b)), (a_k, (oc5 a_h a_j a_pt (k_i + 1) z36 k_ho z52 z53 z54 z21 z55 z56 z57)), (a_h, (oc1 e_wa e_le e_st e_fo e_lc a_l a_g a_b a_s a_p a_w e_gb a_bb)), (a_g, (oc6 6 5 a_gn e_g)), (a_gn, (arI G 30 f_g)), (a_p, (oc6 8 5 a_pn e_p)), (a_pn, (arI G 40 f_p)), (a_j, (oc2 a_as a_sk)), (a_as, (arI G 8 z58)), (a_sk, (arJ G 50 z59)), (a_l, (arW G 6 f_l)), (a_lo, (oc3 e_cl a_hd a_sr a_cd)), (a_sr, (arI G n_sr f_sr)), (a_cd, (arI G n_cd f_cd)), (a_hd, (arI G n_hd f_hd))] hP hD ?_
                          clear hP hD
                          intro hP hD
                          refine lv_iinc (v := (k_i + 1)) (lv' := [(7, .int (k_i + 1)), (8, .int z21), (5, .long (e_gb ||| z4)), (0, .ref a_k), (1, .int p_c), (2, .int p_w), (3, .int p_h), (4, .int p_u)]) hx hb dX5_run_221 hl (k := 1) rfl rfl (by decide +kernel) rfl ?_
                          clear hl
                          intro ls hl
                          have t_60 : (k_i + 1).toInt = k_i.toInt + 1 := g5_iadd (a := k_i.toInt) (b := 1) rfl (by decide +kernel) (by omega) (by omega)
                          refine lv_goto (tgt := 78) hx hb dX5_run_224 (by decide +kernel) ?_
                          exact ih_78_16 ((k_i + 1), (k_i + 1), z36, k_ho, z52, z53, z54, z21, z55, z56, z57, (upd k_pt k_i.toNatClampNeg ((k_ho * 64) + z21)), z58, z59) ls H locs (show Int.toNat (200 - (k_i + 1).toInt) < Int.toNat (200 - k_i.toInt) from g_up (show k_i.toInt < (k_i + 1).toInt by omega) (show k_i.toInt < 200 by omega)) ⟨lv_sub hl [0, 2, 3, 4, 5, 6, 7] rfl, hP.sub [6, 7, 2, 3, 0, 10, 11, 12, 13, 14, 15, 16, 17, 1, 4, 5, 8, 9] rfl, hD.sub [6, 7, 2, 3, 0, 10, 11, 12, 13, 14, 15, 16, 17, 1, 4, 5, 8, 9] (by decide +kernel) rfl, hS, ⟨by omega, by omega⟩, ⟨by omega, by omega⟩, ⟨by omega, by omega⟩, i_48, ⟨by omega, by omega⟩, i_49, i_50, i_51, by omega, g_rows (k := k_i) (fun j hj => i_15 j (by omega)) (by omega) (by omega) (by omega)⟩
              ·
                exact absurd c_26 (by decide +kernel)
            ·
              have hJ9 := g5_same hP hk1
              clear hP hPc hDc hFc ht hvm hz1 hk1 hP1 hD1
              have hP := hJ9
              clear hJ9
              refine lv_if_eq (tgt := 128) hx hb dX5_run_124 (by decide +kernel) (fun c_61 => ?_) (fun c_61 => ?_)
              ·
                exact absurd c_61 (by decide +kernel)
              ·
                exact W.vret hx hb hr (fun t ht hW => ⟨⟨[(a_k, (oc5 a_h a_j a_pt k_ln k_se k_lh k_br k_we k_me k_ce k_wy k_ho k_ov)), (a_h, (oc1 e_wa e_le e_st e_fo e_lc a_l a_g a_b a_s a_p a_w e_gb a_bb)), (a_g, (oc6 6 5 a_gn e_g)), (a_gn, (arI G 30 f_g)), (a_b, (oc6 5 24 a_bn e_b)), (a_bn, (arI G 120 f_b)), (a_p, (oc6 8 5 a_pn e_p)), (a_pn, (arI G 40 f_p)), (a_bb, (arJ G 24 f_bb)), (a_j, (oc2 a_as a_sk)), (a_as, (arI G 8 k_as)), (a_sk, (arJ G 50 k_sk)), (a_l, (arW G 6 f_l)), (a_lo, (oc3 e_cl a_hd a_sr a_cd)), (a_sr, (arI G n_sr f_sr)), (a_cd, (arI G n_cd f_cd)), (a_hd, (arI G n_hd f_hd)), (a_pt, (arI G 200 k_pt))], rfl, ⟨k_ln, k_se, k_lh, k_br, k_we, k_me, k_ce, k_wy, k_ho, k_ov, k_pt, k_as, k_sk, i_7, i_13, i_15, rfl⟩, by rw [ht]; exact hP.sub [14, 15, 0, 1, 2, 3, 16, 17, 4, 5, 6, 7, 8, 9, 10, 11, 12, 13] rfl, hD.sub [14, 15, 0, 1, 2, 3, 16, 17, 4, 5, 6, 7, 8, 9, 10, 11, 12, 13] (by decide +kernel) rfl⟩, hS.F ht⟩) hS.2.2 dX5_run_127
    ·
      exact absurd c_2 (by decide +kernel)
  ·
    have hJ9 := g5_same hP hk1
    clear hP hPc hDc hFc ht hvm hz1 hk1 hP1 hD1
    have hP := hJ9
    clear hJ9
    refine lv_if_ne (tgt := 55) hx hb dX5_run_48 (by decide +kernel) (fun c_62 => ?_) (fun c_62 => ?_)
    ·
      exact absurd c_62 (by decide +kernel)
    ·
      refine lv_iconst (v := 1) hx hb dX5_run_51 (by decide +kernel) ?_
      refine lv_goto (tgt := 56) hx hb dX5_run_52 (by decide +kernel) ?_
      refine va_put (D := G.1) (ci := 5) (v := .int 1) (ty := .boolean) (C := RX5) (T := TX5) (N := 13) hx hb hts inG_X5 tyX5 tyX5_ok nmX5 hown hK hP hD hS 0 rfl rfl 12 (by decide +kernel) (hts _ fl_X5_56) (fun _ h9 => h9) rfl (by decide +kernel) rfl rfl (Nat.le_of_ble_eq_true rfl) dX5_run_56 ?_
      clear hP hD hS
      intro H locs hP hD hS
      refine g5_rs [(a_k, (oc5 a_h a_j a_pt 0 (-1) (-1) 1000000 0 e_me p_c p_w p_h 1)), (a_h, (oc1 e_wa e_le e_st e_fo e_lc a_l a_g a_b a_s a_p a_w e_gb a_bb)), (a_g, (oc6 6 5 a_gn e_g)), (a_gn, (arI G 30 f_g)), (a_b, (oc6 5 24 a_bn e_b)), (a_bn, (arI G 120 f_b)), (a_p, (oc6 8 5 a_pn e_p)), (a_pn, (arI G 40 f_p)), (a_bb, (arJ G 24 f_bb)), (a_j, (oc2 a_as a_sk)), (a_as, (arI G 8 f_as)), (a_sk, (arJ G 50 f_sk)), (a_l, (arW G 6 f_l)), (a_lo, (oc3 e_cl a_hd a_sr a_cd)), (a_sr, (arI G n_sr f_sr)), (a_cd, (arI G n_cd f_cd)), (a_hd, (arI G n_hd f_hd)), (a_pt, (arI G 200 f_pt))] hP hD ?_
      clear hP hD
      intro hP hD
      refine lv_aload_n hx hb dX5_run_59 rfl (lv_at hl 0 rfl) ?_
      refine W.eq (g2 := F0 m 60 ls [.ref a_k]) rfl ?_
      refine va_get (D := G.1) (ci := 5) (v := .ref a_h) (C := RX5) (T := TX5) (N := 13) hx hb hts inG_X5 hown hK hP 0 rfl rfl 0 (by decide +kernel) (hts _ fl_X5_22) (fun _ h9 => h9) rfl dX5_run_60 ?_
      refine va_get (D := G.1) (ci := 1) (v := .long e_gb) (C := RX1) (T := TX1) (N := 13) hx hb hts inG_X1 hown hK hP 1 rfl rfl 11 (by decide +kernel) (hts _ fl_X5_60) (fun _ h9 => h9) rfl dX5_run_63 ?_
      refine lv_aload_n hx hb dX5_run_66 rfl (lv_at hl 0 rfl) ?_
      refine lv_iload hx hb dX5_run_67 (lv_at hl 4 rfl) ?_
      obtain ⟨hPc, hDc, hFc⟩ := g5_sub3 (wc := [(a_k, (oc5 a_h a_j a_pt 0 (-1) (-1) 1000000 0 e_me p_c p_w p_h 1)), (a_h, (oc1 e_wa e_le e_st e_fo e_lc a_l a_g a_b a_s a_p a_w e_gb a_bb)), (a_p, (oc6 8 5 a_pn e_p)), (a_pn, (arI G 40 f_p))]) hP hD hS hA [0, 1, 6, 7] (by decide +kernel) rfl
      refine va_calll (va_runV (As := [.int p_u]) (rest := [.long e_gb]) ⟨hx, hb, hml, hown, hts⟩ (k_hung l G a_k a_h a_p a_pn a_j a_pt a_l a_g a_b a_s a_w a_bb H.size e_le e_st e_fo e_lc e_p 0 (-1) (-1) 1000000 0 e_me p_c p_w p_h 1 p_u e_wa e_gb f_p h_e_p ⟨by decide, by decide⟩ (gOK_cell e_pk)) (cwV 1 hts gV_X5_66 rfl rfl rfl hv_X5_hungBoard ⟨Nat.le_of_ble_eq_true rfl, Nat.le_of_ble_eq_true rfl⟩) (g5_preV hPc hK hDc hN hT hS hFc (ci := 5) (q0 := 0) rfl rfl) rfl rfl hl.1 rfl (lv_room (Nat.le_of_ble_eq_true rfl)) dX5_run_69 ⟨Nat.le_of_ble_eq_true rfl, Nat.le_of_ble_eq_true rfl⟩) hS (fun q _ h => hFc q h) hFc (fun r u t H locs ht hvm hw hB hz1 hk1 hS => ?_)
      obtain ⟨hP1, hD1⟩ := hB
      have hP1 := g5_ht ht hP1
      obtain ⟨z64, (i_63 : inT z64 f_p e_p.toInt), y65, rfl⟩ := hw
      have hJ9 := va_join (wr := [(a_g, (oc6 6 5 a_gn e_g)), (a_gn, (arI G 30 f_g)), (a_b, (oc6 5 24 a_bn e_b)), (a_bn, (arI G 120 f_b)), (a_bb, (arJ G 24 f_bb)), (a_j, (oc2 a_as a_sk)), (a_as, (arI G 8 f_as)), (a_sk, (arJ G 50 f_sk)), (a_l, (arW G 6 f_l)), (a_lo, (oc3 e_cl a_hd a_sr a_cd)), (a_sr, (arI G n_sr f_sr)), (a_cd, (arI G n_cd f_cd)), (a_hd, (arI G n_hd f_hd)), (a_pt, (arI G 200 f_pt))]) hP hD [0, 1, 6, 7] [2, 3, 4, 5, 8, 9, 10, 11, 12, 13, 14, 15, 16, 17] rfl rfl (by decide +kernel) (by decide +kernel) hk1 hFc hP1 hD1
      clear hP hD hPc hDc hFc ht hvm hz1 hk1 hP1 hD1
      obtain ⟨hP, hD⟩ := hJ9
      refine g5_rs [(a_g, (oc6 6 5 a_gn e_g)), (a_gn, (arI G 30 f_g)), (a_b, (oc6 5 24 a_bn e_b)), (a_bn, (arI G 120 f_b)), (a_bb, (arJ G 24 f_bb)), (a_j, (oc2 a_as a_sk)), (a_as, (arI G 8 f_as)), (a_sk, (arJ G 50 f_sk)), (a_l, (arW G 6 f_l)), (a_lo, (oc3 e_cl a_hd a_sr a_cd)), (a_sr, (arI G n_sr f_sr)), (a_cd, (arI G n_cd f_cd)), (a_hd, (arI G n_hd f_hd)), (a_pt, (arI G 200 f_pt)), (a_k, (oc5 a_h a_j a_pt 0 (-1) (-1) 1000000 0 e_me p_c p_w p_h 1)), (a_h, (oc1 e_wa e_le e_st e_fo e_lc a_l a_g a_b a_s a_p a_w e_gb a_bb)), (a_p, (oc6 8 5 a_pn e_p)), (a_pn, (arI G 40 f_p))] hP hD ?_
      clear hP hD
      intro hP hD
      refine g5_tl (v := z64) y65 ?_
      refine W.eq (g2 := F0 m 72 ls [.long z64, .long e_gb]) rfl ?_
      refine lv_lor hx hb dX5_run_72 ?_
      refine lv_lstore (lv' := [(5, .long (e_gb ||| z64)), (0, .ref a_k), (1, .int p_c), (2, .int p_w), (3, .int p_h), (4, .int p_u)]) hx hb dX5_run_73 hl (by decide +kernel) rfl ?_
      clear hl
      intro ls hl
      refine lv_iconst (v := 0) hx hb dX5_run_75 (by decide +kernel) ?_
      refine lv_istore (lv' := [(7, .int 0), (5, .long (e_gb ||| z64)), (0, .ref a_k), (1, .int p_c), (2, .int p_w), (3, .int p_h), (4, .int p_u)]) hx hb dX5_run_76 hl (by decide +kernel) rfl ?_
      clear hl
      intro ls hl
      refine lv_iload hx hb dX5_run_78 (lv_at hl 0 rfl) ?_
      refine W.eq (g2 := F0 m 80 ls [.int 0]) rfl ?_
      refine lv_sipush (v := 200) hx hb dX5_run_80 (by decide +kernel) ?_
      refine lv_icmp_ge (tgt := 227) hx hb dX5_run_83 (by decide +kernel) (fun c_66 => ?_) (fun c_66 => ?_)
      ·
        exact absurd c_66 (by decide +kernel)
      ·
        refine lv_aload_n hx hb dX5_run_86 rfl (lv_at hl 2 rfl) ?_
        refine va_get (D := G.1) (ci := 5) (v := .int 1) (C := RX5) (T := TX5) (N := 13) hx hb hts inG_X5 hown hK hP 14 rfl rfl 12 (by decide +kernel) (hts _ fl_X5_56) (fun _ h9 => h9) rfl dX5_run_87 ?_
        refine lv_if_ne (tgt := 227) hx hb dX5_run_90 (by decide +kernel) (fun c_67 => ?_) (fun c_67 => ?_)
        ·
          exact W.vret hx hb hr (fun t ht hW => ⟨⟨[(a_k, (oc5 a_h a_j a_pt 0 (-1) (-1) 1000000 0 e_me p_c p_w p_h 1)), (a_h, (oc1 e_wa e_le e_st e_fo e_lc a_l a_g a_b a_s a_p a_w e_gb a_bb)), (a_g, (oc6 6 5 a_gn e_g)), (a_gn, (arI G 30 f_g)), (a_b, (oc6 5 24 a_bn e_b)), (a_bn, (arI G 120 f_b)), (a_p, (oc6 8 5 a_pn e_p)), (a_pn, (arI G 40 f_p)), (a_bb, (arJ G 24 f_bb)), (a_j, (oc2 a_as a_sk)), (a_as, (arI G 8 f_as)), (a_sk, (arJ G 50 f_sk)), (a_l, (arW G 6 f_l)), (a_lo, (oc3 e_cl a_hd a_sr a_cd)), (a_sr, (arI G n_sr f_sr)), (a_cd, (arI G n_cd f_cd)), (a_hd, (arI G n_hd f_hd)), (a_pt, (arI G 200 f_pt))], rfl, ⟨0, (-1), (-1), 1000000, 0, e_me, p_c, p_w, p_h, 1, f_pt, f_as, f_sk, ⟨by have zc_o_ln : (0 : Int32).toInt = 0 := (by decide +kernel); omega, by have zc_o_ln : (0 : Int32).toInt = 0 := (by decide +kernel); omega⟩, ⟨by have zc_o_ov : (1 : Int32).toInt = 1 := (by decide +kernel); omega, by have zc_o_ov : (1 : Int32).toInt = 1 := (by decide +kernel); omega⟩, fun j h => absurd h (by have z : (0 : Int32).toInt = 0 := (by decide +kernel); omega), rfl⟩, by rw [ht]; exact hP.sub [14, 15, 0, 1, 2, 3, 16, 17, 4, 5, 6, 7, 8, 9, 10, 11, 12, 13] rfl, hD.sub [14, 15, 0, 1, 2, 3, 16, 17, 4, 5, 6, 7, 8, 9, 10, 11, 12, 13] (by decide +kernel) rfl⟩, hS.F ht⟩) hS.2.2 dX5_run_227
        ·
          exact absurd c_67 (by decide +kernel)
theorem dgX5_bodiesFrom_0 : ∀ r ∈ ([(0, (.iconst 0, 1)), (1, (.istore_n 3, 1)), (2, (.iconst 0, 1)), (3, (.istore 4, 2)), (5, (.iload 4, 2)), (7, (.iconst 4, 1)), (8, (.if_icmp .ge 39, 3)), (11, (.aload_n 0, 1)), (12, (.iload_n 1, 1)), (13, (.iload 4, 2)), (15, (.iload_n 2, 1)), (16, (.iconst 0, 1)), (17, (.invokevirtual 91, 3)), (20, (.iload_n 3, 1)), (21, (.aload_n 0, 1)), (22, (.getfield 39, 3)), (25, (.iconst (-1), 1)), (26, (.if_icmp .ne 7, 3)), (29, (.iconst 0, 1)), (30, (.goto 9, 3)), (33, (.iconst 1, 1)), (34, (.aload_n 0, 1)), (35, (.getfield 39, 3)), (38, (.ishl, 1)), (39, (.ior, 1)), (40, (.istore_n 3, 1)), (41, (.iinc 4 1, 3)), (44, (.goto (-39), 3)), (47, (.iload_n 3, 1)), (48, (.ireturn, 1))] : List (Nat × (Instr × Nat))), decode cX5_bodiesFrom r.1 = .ok r.2 := by decide +kernel
theorem dX5_bodiesFrom_0 : decode cX5_bodiesFrom 0 = .ok (.iconst 0, 1) := dgX5_bodiesFrom_0 (0, (.iconst 0, 1)) (List.mem_of_getElem? (i := 0) rfl)
theorem dX5_bodiesFrom_1 : decode cX5_bodiesFrom 1 = .ok (.istore_n 3, 1) := dgX5_bodiesFrom_0 (1, (.istore_n 3, 1)) (List.mem_of_getElem? (i := 1) rfl)
theorem dX5_bodiesFrom_2 : decode cX5_bodiesFrom 2 = .ok (.iconst 0, 1) := dgX5_bodiesFrom_0 (2, (.iconst 0, 1)) (List.mem_of_getElem? (i := 2) rfl)
theorem dX5_bodiesFrom_3 : decode cX5_bodiesFrom 3 = .ok (.istore 4, 2) := dgX5_bodiesFrom_0 (3, (.istore 4, 2)) (List.mem_of_getElem? (i := 3) rfl)
theorem dX5_bodiesFrom_5 : decode cX5_bodiesFrom 5 = .ok (.iload 4, 2) := dgX5_bodiesFrom_0 (5, (.iload 4, 2)) (List.mem_of_getElem? (i := 4) rfl)
theorem dX5_bodiesFrom_7 : decode cX5_bodiesFrom 7 = .ok (.iconst 4, 1) := dgX5_bodiesFrom_0 (7, (.iconst 4, 1)) (List.mem_of_getElem? (i := 5) rfl)
theorem dX5_bodiesFrom_8 : decode cX5_bodiesFrom 8 = .ok (.if_icmp .ge 39, 3) := dgX5_bodiesFrom_0 (8, (.if_icmp .ge 39, 3)) (List.mem_of_getElem? (i := 6) rfl)
theorem dX5_bodiesFrom_11 : decode cX5_bodiesFrom 11 = .ok (.aload_n 0, 1) := dgX5_bodiesFrom_0 (11, (.aload_n 0, 1)) (List.mem_of_getElem? (i := 7) rfl)
theorem dX5_bodiesFrom_12 : decode cX5_bodiesFrom 12 = .ok (.iload_n 1, 1) := dgX5_bodiesFrom_0 (12, (.iload_n 1, 1)) (List.mem_of_getElem? (i := 8) rfl)
theorem dX5_bodiesFrom_13 : decode cX5_bodiesFrom 13 = .ok (.iload 4, 2) := dgX5_bodiesFrom_0 (13, (.iload 4, 2)) (List.mem_of_getElem? (i := 9) rfl)
theorem dX5_bodiesFrom_15 : decode cX5_bodiesFrom 15 = .ok (.iload_n 2, 1) := dgX5_bodiesFrom_0 (15, (.iload_n 2, 1)) (List.mem_of_getElem? (i := 10) rfl)
theorem dX5_bodiesFrom_16 : decode cX5_bodiesFrom 16 = .ok (.iconst 0, 1) := dgX5_bodiesFrom_0 (16, (.iconst 0, 1)) (List.mem_of_getElem? (i := 11) rfl)
theorem dX5_bodiesFrom_17 : decode cX5_bodiesFrom 17 = .ok (.invokevirtual 91, 3) := dgX5_bodiesFrom_0 (17, (.invokevirtual 91, 3)) (List.mem_of_getElem? (i := 12) rfl)
theorem dX5_bodiesFrom_20 : decode cX5_bodiesFrom 20 = .ok (.iload_n 3, 1) := dgX5_bodiesFrom_0 (20, (.iload_n 3, 1)) (List.mem_of_getElem? (i := 13) rfl)
theorem dX5_bodiesFrom_21 : decode cX5_bodiesFrom 21 = .ok (.aload_n 0, 1) := dgX5_bodiesFrom_0 (21, (.aload_n 0, 1)) (List.mem_of_getElem? (i := 14) rfl)
theorem dX5_bodiesFrom_22 : decode cX5_bodiesFrom 22 = .ok (.getfield 39, 3) := dgX5_bodiesFrom_0 (22, (.getfield 39, 3)) (List.mem_of_getElem? (i := 15) rfl)
theorem dX5_bodiesFrom_25 : decode cX5_bodiesFrom 25 = .ok (.iconst (-1), 1) := dgX5_bodiesFrom_0 (25, (.iconst (-1), 1)) (List.mem_of_getElem? (i := 16) rfl)
theorem dX5_bodiesFrom_26 : decode cX5_bodiesFrom 26 = .ok (.if_icmp .ne 7, 3) := dgX5_bodiesFrom_0 (26, (.if_icmp .ne 7, 3)) (List.mem_of_getElem? (i := 17) rfl)
theorem dX5_bodiesFrom_29 : decode cX5_bodiesFrom 29 = .ok (.iconst 0, 1) := dgX5_bodiesFrom_0 (29, (.iconst 0, 1)) (List.mem_of_getElem? (i := 18) rfl)
theorem dX5_bodiesFrom_30 : decode cX5_bodiesFrom 30 = .ok (.goto 9, 3) := dgX5_bodiesFrom_0 (30, (.goto 9, 3)) (List.mem_of_getElem? (i := 19) rfl)
theorem dX5_bodiesFrom_33 : decode cX5_bodiesFrom 33 = .ok (.iconst 1, 1) := dgX5_bodiesFrom_0 (33, (.iconst 1, 1)) (List.mem_of_getElem? (i := 20) rfl)
theorem dX5_bodiesFrom_34 : decode cX5_bodiesFrom 34 = .ok (.aload_n 0, 1) := dgX5_bodiesFrom_0 (34, (.aload_n 0, 1)) (List.mem_of_getElem? (i := 21) rfl)
theorem dX5_bodiesFrom_35 : decode cX5_bodiesFrom 35 = .ok (.getfield 39, 3) := dgX5_bodiesFrom_0 (35, (.getfield 39, 3)) (List.mem_of_getElem? (i := 22) rfl)
theorem dX5_bodiesFrom_38 : decode cX5_bodiesFrom 38 = .ok (.ishl, 1) := dgX5_bodiesFrom_0 (38, (.ishl, 1)) (List.mem_of_getElem? (i := 23) rfl)
theorem dX5_bodiesFrom_39 : decode cX5_bodiesFrom 39 = .ok (.ior, 1) := dgX5_bodiesFrom_0 (39, (.ior, 1)) (List.mem_of_getElem? (i := 24) rfl)
theorem dX5_bodiesFrom_40 : decode cX5_bodiesFrom 40 = .ok (.istore_n 3, 1) := dgX5_bodiesFrom_0 (40, (.istore_n 3, 1)) (List.mem_of_getElem? (i := 25) rfl)
theorem dX5_bodiesFrom_41 : decode cX5_bodiesFrom 41 = .ok (.iinc 4 1, 3) := dgX5_bodiesFrom_0 (41, (.iinc 4 1, 3)) (List.mem_of_getElem? (i := 26) rfl)
theorem dX5_bodiesFrom_44 : decode cX5_bodiesFrom 44 = .ok (.goto (-39), 3) := dgX5_bodiesFrom_0 (44, (.goto (-39), 3)) (List.mem_of_getElem? (i := 27) rfl)
theorem dX5_bodiesFrom_47 : decode cX5_bodiesFrom 47 = .ok (.iload_n 3, 1) := dgX5_bodiesFrom_0 (47, (.iload_n 3, 1)) (List.mem_of_getElem? (i := 28) rfl)
theorem dX5_bodiesFrom_48 : decode cX5_bodiesFrom 48 = .ok (.ireturn, 1) := dgX5_bodiesFrom_0 (48, (.ireturn, 1)) (List.mem_of_getElem? (i := 29) rfl)
theorem ml_X5_91 : Cond.methodLink RX5 91 yX5_run ∈ tblG := tg 882 (by decide +kernel) (by decide +kernel)
theorem im_X5_run : Cond.instanceMethod yX5_run ∈ tblG := tg 812 (by decide +kernel) (by decide +kernel)
theorem se_X5_run : Cond.selects RX5 yX5_run yX5_run ∈ tblG := tg 813 (by decide +kernel) (by decide +kernel)
theorem cd_X5_run : Cond.code yX5_run cX5_run 9 none ∈ tblG := tg 814 (by decide +kernel) (by decide +kernel)
theorem gW_X5_run : GoodIn tblG (wsG yX5_run cX5_run 9 none) := tgi cd_X5_run
theorem gV_X5_91 : GoodIn tblG (wsV RX5 91 RX5 yX5_run (wsG yX5_run cX5_run 9 none)) := tgV ml_X5_91 im_X5_run se_X5_run ini_X5 gW_X5_run
theorem hv_X5_run : yX5_run.cls = RX5 ∧ yX5_run.cls ≠ "java/lang/invoke/MethodHandle" ∧ yX5_run.cls ≠ "java/lang/invoke/VarHandle" ∧ (parseMethodDescriptor yX5_run.desc).map (fun d => d.parameters.length) = some 4 := by decide +kernel
set_option maxHeartbeats 4000000 in
set_option maxRecDepth 100000 in
theorem s_bodiesFromN (l : Launch) (G : g5_G) (a_k a_h a_g a_gn a_b a_bn a_p a_pn a_bb a_j a_as a_sk a_l a_pt a_s a_w : Nat) (sz : Nat) (e_le : Int32) (e_st : Int32) (e_fo : Int32) (e_lc : Int32) (e_g : Int32) (e_b : Int32) (e_p : Int32) (e_ln : Int32) (e_se : Int32) (e_lh : Int32) (e_br : Int32) (e_we : Int32) (e_me : Int32) (e_ce : Int32) (e_wy : Int32) (e_ho : Int32) (e_ov : Int32) (p_c : Int32) (p_h : Int32) (e_wa : Int64) (e_gb : Int64) (f_g : Nat → Int32) (f_b : Nat → Int32) (f_p : Nat → Int32) (f_bb : Nat → Int64) (f_as : Nat → Int32) (f_sk : Nat → Int64) (f_l : Nat → Option Nat) (f_pt : Nat → Int32) (h_e_g : 0 ≤ e_g.toInt ∧ e_g.toInt ≤ 6) (h_e_b : 0 ≤ e_b.toInt ∧ e_b.toInt ≤ 5) (h_e_p : 0 ≤ e_p.toInt ∧ e_p.toInt ≤ 8) (h_e_ov : 0 ≤ e_ov.toInt ∧ e_ov.toInt ≤ 1) (e_gk : gOK f_g e_g.toInt) (e_pk : gOK f_p e_p.toInt) (e_gi : inT e_gb f_g e_g.toInt) (e_f : e_fo.toInt < 0 ∨ e_lc.toInt ≤ e_fo.toInt) : Met l yX5_bodiesFrom (wsG yX5_bodiesFrom cX5_bodiesFrom 5 (some .int)) ({ frames := 14, cells := 0, slots := 0, locals := 556 }) (va_Pc [.ref a_k, .int p_c, .int p_h] (g5_P G [(a_k, (oc5 a_h a_j a_pt e_ln e_se e_lh e_br e_we e_me e_ce e_wy e_ho e_ov)), (a_h, (oc1 e_wa e_le e_st e_fo e_lc a_l a_g a_b a_s a_p a_w e_gb a_bb)), (a_g, (oc6 6 5 a_gn e_g)), (a_gn, (arI G 30 f_g)), (a_b, (oc6 5 24 a_bn e_b)), (a_bn, (arI G 120 f_b)), (a_p, (oc6 8 5 a_pn e_p)), (a_pn, (arI G 40 f_p)), (a_bb, (arJ G 24 f_bb)), (a_j, (oc2 a_as a_sk)), (a_as, (arI G 8 f_as)), (a_sk, (arJ G 50 f_sk)), (a_l, (arW G 6 f_l)), (a_pt, (arI G 200 f_pt))] sz)) (va_Qi (fun (r : Int32) (u : va_W) => (∃ (o_r : Int32) (o_ln : Int32) (o_se : Int32) (o_lh : Int32) (o_br : Int32) (o_we : Int32) (o_me : Int32) (o_ce : Int32) (o_wy : Int32) (o_ho : Int32) (o_ov : Int32) (o_pt : Nat → Int32) (o_as : Nat → Int32) (o_sk : Nat → Int64), (0 ≤ o_ov.toInt ∧ o_ov.toInt ≤ 1) ∧ (r = o_r) ∧ (u = [(a_k, (oc5 a_h a_j a_pt o_ln o_se o_lh o_br o_we o_me o_ce o_wy o_ho o_ov)), (a_h, (oc1 e_wa e_le e_st e_fo e_lc a_l a_g a_b a_s a_p a_w e_gb a_bb)), (a_g, (oc6 6 5 a_gn e_g)), (a_gn, (arI G 30 f_g)), (a_b, (oc6 5 24 a_bn e_b)), (a_bn, (arI G 120 f_b)), (a_p, (oc6 8 5 a_pn e_p)), (a_pn, (arI G 40 f_p)), (a_bb, (arJ G 24 f_bb)), (a_j, (oc2 a_as a_sk)), (a_as, (arI G 8 o_as)), (a_sk, (arJ G 50 o_sk)), (a_l, (arW G 6 f_l)), (a_pt, (arI G 200 o_pt))]))) (g5_B G (va_A [(a_k, (oc5 a_h a_j a_pt e_ln e_se e_lh e_br e_we e_me e_ce e_wy e_ho e_ov)), (a_h, (oc1 e_wa e_le e_st e_fo e_lc a_l a_g a_b a_s a_p a_w e_gb a_bb)), (a_g, (oc6 6 5 a_gn e_g)), (a_gn, (arI G 30 f_g)), (a_b, (oc6 5 24 a_bn e_b)), (a_bn, (arI G 120 f_b)), (a_p, (oc6 8 5 a_pn e_p)), (a_pn, (arI G 40 f_p)), (a_bb, (arJ G 24 f_bb)), (a_j, (oc2 a_as a_sk)), (a_as, (arI G 8 f_as)), (a_sk, (arJ G 50 f_sk)), (a_l, (arW G 6 f_l)), (a_pt, (arI G 200 f_pt))] sz)) (va_A [(a_k, (oc5 a_h a_j a_pt e_ln e_se e_lh e_br e_we e_me e_ce e_wy e_ho e_ov)), (a_h, (oc1 e_wa e_le e_st e_fo e_lc a_l a_g a_b a_s a_p a_w e_gb a_bb)), (a_g, (oc6 6 5 a_gn e_g)), (a_gn, (arI G 30 f_g)), (a_b, (oc6 5 24 a_bn e_b)), (a_bn, (arI G 120 f_b)), (a_p, (oc6 8 5 a_pn e_p)), (a_pn, (arI G 40 f_p)), (a_bb, (arJ G 24 f_bb)), (a_j, (oc2 a_as a_sk)), (a_as, (arI G 8 f_as)), (a_sk, (arJ G 50 f_sk)), (a_l, (arW G 6 f_l)), (a_pt, (arI G 200 f_pt))] sz)) 0 0 (va_A [(a_k, (oc5 a_h a_j a_pt e_ln e_se e_lh e_br e_we e_me e_ce e_wy e_ho e_ov)), (a_h, (oc1 e_wa e_le e_st e_fo e_lc a_l a_g a_b a_s a_p a_w e_gb a_bb)), (a_g, (oc6 6 5 a_gn e_g)), (a_gn, (arI G 30 f_g)), (a_b, (oc6 5 24 a_bn e_b)), (a_bn, (arI G 120 f_b)), (a_p, (oc6 8 5 a_pn e_p)), (a_pn, (arI G 40 f_p)), (a_bb, (arJ G 24 f_bb)), (a_j, (oc2 a_as a_sk)), (a_as, (arI G 8 f_as)), (a_sk, (arJ G 50 f_sk)), (a_l, (arW G 6 f_l)), (a_pt, (arI G 200 f_pt))] sz) := by
  refine Met.ofW (cc := cX5_bodiesFrom) (maxL := 5) (ret := (some .int)) (by decide +kernel) rfl ?_
  intro p e s m args below meth c s₁ B hml hv
  obtain ⟨rfl, hsz, hP, hK, hD0, hN, hT⟩ := hv
  have hx := B.exec
  have hb := B.bytes
  have hr := B.returns
  have hts : ∀ w ∈ tblG, w.before _ s = true := fun w h => atoms_spec (ws := (wsG yX5_bodiesFrom cX5_bodiesFrom 5 (some .int))) B.pre w (List.mem_cons_of_mem _ h)
  have hown : s.vm.findClass RX5 = some m.cls := findClass_of_methodNamed B.named
  have hlocks := B.notSynchronized
  subst hsz
  have hD := hD0.self (sz := s.heap.size)
  generalize hAe : va_A [(a_k, (oc5 a_h a_j a_pt e_ln e_se e_lh e_br e_we e_me e_ce e_wy e_ho e_ov)), (a_h, (oc1 e_wa e_le e_st e_fo e_lc a_l a_g a_b a_s a_p a_w e_gb a_bb)), (a_g, (oc6 6 5 a_gn e_g)), (a_gn, (arI G 30 f_g)), (a_b, (oc6 5 24 a_bn e_b)), (a_bn, (arI G 120 f_b)), (a_p, (oc6 8 5 a_pn e_p)), (a_pn, (arI G 40 f_p)), (a_bb, (arJ G 24 f_bb)), (a_j, (oc2 a_as a_sk)), (a_as, (arI G 8 f_as)), (a_sk, (arJ G 50 f_sk)), (a_l, (arW G 6 f_l)), (a_pt, (arI G 200 f_pt))] s.heap.size = A at hD hT ⊢
  have hA : ∀ q : Nat, s.heap.size ≤ q → A q := fun q h => by rw [← hAe]; exact Or.inr h
  have hS : va_S A s.heap s.heap [] := va_S.rf
  replace hP : va_P G.1 vwCl [(a_k, (oc5 a_h a_j a_pt e_ln e_se e_lh e_br e_we e_me e_ce e_wy e_ho e_ov)), (a_h, (oc1 e_wa e_le e_st e_fo e_lc a_l a_g a_b a_s a_p a_w e_gb a_bb)), (a_g, (oc6 6 5 a_gn e_g)), (a_gn, (arI G 30 f_g)), (a_b, (oc6 5 24 a_bn e_b)), (a_bn, (arI G 120 f_b)), (a_p, (oc6 8 5 a_pn e_p)), (a_pn, (arI G 40 f_p)), (a_bb, (arJ G 24 f_bb)), (a_j, (oc2 a_as a_sk)), (a_as, (arI G 8 f_as)), (a_sk, (arJ G 50 f_sk)), (a_l, (arW G 6 f_l)), (a_pt, (arI G 200 f_pt))] s.heap := hP
  have hl := lv_entry ([.ref a_k, .int p_c, .int p_h]) (n := 5) (Nat.le_of_ble_eq_true rfl)
  rw [lg_entry_eq]
  generalize (lg_sl ([.ref a_k, .int p_c, .int p_h]) ++ List.replicate (5 - (lg_sl ([.ref a_k, .int p_c, .int p_h])).length) Slot.unset).toArray = ls at hl ⊢
  replace hl : lv_has ls 5 [(0, .ref a_k), (1, .int p_c), (2, .int p_h)] := hl
  refine lv_iconst (v := 0) hx hb dX5_bodiesFrom_0 (by decide +kernel) ?_
  refine lv_istore_n (lv' := [(3, .int 0), (0, .ref a_k), (1, .int p_c), (2, .int p_h)]) hx hb dX5_bodiesFrom_1 rfl hl (by decide +kernel) rfl ?_
  clear hl
  intro ls hl
  refine lv_iconst (v := 0) hx hb dX5_bodiesFrom_2 (by decide +kernel) ?_
  refine lv_istore (lv' := [(4, .int 0), (3, .int 0), (0, .ref a_k), (1, .int p_c), (2, .int p_h)]) hx hb dX5_bodiesFrom_3 hl (by decide +kernel) rfl ?_
  clear hl
  intro ls hl
  refine g5_loop (α := (Int32) × (Int32) × (Int32) × (Int32) × (Int32) × (Int32) × (Int32) × (Int32) × (Int32) × (Int32) × (Int32) × (Nat → Int32) × (Nat → Int32) × (Nat → Int64) × (Int32)) (fun (q : (Int32) × (Int32) × (Int32) × (Int32) × (Int32) × (Int32) × (Int32) × (Int32) × (Int32) × (Int32) × (Int32) × (Nat → Int32) × (Nat → Int32) × (Nat → Int64) × (Int32)) (ls : Array Slot) (H : Heap) (locs : List Loc) => match q with | (k_d, k_b, k_se, k_lh, k_br, k_we, k_me, k_ce, k_wy, k_ho, k_ov, k_pt, k_as, k_sk, k_ln) => lv_has ls 5 [(3, .int k_b), (4, .int k_d), (0, .ref a_k), (1, .int p_c), (2, .int p_h)] ∧ va_P G.1 vwCl [(a_k, (oc5 a_h a_j a_pt k_ln k_se k_lh k_br k_we k_me k_ce k_wy k_ho k_ov)), (a_h, (oc1 e_wa e_le e_st e_fo e_lc a_l a_g a_b a_s a_p a_w e_gb a_bb)), (a_g, (oc6 6 5 a_gn e_g)), (a_gn, (arI G 30 f_g)), (a_b, (oc6 5 24 a_bn e_b)), (a_bn, (arI G 120 f_b)), (a_p, (oc6 8 5 a_pn e_p)), (a_pn, (arI G 40 f_p)), (a_bb, (arJ G 24 f_bb)), (a_j, (oc2 a_as a_sk)), (a_as, (arI G 8 k_as)), (a_sk, (arJ G 50 k_sk)), (a_l, (arW G 6 f_l)), (a_pt, (arI G 200 k_pt))] H ∧ va_D A [(a_k, (oc5 a_h a_j a_pt k_ln k_se k_lh k_br k_we k_me k_ce k_wy k_ho k_ov)), (a_h, (oc1 e_wa e_le e_st e_fo e_lc a_l a_g a_b a_s a_p a_w e_gb a_bb)), (a_g, (oc6 6 5 a_gn e_g)), (a_gn, (arI G 30 f_g)), (a_b, (oc6 5 24 a_bn e_b)), (a_bn, (arI G 120 f_b)), (a_p, (oc6 8 5 a_pn e_p)), (a_pn, (arI G 40 f_p)), (a_bb, (arJ G 24 f_bb)), (a_j, (oc2 a_as a_sk)), (a_as, (arI G 8 k_as)), (a_sk, (arJ G 50 k_sk)), (a_l, (arW G 6 f_l)), (a_pt, (arI G 200 k_pt))] ∧ va_S A s.heap H locs ∧ (0 ≤ k_d.toInt ∧ k_d.toInt ≤ 4) ∧ (0 ≤ k_ov.toInt ∧ k_ov.toInt ≤ 1)) (fun (q : (Int32) × (Int32) × (Int32) × (Int32) × (Int32) × (Int32) × (Int32) × (Int32) × (Int32) × (Int32) × (Int32) × (Nat → Int32) × (Nat → Int32) × (Nat → Int64) × (Int32)) => match q with | (k_d, k_b, k_se, k_lh, k_br, k_we, k_me, k_ce, k_wy, k_ho, k_ov, k_pt, k_as, k_sk, k_ln) => Int.toNat (4 - k_d.toInt)) (0, 0, e_se, e_lh, e_br, e_we, e_me, e_ce, e_wy, e_ho, e_ov, f_pt, f_as, f_sk, e_ln) ⟨lv_sub hl [1, 0, 2, 3, 4] rfl, hP, hD, hS, ⟨by decide, by decide⟩, h_e_ov⟩ ?_
  rintro ⟨k_d, k_b, k_se, k_lh, k_br, k_we, k_me, k_ce, k_wy, k_ho, k_ov, k_pt, k_as, k_sk, k_ln⟩ ls H locs ⟨hl, hP, hD, hS, (i_1 : 0 ≤ k_d.toInt ∧ k_d.toInt ≤ 4), (i_2 : 0 ≤ k_ov.toInt ∧ k_ov.toInt ≤ 1)⟩ ih_5_3
  replace hl : lv_has ls 5 [(3, .int k_b), (4, .int k_d), (0, .ref a_k), (1, .int p_c), (2, .int p_h)] := hl
  refine g5_rs [(a_k, (oc5 a_h a_j a_pt k_ln k_se k_lh k_br k_we k_me k_ce k_wy k_ho k_ov)), (a_h, (oc1 e_wa e_le e_st e_fo e_lc a_l a_g a_b a_s a_p a_w e_gb a_bb)), (a_g, (oc6 6 5 a_gn e_g)), (a_gn, (arI G 30 f_g)), (a_b, (oc6 5 24 a_bn e_b)), (a_bn, (arI G 120 f_b)), (a_p, (oc6 8 5 a_pn e_p)), (a_pn, (arI G 40 f_p)), (a_bb, (arJ G 24 f_bb)), (a_j, (oc2 a_as a_sk)), (a_as, (arI G 8 k_as)), (a_sk, (arJ G 50 k_sk)), (a_l, (arW G 6 f_l)), (a_pt, (arI G 200 k_pt))] hP hD ?_
  clear hP hD
  intro hP hD
  refine lv_iload hx hb dX5_bodiesFrom_5 (lv_at hl 1 rfl) ?_
  refine lv_iconst (v := 4) hx hb dX5_bodiesFrom_7 (by decide +kernel) ?_
  refine lv_icmp_ge (tgt := 47) hx hb dX5_bodiesFrom_8 (by decide +kernel) (fun c_4 => ?_) (fun c_4 => ?_)
  ·
    have i_4 : k_d.toInt ≥ 4 := g5_ge (a := k_d.toInt) (b := 4) rfl (by decide +kernel) c_4
    refine lv_iload_n hx hb dX5_bodiesFrom_47 rfl (lv_at hl 0 rfl) ?_
    exact W.iret (v := k_b) hx hb hr (fun t ht hW => ⟨⟨k_b, [(a_k, (oc5 a_h a_j a_pt k_ln k_se k_lh k_br k_we k_me k_ce k_wy k_ho k_ov)), (a_h, (oc1 e_wa e_le e_st e_fo e_lc a_l a_g a_b a_s a_p a_w e_gb a_bb)), (a_g, (oc6 6 5 a_gn e_g)), (a_gn, (arI G 30 f_g)), (a_b, (oc6 5 24 a_bn e_b)), (a_bn, (arI G 120 f_b)), (a_p, (oc6 8 5 a_pn e_p)), (a_pn, (arI G 40 f_p)), (a_bb, (arJ G 24 f_bb)), (a_j, (oc2 a_as a_sk)), (a_as, (arI G 8 k_as)), (a_sk, (arJ G 50 k_sk)), (a_l, (arW G 6 f_l)), (a_pt, (arI G 200 k_pt))], rfl, ⟨k_b, k_ln, k_se, k_lh, k_br, k_we, k_me, k_ce, k_wy, k_ho, k_ov, k_pt, k_as, k_sk, i_2, rfl, rfl⟩, by rw [ht]; exact hP.sub [0, 1, 2, 3, 4, 5, 6, 7, 8, 9, 10, 11, 12, 13] rfl, hD.sub [0, 1, 2, 3, 4, 5, 6, 7, 8, 9, 10, 11, 12, 13] (by decide +kernel) rfl⟩, hS.F ht⟩) hS.2.2 dX5_bodiesFrom_48
  ·
    have i_4 : k_d.toInt < 4 := g5_geN (a := k_d.toInt) (b := 4) rfl (by decide +kernel) c_4
    refine lv_aload_n hx hb dX5_bodiesFrom_11 rfl (lv_at hl 2 rfl) ?_
    refine lv_iload_n hx hb dX5_bodiesFrom_12 rfl (lv_at hl 3 rfl) ?_
    refine lv_iload hx hb dX5_bodiesFrom_13 (lv_at hl 1 rfl) ?_
    refine lv_iload_n hx hb dX5_bodiesFrom_15 rfl (lv_at hl 4 rfl) ?_
    refine W.eq (g2 := F0 m 16 ls [.int p_h, .int k_d, .int p_c, .ref a_k]) rfl ?_
    refine lv_iconst (v := 0) hx hb dX5_bodiesFrom_16 (by decide +kernel) ?_
    obtain ⟨hPc, hDc, hFc⟩ := g5_sub3 (wc := [(a_k, (oc5 a_h a_j a_pt k_ln k_se k_lh k_br k_we k_me k_ce k_wy k_ho k_ov)), (a_h, (oc1 e_wa e_le e_st e_fo e_lc a_l a_g a_b a_s a_p a_w e_gb a_bb)), (a_g, (oc6 6 5 a_gn e_g)), (a_gn, (arI G 30 f_g)), (a_b, (oc6 5 24 a_bn e_b)), (a_bn, (arI G 120 f_b)), (a_p, (oc6 8 5 a_pn e_p)), (a_pn, (arI G 40 f_p)), (a_bb, (arJ G 24 f_bb)), (a_j, (oc2 a_as a_sk)), (a_as, (arI G 8 k_as)), (a_sk, (arJ G 50 k_sk)), (a_l, (arW G 6 f_l)), (a_pt, (arI G 200 k_pt))]) hP hD hS hA [0, 1, 2, 3, 4, 5, 6, 7, 8, 9, 10, 11, 12, 13] (by decide +kernel) rfl
    refine va_callv (va_runV (As := [.int p_c, .int k_d, .int p_h, .int 0]) (rest := []) ⟨hx, hb, hml, hown, hts⟩ (k_runN l G a_k a_h a_g a_gn a_b a_bn a_p a_pn a_bb a_j a_as a_sk a_l a_pt a_s a_w H.size e_le e_st e_fo e_lc e_g e_b e_p k_ln k_se k_lh k_br k_we k_me k_ce k_wy k_ho k_ov p_c k_d p_h 0 e_wa e_gb f_g f_b f_p f_bb k_as k_sk f_l k_pt h_e_g h_e_b h_e_p i_2 (e_gk) (e_pk) (e_gi) (e_f)) (cwV 4 hts gV_X5_91 rfl rfl rfl hv_X5_run ⟨Nat.le_of_ble_eq_true rfl, Nat.le_of_ble_eq_true rfl⟩) (g5_preV hPc hK hDc hN hT hS hFc (ci := 5) (q0 := 0) rfl rfl) rfl rfl hl.1 rfl (lv_room (Nat.le_of_ble_eq_true rfl)) dX5_bodiesFrom_17 ⟨Nat.le_of_ble_eq_true rfl, Nat.le_of_ble_eq_true rfl⟩) hS (fun q _ h => hFc q h) hFc (fun u t H locs ht hvm hw hB hz1 hk1 hS => ?_)
    obtain ⟨hP1, hD1⟩ := hB
    have hP1 := g5_ht ht hP1
    obtain ⟨z8, z9, z10, z11, z12, z13, z14, z15, z16, z17, z18, z19, z20, (i_5 : 0 ≤ z8.toInt ∧ z8.toInt ≤ 200), (i_6 : 0 ≤ z17.toInt ∧ z17.toInt ≤ 1), (i_7 : ∀ j : Nat, (j : Int) < z8.toInt → 0 ≤ (z18 j).toInt ∧ (z18 j).toInt ≤ 1535), rfl⟩ := hw
    have hJ9 := va_join (wr := []) hP hD [0, 1, 2, 3, 4, 5, 6, 7, 8, 9, 10, 11, 12, 13] [] rfl rfl (by decide +kernel) (by decide +kernel) hk1 hFc hP1 hD1
    clear hP hD hPc hDc hFc ht hvm hz1 hk1 hP1 hD1
    obtain ⟨hP, hD⟩ := hJ9
    refine g5_rs [(a_k, (oc5 a_h a_j a_pt z8 z9 z10 z11 z12 z13 z14 z15 z16 z17)), (a_h, (oc1 e_wa e_le e_st e_fo e_lc a_l a_g a_b a_s a_p a_w e_gb a_bb)), (a_g, (oc6 6 5 a_gn e_g)), (a_gn, (arI G 30 f_g)), (a_b, (oc6 5 24 a_bn e_b)), (a_bn, (arI G 120 f_b)), (a_p, (oc6 8 5 a_pn e_p)), (a_pn, (arI G 40 f_p)), (a_bb, (arJ G 24 f_bb)), (a_j, (oc2 a_as a_sk)), (a_as, (arI G 8 z19)), (a_sk, (arJ G 50 z20)), (a_l, (arW G 6 f_l)), (a_pt, (arI G 200 z18))] hP hD ?_
    clear hP hD
    intro hP hD
    refine lv_iload_n hx hb dX5_bodiesFrom_20 rfl (lv_at hl 0 rfl) ?_
    refine lv_aload_n hx hb dX5_bodiesFrom_21 rfl (lv_at hl 2 rfl) ?_
    refine va_get (D := G.1) (ci := 5) (v := .int z9) (C := RX5) (T := TX5) (N := 13) hx hb hts inG_X5 hown hK hP 0 rfl rfl 4 (by decide +kernel) (hts _ fl_X5_39) (fun _ h9 => h9) rfl dX5_bodiesFrom_22 ?_
    refine W.eq (g2 := F0 m 25 ls [.int z9, .int k_b]) rfl ?_
    refine lv_iconst (v := (-1)) hx hb dX5_bodiesFrom_25 (by decide +kernel) ?_
    refine lv_icmp_ne (tgt := 33) hx hb dX5_bodiesFrom_26 (by decide +kernel) (fun c_21 => ?_) (fun c_21 => ?_)
    ·
      have n_21 : gNe (z9.toInt) ((-1)) := g5_ne (a := z9.toInt) (b := (-1)) rfl (by decide +kernel) c_21
      refine lv_iconst (v := 1) hx hb dX5_bodiesFrom_33 (by decide +kernel) ?_
      refine lv_aload_n hx hb dX5_bodiesFrom_34 rfl (lv_at hl 2 rfl) ?_
      refine va_get (D := G.1) (ci := 5) (v := .int z9) (C := RX5) (T := TX5) (N := 13) hx hb hts inG_X5 hown hK hP 0 rfl rfl 4 (by decide +kernel) (hts _ fl_X5_39) (fun _ h9 => h9) rfl dX5_bodiesFrom_35 ?_
      refine lv_ishl hx hb dX5_bodiesFrom_38 ?_
      refine W.eq (g2 := F0 m 39 ls [.int (1 <<< (z9 &&& 31)), .int k_b]) rfl ?_
      refine lv_ior hx hb dX5_bodiesFrom_39 ?_
      refine lv_istore_n (lv' := [(3, .int (k_b ||| (1 <<< (z9 &&& 31)))), (4, .int k_d), (0, .ref a_k), (1, .int p_c), (2, .int p_h)]) hx hb dX5_bodiesFrom_40 rfl hl (by decide +kernel) rfl ?_
      clear hl
      intro ls hl
      refine lv_iinc (v := (k_d + 1)) (lv' := [(4, .int (k_d + 1)), (3, .int (k_b ||| (1 <<< (z9 &&& 31)))), (0, .ref a_k), (1, .int p_c), (2, .int p_h)]) hx hb dX5_bodiesFrom_41 hl (k := 1) rfl rfl (by decide +kernel) rfl ?_
      clear hl
      intro ls hl
      have t_22 : (k_d + 1).toInt = k_d.toInt + 1 := g5_iadd (a := k_d.toInt) (b := 1) rfl (by decide +kernel) (by omega) (by omega)
      refine lv_goto (tgt := 5) hx hb dX5_bodiesFrom_44 (by decide +kernel) ?_
      exact ih_5_3 ((k_d + 1), (k_b ||| (1 <<< (z9 &&& 31))), z9, z10, z11, z12, z13, z14, z15, z16, z17, z18, z19, z20, z8) ls H locs (show Int.toNat (4 - (k_d + 1).toInt) < Int.toNat (4 - k_d.toInt) from g_up (show k_d.toInt < (k_d + 1).toInt by omega) (show k_d.toInt < 4 by omega)) ⟨lv_sub hl [1, 0, 2, 3, 4] rfl, hP, hD, hS, ⟨by omega, by omega⟩, i_6⟩
    ·
      have i_21 : z9.toInt = (-1) := g5_neN (a := z9.toInt) (b := (-1)) rfl (by decide +kernel) c_21
      refine lv_iconst (v := 0) hx hb dX5_bodiesFrom_29 (by decide +kernel) ?_
      refine lv_goto (tgt := 39) hx hb dX5_bodiesFrom_30 (by decide +kernel) ?_
      refine lv_ior hx hb dX5_bodiesFrom_39 ?_
      refine g5_ti (v := k_b) (by simp) ?_
      refine lv_istore_n (lv' := [(3, .int k_b), (4, .int k_d), (0, .ref a_k), (1, .int p_c), (2, .int p_h)]) hx hb dX5_bodiesFrom_40 rfl hl (by decide +kernel) rfl ?_
      clear hl
      intro ls hl
      refine W.eq (g2 := F0 m 41 ls []) rfl ?_
      refine lv_iinc (v := (k_d + 1)) (lv' := [(4, .int (k_d + 1)), (3, .int k_b), (0, .ref a_k), (1, .int p_c), (2, .int p_h)]) hx hb dX5_bodiesFrom_41 hl (k := 1) rfl rfl (by decide +kernel) rfl ?_
      clear hl
      intro ls hl
      have t_23 : (k_d + 1).toInt = k_d.toInt + 1 := g5_iadd (a := k_d.toInt) (b := 1) rfl (by decide +kernel) (by omega) (by omega)
      refine lv_goto (tgt := 5) hx hb dX5_bodiesFrom_44 (by decide +kernel) ?_
      exact ih_5_3 ((k_d + 1), k_b, z9, z10, z11, z12, z13, z14, z15, z16, z17, z18, z19, z20, z8) ls H locs (show Int.toNat (4 - (k_d + 1).toInt) < Int.toNat (4 - k_d.toInt) from g_up (show k_d.toInt < (k_d + 1).toInt by omega) (show k_d.toInt < 4 by omega)) ⟨lv_sub hl [1, 0, 2, 3, 4] rfl, hP, hD, hS, ⟨by omega, by omega⟩, i_6⟩
theorem dgX5_findsBody_0 : ∀ r ∈ ([(0, (.aload_n 0, 1)), (1, (.iconst 0, 1)), (2, (.putfield 95, 3)), (5, (.iconst 0, 1)), (6, (.istore 4, 2)), (8, (.iload 4, 2)), (10, (.iconst 4, 1)), (11, (.if_icmp .ge 28, 3)), (14, (.aload_n 0, 1)), (15, (.iload_n 2, 1)), (16, (.iload 4, 2)), (18, (.iload_n 3, 1)), (19, (.iconst 0, 1)), (20, (.invokevirtual 91, 3)), (23, (.aload_n 0, 1)), (24, (.getfield 39, 3)), (27, (.iload_n 1, 1)), (28, (.if_icmp .ne 5, 3)), (31, (.iconst 1, 1)), (32, (.ireturn, 1)), (33, (.iinc 4 1, 3)), (36, (.goto (-28), 3)), (39, (.iconst 0, 1)), (40, (.ireturn, 1))] : List (Nat × (Instr × Nat))), decode cX5_findsBody r.1 = .ok r.2 := by decide +kernel
theorem dX5_findsBody_0 : decode cX5_findsBody 0 = .ok (.aload_n 0, 1) := dgX5_findsBody_0 (0, (.aload_n 0, 1)) (List.mem_of_getElem? (i := 0) rfl)
theorem dX5_findsBody_1 : decode cX5_findsBody 1 = .ok (.iconst 0, 1) := dgX5_findsBody_0 (1, (.iconst 0, 1)) (List.mem_of_getElem? (i := 1) rfl)
theorem dX5_findsBody_2 : decode cX5_findsBody 2 = .ok (.putfield 95, 3) := dgX5_findsBody_0 (2, (.putfield 95, 3)) (List.mem_of_getElem? (i := 2) rfl)
theorem dX5_findsBody_5 : decode cX5_findsBody 5 = .ok (.iconst 0, 1) := dgX5_findsBody_0 (5, (.iconst 0, 1)) (List.mem_of_getElem? (i := 3) rfl)
theorem dX5_findsBody_6 : decode cX5_findsBody 6 = .ok (.istore 4, 2) := dgX5_findsBody_0 (6, (.istore 4, 2)) (List.mem_of_getElem? (i := 4) rfl)
theorem dX5_findsBody_8 : decode cX5_findsBody 8 = .ok (.iload 4, 2) := dgX5_findsBody_0 (8, (.iload 4, 2)) (List.mem_of_getElem? (i := 5) rfl)
theorem dX5_findsBody_10 : decode cX5_findsBody 10 = .ok (.iconst 4, 1) := dgX5_findsBody_0 (10, (.iconst 4, 1)) (List.mem_of_getElem? (i := 6) rfl)
theorem dX5_findsBody_11 : decode cX5_findsBody 11 = .ok (.if_icmp .ge 28, 3) := dgX5_findsBody_0 (11, (.if_icmp .ge 28, 3)) (List.mem_of_getElem? (i := 7) rfl)
theorem dX5_findsBody_14 : decode cX5_findsBody 14 = .ok (.aload_n 0, 1) := dgX5_findsBody_0 (14, (.aload_n 0, 1)) (List.mem_of_getElem? (i := 8) rfl)
theorem dX5_findsBody_15 : decode cX5_findsBody 15 = .ok (.iload_n 2, 1) := dgX5_findsBody_0 (15, (.iload_n 2, 1)) (List.mem_of_getElem? (i := 9) rfl)
theorem dX5_findsBody_16 : decode cX5_findsBody 16 = .ok (.iload 4, 2) := dgX5_findsBody_0 (16, (.iload 4, 2)) (List.mem_of_getElem? (i := 10) rfl)
theorem dX5_findsBody_18 : decode cX5_findsBody 18 = .ok (.iload_n 3, 1) := dgX5_findsBody_0 (18, (.iload_n 3, 1)) (List.mem_of_getElem? (i := 11) rfl)
theorem dX5_findsBody_19 : decode cX5_findsBody 19 = .ok (.iconst 0, 1) := dgX5_findsBody_0 (19, (.iconst 0, 1)) (List.mem_of_getElem? (i := 12) rfl)
theorem dX5_findsBody_20 : decode cX5_findsBody 20 = .ok (.invokevirtual 91, 3) := dgX5_findsBody_0 (20, (.invokevirtual 91, 3)) (List.mem_of_getElem? (i := 13) rfl)
theorem dX5_findsBody_23 : decode cX5_findsBody 23 = .ok (.aload_n 0, 1) := dgX5_findsBody_0 (23, (.aload_n 0, 1)) (List.mem_of_getElem? (i := 14) rfl)
theorem dX5_findsBody_24 : decode cX5_findsBody 24 = .ok (.getfield 39, 3) := dgX5_findsBody_0 (24, (.getfield 39, 3)) (List.mem_of_getElem? (i := 15) rfl)
theorem dX5_findsBody_27 : decode cX5_findsBody 27 = .ok (.iload_n 1, 1) := dgX5_findsBody_0 (27, (.iload_n 1, 1)) (List.mem_of_getElem? (i := 16) rfl)
theorem dX5_findsBody_28 : decode cX5_findsBody 28 = .ok (.if_icmp .ne 5, 3) := dgX5_findsBody_0 (28, (.if_icmp .ne 5, 3)) (List.mem_of_getElem? (i := 17) rfl)
theorem dX5_findsBody_31 : decode cX5_findsBody 31 = .ok (.iconst 1, 1) := dgX5_findsBody_0 (31, (.iconst 1, 1)) (List.mem_of_getElem? (i := 18) rfl)
theorem dX5_findsBody_32 : decode cX5_findsBody 32 = .ok (.ireturn, 1) := dgX5_findsBody_0 (32, (.ireturn, 1)) (List.mem_of_getElem? (i := 19) rfl)
theorem dX5_findsBody_33 : decode cX5_findsBody 33 = .ok (.iinc 4 1, 3) := dgX5_findsBody_0 (33, (.iinc 4 1, 3)) (List.mem_of_getElem? (i := 20) rfl)
theorem dX5_findsBody_36 : decode cX5_findsBody 36 = .ok (.goto (-28), 3) := dgX5_findsBody_0 (36, (.goto (-28), 3)) (List.mem_of_getElem? (i := 21) rfl)
theorem dX5_findsBody_39 : decode cX5_findsBody 39 = .ok (.iconst 0, 1) := dgX5_findsBody_0 (39, (.iconst 0, 1)) (List.mem_of_getElem? (i := 22) rfl)
theorem dX5_findsBody_40 : decode cX5_findsBody 40 = .ok (.ireturn, 1) := dgX5_findsBody_0 (40, (.ireturn, 1)) (List.mem_of_getElem? (i := 23) rfl)
set_option maxHeartbeats 4000000 in
set_option maxRecDepth 100000 in
theorem s_findsBodyN (l : Launch) (G : g5_G) (a_k a_h a_g a_gn a_b a_bn a_p a_pn a_bb a_j a_as a_sk a_l a_pt a_s a_w : Nat) (sz : Nat) (e_le : Int32) (e_st : Int32) (e_fo : Int32) (e_lc : Int32) (e_g : Int32) (e_b : Int32) (e_p : Int32) (e_ln : Int32) (e_se : Int32) (e_lh : Int32) (e_br : Int32) (e_we : Int32) (e_me : Int32) (e_ce : Int32) (e_wy : Int32) (e_ho : Int32) (e_ov : Int32) (p_c : Int32) (p_h : Int32) (p_b : Int32) (e_wa : Int64) (e_gb : Int64) (f_g : Nat → Int32) (f_b : Nat → Int32) (f_p : Nat → Int32) (f_bb : Nat → Int64) (f_as : Nat → Int32) (f_sk : Nat → Int64) (f_l : Nat → Option Nat) (f_pt : Nat → Int32) (h_e_g : 0 ≤ e_g.toInt ∧ e_g.toInt ≤ 6) (h_e_b : 0 ≤ e_b.toInt ∧ e_b.toInt ≤ 5) (h_e_p : 0 ≤ e_p.toInt ∧ e_p.toInt ≤ 8) (h_e_ov : 0 ≤ e_ov.toInt ∧ e_ov.toInt ≤ 1) (e_gk : gOK f_g e_g.toInt) (e_pk : gOK f_p e_p.toInt) (e_gi : inT e_gb f_g e_g.toInt) (e_f : e_fo.toInt < 0 ∨ e_lc.toInt ≤ e_fo.toInt) : Met l yX5_findsBody (wsG yX5_findsBody cX5_findsBody 5 (some .boolean)) ({ frames := 14, cells := 0, slots := 0, locals := 556 }) (va_Pc [.ref a_k, .int p_b, .int p_c, .int p_h] (g5_P G [(a_k, (oc5 a_h a_j a_pt e_ln e_se e_lh e_br e_we e_me e_ce e_wy e_ho e_ov)), (a_h, (oc1 e_wa e_le e_st e_fo e_lc a_l a_g a_b a_s a_p a_w e_gb a_bb)), (a_g, (oc6 6 5 a_gn e_g)), (a_gn, (arI G 30 f_g)), (a_b, (oc6 5 24 a_bn e_b)), (a_bn, (arI G 120 f_b)), (a_p, (oc6 8 5 a_pn e_p)), (a_pn, (arI G 40 f_p)), (a_bb, (arJ G 24 f_bb)), (a_j, (oc2 a_as a_sk)), (a_as, (arI G 8 f_as)), (a_sk, (arJ G 50 f_sk)), (a_l, (arW G 6 f_l)), (a_pt, (arI G 200 f_pt))] sz)) (va_Qi (fun (r : Int32) (u : va_W) => (∃ (o_r : Int32) (o_ln : Int32) (o_se : Int32) (o_lh : Int32) (o_br : Int32) (o_we : Int32) (o_me : Int32) (o_ce : Int32) (o_wy : Int32) (o_ho : Int32) (o_ov : Int32) (o_pt : Nat → Int32) (o_as : Nat → Int32) (o_sk : Nat → Int64), (0 ≤ o_r.toInt ∧ o_r.toInt ≤ 1) ∧ (0 ≤ o_ov.toInt ∧ o_ov.toInt ≤ 1) ∧ (r = o_r) ∧ (u = [(a_k, (oc5 a_h a_j a_pt o_ln o_se o_lh o_br o_we o_me o_ce o_wy o_ho o_ov)), (a_h, (oc1 e_wa e_le e_st e_fo e_lc a_l a_g a_b a_s a_p a_w e_gb a_bb)), (a_g, (oc6 6 5 a_gn e_g)), (a_gn, (arI G 30 f_g)), (a_b, (oc6 5 24 a_bn e_b)), (a_bn, (arI G 120 f_b)), (a_p, (oc6 8 5 a_pn e_p)), (a_pn, (arI G 40 f_p)), (a_bb, (arJ G 24 f_bb)), (a_j, (oc2 a_as a_sk)), (a_as, (arI G 8 o_as)), (a_sk, (arJ G 50 o_sk)), (a_l, (arW G 6 f_l)), (a_pt, (arI G 200 o_pt))]))) (g5_B G (va_A [(a_k, (oc5 a_h a_j a_pt e_ln e_se e_lh e_br e_we e_me e_ce e_wy e_ho e_ov)), (a_h, (oc1 e_wa e_le e_st e_fo e_lc a_l a_g a_b a_s a_p a_w e_gb a_bb)), (a_g, (oc6 6 5 a_gn e_g)), (a_gn, (arI G 30 f_g)), (a_b, (oc6 5 24 a_bn e_b)), (a_bn, (arI G 120 f_b)), (a_p, (oc6 8 5 a_pn e_p)), (a_pn, (arI G 40 f_p)), (a_bb, (arJ G 24 f_bb)), (a_j, (oc2 a_as a_sk)), (a_as, (arI G 8 f_as)), (a_sk, (arJ G 50 f_sk)), (a_l, (arW G 6 f_l)), (a_pt, (arI G 200 f_pt))] sz)) (va_A [(a_k, (oc5 a_h a_j a_pt e_ln e_se e_lh e_br e_we e_me e_ce e_wy e_ho e_ov)), (a_h, (oc1 e_wa e_le e_st e_fo e_lc a_l a_g a_b a_s a_p a_w e_gb a_bb)), (a_g, (oc6 6 5 a_gn e_g)), (a_gn, (arI G 30 f_g)), (a_b, (oc6 5 24 a_bn e_b)), (a_bn, (arI G 120 f_b)), (a_p, (oc6 8 5 a_pn e_p)), (a_pn, (arI G 40 f_p)), (a_bb, (arJ G 24 f_bb)), (a_j, (oc2 a_as a_sk)), (a_as, (arI G 8 f_as)), (a_sk, (arJ G 50 f_sk)), (a_l, (arW G 6 f_l)), (a_pt, (arI G 200 f_pt))] sz)) 0 0 (va_A [(a_k, (oc5 a_h a_j a_pt e_ln e_se e_lh e_br e_we e_me e_ce e_wy e_ho e_ov)), (a_h, (oc1 e_wa e_le e_st e_fo e_lc a_l a_g a_b a_s a_p a_w e_gb a_bb)), (a_g, (oc6 6 5 a_gn e_g)), (a_gn, (arI G 30 f_g)), (a_b, (oc6 5 24 a_bn e_b)), (a_bn, (arI G 120 f_b)), (a_p, (oc6 8 5 a_pn e_p)), (a_pn, (arI G 40 f_p)), (a_bb, (arJ G 24 f_bb)), (a_j, (oc2 a_as a_sk)), (a_as, (arI G 8 f_as)), (a_sk, (arJ G 50 f_sk)), (a_l, (arW G 6 f_l)), (a_pt, (arI G 200 f_pt))] sz) := by
  refine Met.ofW (cc := cX5_findsBody) (maxL := 5) (ret := (some .boolean)) (by decide +kernel) rfl ?_
  intro p e s m args below meth c s₁ B hml hv
  obtain ⟨rfl, hsz, hP, hK, hD0, hN, hT⟩ := hv
  have hx := B.exec
  have hb := B.bytes
  have hr := B.returns
  have hts : ∀ w ∈ tblG, w.before _ s = true := fun w h => atoms_spec (ws := (wsG yX5_findsBody cX5_findsBody 5 (some .boolean))) B.pre w (List.mem_cons_of_mem _ h)
  have hown : s.vm.findClass RX5 = some m.cls := findClass_of_methodNamed B.named
  have hlocks := B.notSynchronized
  subst hsz
  have hD := hD0.self (sz := s.heap.size)
  generalize hAe : va_A [(a_k, (oc5 a_h a_j a_pt e_ln e_se e_lh e_br e_we e_me e_ce e_wy e_ho e_ov)), (a_h, (oc1 e_wa e_le e_st e_fo e_lc a_l a_g a_b a_s a_p a_w e_gb a_bb)), (a_g, (oc6 6 5 a_gn e_g)), (a_gn, (arI G 30 f_g)), (a_b, (oc6 5 24 a_bn e_b)), (a_bn, (arI G 120 f_b)), (a_p, (oc6 8 5 a_pn e_p)), (a_pn, (arI G 40 f_p)), (a_bb, (arJ G 24 f_bb)), (a_j, (oc2 a_as a_sk)), (a_as, (arI G 8 f_as)), (a_sk, (arJ G 50 f_sk)), (a_l, (arW G 6 f_l)), (a_pt, (arI G 200 f_pt))] s.heap.size = A at hD hT ⊢
  have hA : ∀ q : Nat, s.heap.size ≤ q → A q := fun q h => by rw [← hAe]; exact Or.inr h
  have hS : va_S A s.heap s.heap [] := va_S.rf
  replace hP : va_P G.1 vwCl [(a_k, (oc5 a_h a_j a_pt e_ln e_se e_lh e_br e_we e_me e_ce e_wy e_ho e_ov)), (a_h, (oc1 e_wa e_le e_st e_fo e_lc a_l a_g a_b a_s a_p a_w e_gb a_bb)), (a_g, (oc6 6 5 a_gn e_g)), (a_gn, (arI G 30 f_g)), (a_b, (oc6 5 24 a_bn e_b)), (a_bn, (arI G 120 f_b)), (a_p, (oc6 8 5 a_pn e_p)), (a_pn, (arI G 40 f_p)), (a_bb, (arJ G 24 f_bb)), (a_j, (oc2 a_as a_sk)), (a_as, (arI G 8 f_as)), (a_sk, (arJ G 50 f_sk)), (a_l, (arW G 6 f_l)), (a_pt, (arI G 200 f_pt))] s.heap := hP
  have hl := lv_entry ([.ref a_k, .int p_b, .int p_c, .int p_h]) (n := 5) (Nat.le_of_ble_eq_true rfl)
  rw [lg_entry_eq]
  generalize (lg_sl ([.ref a_k, .int p_b, .int p_c, .int p_h]) ++ List.replicate (5 - (lg_sl ([.ref a_k, .int p_b, .int p_c, .int p_h])).length) Slot.unset).toArray = ls at hl ⊢
  replace hl : lv_has ls 5 [(0, .ref a_k), (1, .int p_b), (2, .int p_c), (3, .int p_h)] := hl
  refine lv_aload_n hx hb dX5_findsBody_0 rfl (lv_at hl 0 rfl) ?_
  refine lv_iconst (v := 0) hx hb dX5_findsBody_1 (by decide +kernel) ?_
  refine va_put (D := G.1) (ci := 5) (v := .int 0) (ty := .int) (C := RX5) (T := TX5) (N := 13) hx hb hts inG_X5 tyX5 tyX5_ok nmX5 hown hK hP hD hS 0 rfl rfl 8 (by decide +kernel) (hts _ fl_X5_95) (fun _ h9 => h9) rfl (by decide +kernel) rfl rfl (Nat.le_of_ble_eq_true rfl) dX5_findsBody_2 ?_
  clear hP hD hS
  intro H locs hP hD hS
  refine g5_rs [(a_k, (oc5 a_h a_j a_pt e_ln e_se e_lh e_br e_we 0 e_ce e_wy e_ho e_ov)), (a_h, (oc1 e_wa e_le e_st e_fo e_lc a_l a_g a_b a_s a_p a_w e_gb a_bb)), (a_g, (oc6 6 5 a_gn e_g)), (a_gn, (arI G 30 f_g)), (a_b, (oc6 5 24 a_bn e_b)), (a_bn, (arI G 120 f_b)), (a_p, (oc6 8 5 a_pn e_p)), (a_pn, (arI G 40 f_p)), (a_bb, (arJ G 24 f_bb)), (a_j, (oc2 a_as a_sk)), (a_as, (arI G 8 f_as)), (a_sk, (arJ G 50 f_sk)), (a_l, (arW G 6 f_l)), (a_pt, (arI G 200 f_pt))] hP hD ?_
  clear hP hD
  intro hP hD
  refine lv_iconst (v := 0) hx hb dX5_findsBody_5 (by decide +kernel) ?_
  refine W.eq (g2 := F0 m 6 ls [.int 0]) rfl ?_
  refine lv_istore (lv' := [(4, .int 0), (0, .ref a_k), (1, .int p_b), (2, .int p_c), (3, .int p_h)]) hx hb dX5_findsBody_6 hl (by decide +kernel) rfl ?_
  clear hl
  intro ls hl
  refine g5_loop (α := (Int32) × (Int32) × (Int32) × (Int32) × (Int32) × (Int32) × (Int32) × (Int32) × (Int32) × (Int32) × (Nat → Int32) × (Nat → Int32) × (Nat → Int64) × (Int32)) (fun (q : (Int32) × (Int32) × (Int32) × (Int32) × (Int32) × (Int32) × (Int32) × (Int32) × (Int32) × (Int32) × (Nat → Int32) × (Nat → Int32) × (Nat → Int64) × (Int32)) (ls : Array Slot) (H : Heap) (locs : List Loc) => match q with | (k_d, k_se, k_lh, k_br, k_we, k_me, k_ce, k_wy, k_ho, k_ov, k_pt, k_as, k_sk, k_ln) => lv_has ls 5 [(4, .int k_d), (0, .ref a_k), (1, .int p_b), (2, .int p_c), (3, .int p_h)] ∧ va_P G.1 vwCl [(a_k, (oc5 a_h a_j a_pt k_ln k_se k_lh k_br k_we k_me k_ce k_wy k_ho k_ov)), (a_h, (oc1 e_wa e_le e_st e_fo e_lc a_l a_g a_b a_s a_p a_w e_gb a_bb)), (a_g, (oc6 6 5 a_gn e_g)), (a_gn, (arI G 30 f_g)), (a_b, (oc6 5 24 a_bn e_b)), (a_bn, (arI G 120 f_b)), (a_p, (oc6 8 5 a_pn e_p)), (a_pn, (arI G 40 f_p)), (a_bb, (arJ G 24 f_bb)), (a_j, (oc2 a_as a_sk)), (a_as, (arI G 8 k_as)), (a_sk, (arJ G 50 k_sk)), (a_l, (arW G 6 f_l)), (a_pt, (arI G 200 k_pt))] H ∧ va_D A [(a_k, (oc5 a_h a_j a_pt k_ln k_se k_lh k_br k_we k_me k_ce k_wy k_ho k_ov)), (a_h, (oc1 e_wa e_le e_st e_fo e_lc a_l a_g a_b a_s a_p a_w e_gb a_bb)), (a_g, (oc6 6 5 a_gn e_g)), (a_gn, (arI G 30 f_g)), (a_b, (oc6 5 24 a_bn e_b)), (a_bn, (arI G 120 f_b)), (a_p, (oc6 8 5 a_pn e_p)), (a_pn, (arI G 40 f_p)), (a_bb, (arJ G 24 f_bb)), (a_j, (oc2 a_as a_sk)), (a_as, (arI G 8 k_as)), (a_sk, (arJ G 50 k_sk)), (a_l, (arW G 6 f_l)), (a_pt, (arI G 200 k_pt))] ∧ va_S A s.heap H locs ∧ (0 ≤ k_d.toInt ∧ k_d.toInt ≤ 4) ∧ (0 ≤ k_ov.toInt ∧ k_ov.toInt ≤ 1)) (fun (q : (Int32) × (Int32) × (Int32) × (Int32) × (Int32) × (Int32) × (Int32) × (Int32) × (Int32) × (Int32) × (Nat → Int32) × (Nat → Int32) × (Nat → Int64) × (Int32)) => match q with | (k_d, k_se, k_lh, k_br, k_we, k_me, k_ce, k_wy, k_ho, k_ov, k_pt, k_as, k_sk, k_ln) => Int.toNat (4 - k_d.toInt)) (0, e_se, e_lh, e_br, e_we, 0, e_ce, e_wy, e_ho, e_ov, f_pt, f_as, f_sk, e_ln) ⟨lv_sub hl [0, 1, 2, 3, 4] rfl, hP, hD, hS, ⟨by decide, by decide⟩, h_e_ov⟩ ?_
  rintro ⟨k_d, k_se, k_lh, k_br, k_we, k_me, k_ce, k_wy, k_ho, k_ov, k_pt, k_as, k_sk, k_ln⟩ ls H locs ⟨hl, hP, hD, hS, (i_1 : 0 ≤ k_d.toInt ∧ k_d.toInt ≤ 4), (i_2 : 0 ≤ k_ov.toInt ∧ k_ov.toInt ≤ 1)⟩ ih_8_3
  replace hl : lv_has ls 5 [(4, .int k_d), (0, .ref a_k), (1, .int p_b), (2, .int p_c), (3, .int p_h)] := hl
  refine g5_rs [(a_k, (oc5 a_h a_j a_pt k_ln k_se k_lh k_br k_we k_me k_ce k_wy k_ho k_ov)), (a_h, (oc1 e_wa e_le e_st e_fo e_lc a_l a_g a_b a_s a_p a_w e_gb a_bb)), (a_g, (oc6 6 5 a_gn e_g)), (a_gn, (arI G 30 f_g)), (a_b, (oc6 5 24 a_bn e_b)), (a_bn, (arI G 120 f_b)), (a_p, (oc6 8 5 a_pn e_p)), (a_pn, (arI G 40 f_p)), (a_bb, (arJ G 24 f_bb)), (a_j, (oc2 a_as a_sk)), (a_as, (arI G 8 k_as)), (a_sk, (arJ G 50 k_sk)), (a_l, (arW G 6 f_l)), (a_pt, (arI G 200 k_pt))] hP hD ?_
  clear hP hD
  intro hP hD
  refine lv_iload hx hb dX5_findsBody_8 (lv_at hl 0 rfl) ?_
  refine lv_iconst (v := 4) hx hb dX5_findsBody_10 (by decide +kernel) ?_
  refine lv_icmp_ge (tgt := 39) hx hb dX5_findsBody_11 (by decide +kernel) (fun c_4 => ?_) (fun c_4 => ?_)
  ·
    have i_4 : k_d.toInt ≥ 4 := g5_ge (a := k_d.toInt) (b := 4) rfl (by decide +kernel) c_4
    refine lv_iconst (v := 0) hx hb dX5_findsBody_39 (by decide +kernel) ?_
    exact W.zret (v := 0) hx hb hr rfl (fun t ht hW => ⟨⟨0, [(a_k, (oc5 a_h a_j a_pt k_ln k_se k_lh k_br k_we k_me k_ce k_wy k_ho k_ov)), (a_h, (oc1 e_wa e_le e_st e_fo e_lc a_l a_g a_b a_s a_p a_w e_gb a_bb)), (a_g, (oc6 6 5 a_gn e_g)), (a_gn, (arI G 30 f_g)), (a_b, (oc6 5 24 a_bn e_b)), (a_bn, (arI G 120 f_b)), (a_p, (oc6 8 5 a_pn e_p)), (a_pn, (arI G 40 f_p)), (a_bb, (arJ G 24 f_bb)), (a_j, (oc2 a_as a_sk)), (a_as, (arI G 8 k_as)), (a_sk, (arJ G 50 k_sk)), (a_l, (arW G 6 f_l)), (a_pt, (arI G 200 k_pt))], rfl, ⟨0, k_ln, k_se, k_lh, k_br, k_we, k_me, k_ce, k_wy, k_ho, k_ov, k_pt, k_as, k_sk, ⟨by have zc_o_r : (0 : Int32).toInt = 0 := (by decide +kernel); omega, by have zc_o_r : (0 : Int32).toInt = 0 := (by decide +kernel); omega⟩, i_2, rfl, rfl⟩, by rw [ht]; exact hP.sub [0, 1, 2, 3, 4, 5, 6, 7, 8, 9, 10, 11, 12, 13] rfl, hD.sub [0, 1, 2, 3, 4, 5, 6, 7, 8, 9, 10, 11, 12, 13] (by decide +kernel) rfl⟩, hS.F ht⟩) hS.2.2 dX5_findsBody_40
  ·
    have i_4 : k_d.toInt < 4 := g5_geN (a := k_d.toInt) (b := 4) rfl (by decide +kernel) c_4
    refine lv_aload_n hx hb dX5_findsBody_14 rfl (lv_at hl 1 rfl) ?_
    refine lv_iload_n hx hb dX5_findsBody_15 rfl (lv_at hl 3 rfl) ?_
    refine lv_iload hx hb dX5_findsBody_16 (lv_at hl 0 rfl) ?_
    refine lv_iload_n hx hb dX5_findsBody_18 rfl (lv_at hl 4 rfl) ?_
    refine W.eq (g2 := F0 m 19 ls [.int p_h, .int k_d, .int p_c, .ref a_k]) rfl ?_
    refine lv_iconst (v := 0) hx hb dX5_findsBody_19 (by decide +kernel) ?_
    obtain ⟨hPc, hDc, hFc⟩ := g5_sub3 (wc := [(a_k, (oc5 a_h a_j a_pt k_ln k_se k_lh k_br k_we k_me k_ce k_wy k_ho k_ov)), (a_h, (oc1 e_wa e_le e_st e_fo e_lc a_l a_g a_b a_s a_p a_w e_gb a_bb)), (a_g, (oc6 6 5 a_gn e_g)), (a_gn, (arI G 30 f_g)), (a_b, (oc6 5 24 a_bn e_b)), (a_bn, (arI G 120 f_b)), (a_p, (oc6 8 5 a_pn e_p)), (a_pn, (arI G 40 f_p)), (a_bb, (arJ G 24 f_bb)), (a_j, (oc2 a_as a_sk)), (a_as, (arI G 8 k_as)), (a_sk, (arJ G 50 k_sk)), (a_l, (arW G 6 f_l)), (a_pt, (arI G 200 k_pt))]) hP hD hS hA [0, 1, 2, 3, 4, 5, 6, 7, 8, 9, 10, 11, 12, 13] (by decide +kernel) rfl
    refine va_callv (va_runV (As := [.int p_c, .int k_d, .int p_h, .int 0]) (rest := []) ⟨hx, hb, hml, hown, hts⟩ (k_runN l G a_k a_h a_g a_gn a_b a_bn a_p a_pn a_bb a_j a_as a_sk a_l a_pt a_s a_w H.size e_le e_st e_fo e_lc e_g e_b e_p k_ln k_se k_lh k_br k_we k_me k_ce k_wy k_ho k_ov p_c k_d p_h 0 e_wa e_gb f_g f_b f_p f_bb k_as k_sk f_l k_pt h_e_g h_e_b h_e_p i_2 (e_gk) (e_pk) (e_gi) (e_f)) (cwV 4 hts gV_X5_91 rfl rfl rfl hv_X5_run ⟨Nat.le_of_ble_eq_true rfl, Nat.le_of_ble_eq_true rfl⟩) (g5_preV hPc hK hDc hN hT hS hFc (ci := 5) (q0 := 0) rfl rfl) rfl rfl hl.1 rfl (lv_room (Nat.le_of_ble_eq_true rfl)) dX5_findsBody_20 ⟨Nat.le_of_ble_eq_true rfl, Nat.le_of_ble_eq_true rfl⟩) hS (fun q _ h => hFc q h) hFc (fun u t H locs ht hvm hw hB hz1 hk1 hS => ?_)
    obtain ⟨hP1, hD1⟩ := hB
    have hP1 := g5_ht ht hP1
    obtain ⟨z8, z9, z10, z11, z12, z13, z14, z15, z16, z17, z18, z19, z20, (i_5 : 0 ≤ z8.toInt ∧ z8.toInt ≤ 200), (i_6 : 0 ≤ z17.toInt ∧ z17.toInt ≤ 1), (i_7 : ∀ j : Nat, (j : Int) < z8.toInt → 0 ≤ (z18 j).toInt ∧ (z18 j).toInt ≤ 1535), rfl⟩ := hw
    have hJ9 := va_join (wr := []) hP hD [0, 1, 2, 3, 4, 5, 6, 7, 8, 9, 10, 11, 12, 13] [] rfl rfl (by decide +kernel) (by decide +kernel) hk1 hFc hP1 hD1
    clear hP hD hPc hDc hFc ht hvm hz1 hk1 hP1 hD1
    obtain ⟨hP, hD⟩ := hJ9
    refine g5_rs [(a_k, (oc5 a_h a_j a_pt z8 z9 z10 z11 z12 z13 z14 z15 z16 z17)), (a_h, (oc1 e_wa e_le e_st e_fo e_lc a_l a_g a_b a_s a_p a_w e_gb a_bb)), (a_g, (oc6 6 5 a_gn e_g)), (a_gn, (arI G 30 f_g)), (a_b, (oc6 5 24 a_bn e_b)), (a_bn, (arI G 120 f_b)), (a_p, (oc6 8 5 a_pn e_p)), (a_pn, (arI G 40 f_p)), (a_bb, (arJ G 24 f_bb)), (a_j, (oc2 a_as a_sk)), (a_as, (arI G 8 z19)), (a_sk, (arJ G 50 z20)), (a_l, (arW G 6 f_l)), (a_pt, (arI G 200 z18))] hP hD ?_
    clear hP hD
    intro hP hD
    refine lv_aload_n hx hb dX5_findsBody_23 rfl (lv_at hl 1 rfl) ?_
    refine va_get (D := G.1) (ci := 5) (v := .int z9) (C := RX5) (T := TX5) (N := 13) hx hb hts inG_X5 hown hK hP 0 rfl rfl 4 (by decide +kernel) (hts _ fl_X5_39) (fun _ h9 => h9) rfl dX5_findsBody_24 ?_
    refine lv_iload_n hx hb dX5_findsBody_27 rfl (lv_at hl 2 rfl) ?_
    refine W.eq (g2 := F0 m 28 ls [.int p_b, .int z9]) rfl ?_
    refine lv_icmp_ne (tgt := 33) hx hb dX5_findsBody_28 (by decide +kernel) (fun c_21 => ?_) (fun c_21 => ?_)
    ·
      have n_21 : gNe (z9.toInt) (p_b.toInt) := g5_ne (a := z9.toInt) (b := p_b.toInt) rfl rfl c_21
      refine lv_iinc (v := (k_d + 1)) (lv' := [(4, .int (k_d + 1)), (0, .ref a_k), (1, .int p_b), (2, .int p_c), (3, .int p_h)]) hx hb dX5_findsBody_33 hl (k := 0) rfl rfl (by decide +kernel) rfl ?_
      clear hl
      intro ls hl
      have t_22 : (k_d + 1).toInt = k_d.toInt + 1 := g5_iadd (a := k_d.toInt) (b := 1) rfl (by decide +kernel) (by omega) (by omega)
      refine lv_goto (tgt := 8) hx hb dX5_findsBody_36 (by decide +kernel) ?_
      exact ih_8_3 ((k_d + 1), z9, z10, z11, z12, z13, z14, z15, z16, z17, z18, z19, z20, z8) ls H locs (show Int.toNat (4 - (k_d + 1).toInt) < Int.toNat (4 - k_d.toInt) from g_up (show k_d.toInt < (k_d + 1).toInt by omega) (show k_d.toInt < 4 by omega)) ⟨lv_sub hl [0, 1, 2, 3, 4] rfl, hP, hD, hS, ⟨by omega, by omega⟩, i_6⟩
    ·
      have i_21 : z9.toInt = p_b.toInt := g5_neN (a := z9.toInt) (b := p_b.toInt) rfl rfl c_21
      refine lv_iconst (v := 1) hx hb dX5_findsBody_31 (by decide +kernel) ?_
      exact W.zret (v := 1) hx hb hr rfl (fun t ht hW => ⟨⟨1, [(a_k, (oc5 a_h a_j a_pt z8 z9 z10 z11 z12 z13 z14 z15 z16 z17)), (a_h, (oc1 e_wa e_le e_st e_fo e_lc a_l a_g a_b a_s a_p a_w e_gb a_bb)), (a_g, (oc6 6 5 a_gn e_g)), (a_gn, (arI G 30 f_g)), (a_b, (oc6 5 24 a_bn e_b)), (a_bn, (arI G 120 f_b)), (a_p, (oc6 8 5 a_pn e_p)), (a_pn, (arI G 40 f_p)), (a_bb, (arJ G 24 f_bb)), (a_j, (oc2 a_as a_sk)), (a_as, (arI G 8 z19)), (a_sk, (arJ G 50 z20)), (a_l, (arW G 6 f_l)), (a_pt, (arI G 200 z18))], rfl, ⟨1, z8, z9, z10, z11, z12, z13, z14, z15, z16, z17, z18, z19, z20, ⟨by have zc_o_r : (1 : Int32).toInt = 1 := (by decide +kernel); omega, by have zc_o_r : (1 : Int32).toInt = 1 := (by decide +kernel); omega⟩, i_6, rfl, rfl⟩, by rw [ht]; exact hP.sub [0, 1, 2, 3, 4, 5, 6, 7, 8, 9, 10, 11, 12, 13] rfl, hD.sub [0, 1, 2, 3, 4, 5, 6, 7, 8, 9, 10, 11, 12, 13] (by decide +kernel) rfl⟩, hS.F ht⟩) hS.2.2 dX5_findsBody_32
theorem dgX5_cellsFrom_0 : ∀ r ∈ ([(0, (.lconst 0, 1)), (1, (.lstore_n 3, 1)), (2, (.iconst 0, 1)), (3, (.istore 5, 2)), (5, (.iload 5, 2)), (7, (.iconst 4, 1)), (8, (.if_icmp .ge 51, 3)), (11, (.aload_n 0, 1)), (12, (.iload_n 1, 1)), (13, (.iload 5, 2)), (15, (.iload_n 2, 1)), (16, (.iconst 0, 1)), (17, (.invokevirtual 91, 3)), (20, (.iconst 0, 1)), (21, (.istore 6, 2)), (23, (.iload 6, 2)), (25, (.aload_n 0, 1)), (26, (.getfield 36, 3)), (29, (.if_icmp .ge 24, 3)), (32, (.lload_n 3, 1)), (33, (.lconst 1, 1)), (34, (.aload_n 0, 1)), (35, (.getfield 18, 3)), (38, (.iload 6, 2)), (40, (.iaload, 1)), (41, (.bipush 64, 2)), (43, (.irem, 1)), (44, (.lshl, 1)), (45, (.lor, 1)), (46, (.lstore_n 3, 1)), (47, (.iinc 6 1, 3)), (50, (.goto (-27), 3)), (53, (.iinc 5 1, 3)), (56, (.goto (-51), 3)), (59, (.lload_n 3, 1)), (60, (.lreturn, 1))] : List (Nat × (Instr × Nat))), decode cX5_cellsFrom r.1 = .ok r.2 := by decide +kernel
theorem dX5_cellsFrom_0 : decode cX5_cellsFrom 0 = .ok (.lconst 0, 1) := dgX5_cellsFrom_0 (0, (.lconst 0, 1)) (List.mem_of_getElem? (i := 0) rfl)
theorem dX5_cellsFrom_1 : decode cX5_cellsFrom 1 = .ok (.lstore_n 3, 1) := dgX5_cellsFrom_0 (1, (.lstore_n 3, 1)) (List.mem_of_getElem? (i := 1) rfl)
theorem dX5_cellsFrom_2 : decode cX5_cellsFrom 2 = .ok (.iconst 0, 1) := dgX5_cellsFrom_0 (2, (.iconst 0, 1)) (List.mem_of_getElem? (i := 2) rfl)
theorem dX5_cellsFrom_3 : decode cX5_cellsFrom 3 = .ok (.istore 5, 2) := dgX5_cellsFrom_0 (3, (.istore 5, 2)) (List.mem_of_getElem? (i := 3) rfl)
theorem dX5_cellsFrom_5 : decode cX5_cellsFrom 5 = .ok (.iload 5, 2) := dgX5_cellsFrom_0 (5, (.iload 5, 2)) (List.mem_of_getElem? (i := 4) rfl)
theorem dX5_cellsFrom_7 : decode cX5_cellsFrom 7 = .ok (.iconst 4, 1) := dgX5_cellsFrom_0 (7, (.iconst 4, 1)) (List.mem_of_getElem? (i := 5) rfl)
theorem dX5_cellsFrom_8 : decode cX5_cellsFrom 8 = .ok (.if_icmp .ge 51, 3) := dgX5_cellsFrom_0 (8, (.if_icmp .ge 51, 3)) (List.mem_of_getElem? (i := 6) rfl)
theorem dX5_cellsFrom_11 : decode cX5_cellsFrom 11 = .ok (.aload_n 0, 1) := dgX5_cellsFrom_0 (11, (.aload_n 0, 1)) (List.mem_of_getElem? (i := 7) rfl)
theorem dX5_cellsFrom_12 : decode cX5_cellsFrom 12 = .ok (.iload_n 1, 1) := dgX5_cellsFrom_0 (12, (.iload_n 1, 1)) (List.mem_of_getElem? (i := 8) rfl)
theorem dX5_cellsFrom_13 : decode cX5_cellsFrom 13 = .ok (.iload 5, 2) := dgX5_cellsFrom_0 (13, (.iload 5, 2)) (List.mem_of_getElem? (i := 9) rfl)
theorem dX5_cellsFrom_15 : decode cX5_cellsFrom 15 = .ok (.iload_n 2, 1) := dgX5_cellsFrom_0 (15, (.iload_n 2, 1)) (List.mem_of_getElem? (i := 10) rfl)
theorem dX5_cellsFrom_16 : decode cX5_cellsFrom 16 = .ok (.iconst 0, 1) := dgX5_cellsFrom_0 (16, (.iconst 0, 1)) (List.mem_of_getElem? (i := 11) rfl)
theorem dX5_cellsFrom_17 : decode cX5_cellsFrom 17 = .ok (.invokevirtual 91, 3) := dgX5_cellsFrom_0 (17, (.invokevirtual 91, 3)) (List.mem_of_getElem? (i := 12) rfl)
theorem dX5_cellsFrom_20 : decode cX5_cellsFrom 20 = .ok (.iconst 0, 1) := dgX5_cellsFrom_0 (20, (.iconst 0, 1)) (List.mem_of_getElem? (i := 13) rfl)
theorem dX5_cellsFrom_21 : decode cX5_cellsFrom 21 = .ok (.istore 6, 2) := dgX5_cellsFrom_0 (21, (.istore 6, 2)) (List.mem_of_getElem? (i := 14) rfl)
theorem dX5_cellsFrom_23 : decode cX5_cellsFrom 23 = .ok (.iload 6, 2) := dgX5_cellsFrom_0 (23, (.iload 6, 2)) (List.mem_of_getElem? (i := 15) rfl)
theorem dX5_cellsFrom_25 : decode cX5_cellsFrom 25 = .ok (.aload_n 0, 1) := dgX5_cellsFrom_0 (25, (.aload_n 0, 1)) (List.mem_of_getElem? (i := 16) rfl)
theorem dX5_cellsFrom_26 : decode cX5_cellsFrom 26 = .ok (.getfield 36, 3) := dgX5_cellsFrom_0 (26, (.getfield 36, 3)) (List.mem_of_getElem? (i := 17) rfl)
theorem dX5_cellsFrom_29 : decode cX5_cellsFrom 29 = .ok (.if_icmp .ge 24, 3) := dgX5_cellsFrom_0 (29, (.if_icmp .ge 24, 3)) (List.mem_of_getElem? (i := 18) rfl)
theorem dX5_cellsFrom_32 : decode cX5_cellsFrom 32 = .ok (.lload_n 3, 1) := dgX5_cellsFrom_0 (32, (.lload_n 3, 1)) (List.mem_of_getElem? (i := 19) rfl)
theorem dX5_cellsFrom_33 : decode cX5_cellsFrom 33 = .ok (.lconst 1, 1) := dgX5_cellsFrom_0 (33, (.lconst 1, 1)) (List.mem_of_getElem? (i := 20) rfl)
theorem dX5_cellsFrom_34 : decode cX5_cellsFrom 34 = .ok (.aload_n 0, 1) := dgX5_cellsFrom_0 (34, (.aload_n 0, 1)) (List.mem_of_getElem? (i := 21) rfl)
theorem dX5_cellsFrom_35 : decode cX5_cellsFrom 35 = .ok (.getfield 18, 3) := dgX5_cellsFrom_0 (35, (.getfield 18, 3)) (List.mem_of_getElem? (i := 22) rfl)
theorem dX5_cellsFrom_38 : decode cX5_cellsFrom 38 = .ok (.iload 6, 2) := dgX5_cellsFrom_0 (38, (.iload 6, 2)) (List.mem_of_getElem? (i := 23) rfl)
theorem dX5_cellsFrom_40 : decode cX5_cellsFrom 40 = .ok (.iaload, 1) := dgX5_cellsFrom_0 (40, (.iaload, 1)) (List.mem_of_getElem? (i := 24) rfl)
theorem dX5_cellsFrom_41 : decode cX5_cellsFrom 41 = .ok (.bipush 64, 2) := dgX5_cellsFrom_0 (41, (.bipush 64, 2)) (List.mem_of_getElem? (i := 25) rfl)
theorem dX5_cellsFrom_43 : decode cX5_cellsFrom 43 = .ok (.irem, 1) := dgX5_cellsFrom_0 (43, (.irem, 1)) (List.mem_of_getElem? (i := 26) rfl)
theorem dX5_cellsFrom_44 : decode cX5_cellsFrom 44 = .ok (.lshl, 1) := dgX5_cellsFrom_0 (44, (.lshl, 1)) (List.mem_of_getElem? (i := 27) rfl)
theorem dX5_cellsFrom_45 : decode cX5_cellsFrom 45 = .ok (.lor, 1) := dgX5_cellsFrom_0 (45, (.lor, 1)) (List.mem_of_getElem? (i := 28) rfl)
theorem dX5_cellsFrom_46 : decode cX5_cellsFrom 46 = .ok (.lstore_n 3, 1) := dgX5_cellsFrom_0 (46, (.lstore_n 3, 1)) (List.mem_of_getElem? (i := 29) rfl)
theorem dX5_cellsFrom_47 : decode cX5_cellsFrom 47 = .ok (.iinc 6 1, 3) := dgX5_cellsFrom_0 (47, (.iinc 6 1, 3)) (List.mem_of_getElem? (i := 30) rfl)
theorem dX5_cellsFrom_50 : decode cX5_cellsFrom 50 = .ok (.goto (-27), 3) := dgX5_cellsFrom_0 (50, (.goto (-27), 3)) (List.mem_of_getElem? (i := 31) rfl)
theorem dX5_cellsFrom_53 : decode cX5_cellsFrom 53 = .ok (.iinc 5 1, 3) := dgX5_cellsFrom_0 (53, (.iinc 5 1, 3)) (List.mem_of_getElem? (i := 32) rfl)
theorem dX5_cellsFrom_56 : decode cX5_cellsFrom 56 = .ok (.goto (-51), 3) := dgX5_cellsFrom_0 (56, (.goto (-51), 3)) (List.mem_of_getElem? (i := 33) rfl)
theorem dX5_cellsFrom_59 : decode cX5_cellsFrom 59 = .ok (.lload_n 3, 1) := dgX5_cellsFrom_0 (59, (.lload_n 3, 1)) (List.mem_of_getElem? (i := 34) rfl)
theorem dX5_cellsFrom_60 : decode cX5_cellsFrom 60 = .ok (.lreturn, 1) := dgX5_cellsFrom_0 (60, (.lreturn, 1)) (List.mem_of_getElem? (i := 35) rfl)
set_option maxHeartbeats 4000000 in
set_option maxRecDepth 100000 in
theorem s_cellsFromN (l : Launch) (G : g5_G) (a_k a_h a_g a_gn a_b a_bn a_p a_pn a_bb a_j a_as a_sk a_l a_pt a_s a_w : Nat) (sz : Nat) (e_le : Int32) (e_st : Int32) (e_fo : Int32) (e_lc : Int32) (e_g : Int32) (e_b : Int32) (e_p : Int32) (e_ln : Int32) (e_se : Int32) (e_lh : Int32) (e_br : Int32) (e_we : Int32) (e_me : Int32) (e_ce : Int32) (e_wy : Int32) (e_ho : Int32) (e_ov : Int32) (p_c : Int32) (p_h : Int32) (e_wa : Int64) (e_gb : Int64) (f_g : Nat → Int32) (f_b : Nat → Int32) (f_p : Nat → Int32) (f_bb : Nat → Int64) (f_as : Nat → Int32) (f_sk : Nat → Int64) (f_l : Nat → Option Nat) (f_pt : Nat → Int32) (h_e_g : 0 ≤ e_g.toInt ∧ e_g.toInt ≤ 6) (h_e_b : 0 ≤ e_b.toInt ∧ e_b.toInt ≤ 5) (h_e_p : 0 ≤ e_p.toInt ∧ e_p.toInt ≤ 8) (h_e_ov : 0 ≤ e_ov.toInt ∧ e_ov.toInt ≤ 1) (e_gk : gOK f_g e_g.toInt) (e_pk : gOK f_p e_p.toInt) (e_gi : inT e_gb f_g e_g.toInt) (e_f : e_fo.toInt < 0 ∨ e_lc.toInt ≤ e_fo.toInt) : Met l yX5_cellsFrom (wsG yX5_cellsFrom cX5_cellsFrom 7 (some .long)) ({ frames := 14, cells := 0, slots := 0, locals := 556 }) (va_Pc [.ref a_k, .int p_c, .int p_h] (g5_P G [(a_k, (oc5 a_h a_j a_pt e_ln e_se e_lh e_br e_we e_me e_ce e_wy e_ho e_ov)), (a_h, (oc1 e_wa e_le e_st e_fo e_lc a_l a_g a_b a_s a_p a_w e_gb a_bb)), (a_g, (oc6 6 5 a_gn e_g)), (a_gn, (arI G 30 f_g)), (a_b, (oc6 5 24 a_bn e_b)), (a_bn, (arI G 120 f_b)), (a_p, (oc6 8 5 a_pn e_p)), (a_pn, (arI G 40 f_p)), (a_bb, (arJ G 24 f_bb)), (a_j, (oc2 a_as a_sk)), (a_as, (arI G 8 f_as)), (a_sk, (arJ G 50 f_sk)), (a_l, (arW G 6 f_l)), (a_pt, (arI G 200 f_pt))] sz)) (va_Ql (fun (r : Int64) (u : va_W) => (∃ (o_r : Int64) (o_ln : Int32) (o_se : Int32) (o_lh : Int32) (o_br : Int32) (o_we : Int32) (o_me : Int32) (o_ce : Int32) (o_wy : Int32) (o_ho : Int32) (o_ov : Int32) (o_pt : Nat → Int32) (o_as : Nat → Int32) (o_sk : Nat → Int64), (0 ≤ o_ov.toInt ∧ o_ov.toInt ≤ 1) ∧ (r = o_r) ∧ (u = [(a_k, (oc5 a_h a_j a_pt o_ln o_se o_lh o_br o_we o_me o_ce o_wy o_ho o_ov)), (a_h, (oc1 e_wa e_le e_st e_fo e_lc a_l a_g a_b a_s a_p a_w e_gb a_bb)), (a_g, (oc6 6 5 a_gn e_g)), (a_gn, (arI G 30 f_g)), (a_b, (oc6 5 24 a_bn e_b)), (a_bn, (arI G 120 f_b)), (a_p, (oc6 8 5 a_pn e_p)), (a_pn, (arI G 40 f_p)), (a_bb, (arJ G 24 f_bb)), (a_j, (oc2 a_as a_sk)), (a_as, (arI G 8 o_as)), (a_sk, (arJ G 50 o_sk)), (a_l, (arW G 6 f_l)), (a_pt, (arI G 200 o_pt))]))) (g5_B G (va_A [(a_k, (oc5 a_h a_j a_pt e_ln e_se e_lh e_br e_we e_me e_ce e_wy e_ho e_ov)), (a_h, (oc1 e_wa e_le e_st e_fo e_lc a_l a_g a_b a_s a_p a_w e_gb a_bb)), (a_g, (oc6 6 5 a_gn e_g)), (a_gn, (arI G 30 f_g)), (a_b, (oc6 5 24 a_bn e_b)), (a_bn, (arI G 120 f_b)), (a_p, (oc6 8 5 a_pn e_p)), (a_pn, (arI G 40 f_p)), (a_bb, (arJ G 24 f_bb)), (a_j, (oc2 a_as a_sk)), (a_as, (arI G 8 f_as)), (a_sk, (arJ G 50 f_sk)), (a_l, (arW G 6 f_l)), (a_pt, (arI G 200 f_pt))] sz)) (va_A [(a_k, (oc5 a_h a_j a_pt e_ln e_se e_lh e_br e_we e_me e_ce e_wy e_ho e_ov)), (a_h, (oc1 e_wa e_le e_st e_fo e_lc a_l a_g a_b a_s a_p a_w e_gb a_bb)), (a_g, (oc6 6 5 a_gn e_g)), (a_gn, (arI G 30 f_g)), (a_b, (oc6 5 24 a_bn e_b)), (a_bn, (arI G 120 f_b)), (a_p, (oc6 8 5 a_pn e_p)), (a_pn, (arI G 40 f_p)), (a_bb, (arJ G 24 f_bb)), (a_j, (oc2 a_as a_sk)), (a_as, (arI G 8 f_as)), (a_sk, (arJ G 50 f_sk)), (a_l, (arW G 6 f_l)), (a_pt, (arI G 200 f_pt))] sz)) 0 0 (va_A [(a_k, (oc5 a_h a_j a_pt e_ln e_se e_lh e_br e_we e_me e_ce e_wy e_ho e_ov)), (a_h, (oc1 e_wa e_le e_st e_fo e_lc a_l a_g a_b a_s a_p a_w e_gb a_bb)), (a_g, (oc6 6 5 a_gn e_g)), (a_gn, (arI G 30 f_g)), (a_b, (oc6 5 24 a_bn e_b)), (a_bn, (arI G 120 f_b)), (a_p, (oc6 8 5 a_pn e_p)), (a_pn, (arI G 40 f_p)), (a_bb, (arJ G 24 f_bb)), (a_j, (oc2 a_as a_sk)), (a_as, (arI G 8 f_as)), (a_sk, (arJ G 50 f_sk)), (a_l, (arW G 6 f_l)), (a_pt, (arI G 200 f_pt))] sz) := by
  refine Met.ofW (cc := cX5_cellsFrom) (maxL := 7) (ret := (some .long)) (by decide +kernel) rfl ?_
  intro p e s m args below meth c s₁ B hml hv
  obtain ⟨rfl, hsz, hP, hK, hD0, hN, hT⟩ := hv
  have hx := B.exec
  have hb := B.bytes
  have hr := B.returns
  have hts : ∀ w ∈ tblG, w.before _ s = true := fun w h => atoms_spec (ws := (wsG yX5_cellsFrom cX5_cellsFrom 7 (some .long))) B.pre w (List.mem_cons_of_mem _ h)
  have hown : s.vm.findClass RX5 = some m.cls := findClass_of_methodNamed B.named
  have hlocks := B.notSynchronized
  subst hsz
  have hD := hD0.self (sz := s.heap.size)
  generalize hAe : va_A [(a_k, (oc5 a_h a_j a_pt e_ln e_se e_lh e_br e_we e_me e_ce e_wy e_ho e_ov)), (a_h, (oc1 e_wa e_le e_st e_fo e_lc a_l a_g a_b a_s a_p a_w e_gb a_bb)), (a_g, (oc6 6 5 a_gn e_g)), (a_gn, (arI G 30 f_g)), (a_b, (oc6 5 24 a_bn e_b)), (a_bn, (arI G 120 f_b)), (a_p, (oc6 8 5 a_pn e_p)), (a_pn, (arI G 40 f_p)), (a_bb, (arJ G 24 f_bb)), (a_j, (oc2 a_as a_sk)), (a_as, (arI G 8 f_as)), (a_sk, (arJ G 50 f_sk)), (a_l, (arW G 6 f_l)), (a_pt, (arI G 200 f_pt))] s.heap.size = A at hD hT ⊢
  have hA : ∀ q : Nat, s.heap.size ≤ q → A q := fun q h => by rw [← hAe]; exact Or.inr h
  have hS : va_S A s.heap s.heap [] := va_S.rf
  replace hP : va_P G.1 vwCl [(a_k, (oc5 a_h a_j a_pt e_ln e_se e_lh e_br e_we e_me e_ce e_wy e_ho e_ov)), (a_h, (oc1 e_wa e_le e_st e_fo e_lc a_l a_g a_b a_s a_p a_w e_gb a_bb)), (a_g, (oc6 6 5 a_gn e_g)), (a_gn, (arI G 30 f_g)), (a_b, (oc6 5 24 a_bn e_b)), (a_bn, (arI G 120 f_b)), (a_p, (oc6 8 5 a_pn e_p)), (a_pn, (arI G 40 f_p)), (a_bb, (arJ G 24 f_bb)), (a_j, (oc2 a_as a_sk)), (a_as, (arI G 8 f_as)), (a_sk, (arJ G 50 f_sk)), (a_l, (arW G 6 f_l)), (a_pt, (arI G 200 f_pt))] s.heap := hP
  have hl := lv_entry ([.ref a_k, .int p_c, .int p_h]) (n := 7) (Nat.le_of_ble_eq_true rfl)
  rw [lg_entry_eq]
  generalize (lg_sl ([.ref a_k, .int p_c, .int p_h]) ++ List.replicate (7 - (lg_sl ([.ref a_k, .int p_c, .int p_h])).length) Slot.unset).toArray = ls at hl ⊢
  replace hl : lv_has ls 7 [(0, .ref a_k), (1, .int p_c), (2, .int p_h)] := hl
  refine lv_lconst (v := 0) hx hb dX5_cellsFrom_0 (by decide +kernel) ?_
  refine lv_lstore_n (lv' := [(3, .long 0), (0, .ref a_k), (1, .int p_c), (2, .int p_h)]) hx hb dX5_cellsFrom_1 rfl hl (by decide +kernel) rfl ?_
  clear hl
  intro ls hl
  refine lv_iconst (v := 0) hx hb dX5_cellsFrom_2 (by decide +kernel) ?_
  refine lv_istore (lv' := [(5, .int 0), (3, .long 0), (0, .ref a_k), (1, .int p_c), (2, .int p_h)]) hx hb dX5_cellsFrom_3 hl (by decide +kernel) rfl ?_
  clear hl
  intro ls hl
  refine g5_loop (α := (Int32) × (Int64) × (Int32) × (Int32) × (Int32) × (Int32) × (Int32) × (Int32) × (Int32) × (Int32) × (Int32) × (Nat → Int32) × (Nat → Int32) × (Nat → Int64) × (Int32)) (fun (q : (Int32) × (Int64) × (Int32) × (Int32) × (Int32) × (Int32) × (Int32) × (Int32) × (Int32) × (Int32) × (Int32) × (Nat → Int32) × (Nat → Int32) × (Nat → Int64) × (Int32)) (ls : Array Slot) (H : Heap) (locs : List Loc) => match q with | (k_d, k_b, k_se, k_lh, k_br, k_we, k_me, k_ce, k_wy, k_ho, k_ov, k_pt, k_as, k_sk, k_ln) => lv_has ls 7 [(3, .long k_b), (5, .int k_d), (0, .ref a_k), (1, .int p_c), (2, .int p_h)] ∧ va_P G.1 vwCl [(a_k, (oc5 a_h a_j a_pt k_ln k_se k_lh k_br k_we k_me k_ce k_wy k_ho k_ov)), (a_h, (oc1 e_wa e_le e_st e_fo e_lc a_l a_g a_b a_s a_p a_w e_gb a_bb)), (a_g, (oc6 6 5 a_gn e_g)), (a_gn, (arI G 30 f_g)), (a_b, (oc6 5 24 a_bn e_b)), (a_bn, (arI G 120 f_b)), (a_p, (oc6 8 5 a_pn e_p)), (a_pn, (arI G 40 f_p)), (a_bb, (arJ G 24 f_bb)), (a_j, (oc2 a_as a_sk)), (a_as, (arI G 8 k_as)), (a_sk, (arJ G 50 k_sk)), (a_l, (arW G 6 f_l)), (a_pt, (arI G 200 k_pt))] H ∧ va_D A [(a_k, (oc5 a_h a_j a_pt k_ln k_se k_lh k_br k_we k_me k_ce k_wy k_ho k_ov)), (a_h, (oc1 e_wa e_le e_st e_fo e_lc a_l a_g a_b a_s a_p a_w e_gb a_bb)), (a_g, (oc6 6 5 a_gn e_g)), (a_gn, (arI G 30 f_g)), (a_b, (oc6 5 24 a_bn e_b)), (a_bn, (arI G 120 f_b)), (a_p, (oc6 8 5 a_pn e_p)), (a_pn, (arI G 40 f_p)), (a_bb, (arJ G 24 f_bb)), (a_j, (oc2 a_as a_sk)), (a_as, (arI G 8 k_as)), (a_sk, (arJ G 50 k_sk)), (a_l, (arW G 6 f_l)), (a_pt, (arI G 200 k_pt))] ∧ va_S A s.heap H locs ∧ (0 ≤ k_d.toInt ∧ k_d.toInt ≤ 4) ∧ (0 ≤ k_ov.toInt ∧ k_ov.toInt ≤ 1)) (fun (q : (Int32) × (Int64) × (Int32) × (Int32) × (Int32) × (Int32) × (Int32) × (Int32) × (Int32) × (Int32) × (Int32) × (Nat → Int32) × (Nat → Int32) × (Nat → Int64) × (Int32)) => match q with | (k_d, k_b, k_se, k_lh, k_br, k_we, k_me, k_ce, k_wy, k_ho, k_ov, k_pt, k_as, k_sk, k_ln) => Int.toNat (4 - k_d.toInt)) (0, 0, e_se, e_lh, e_br, e_we, e_me, e_ce, e_wy, e_ho, e_ov, f_pt, f_as, f_sk, e_ln) ⟨lv_sub hl [1, 0, 2, 3, 4] rfl, hP, hD, hS, ⟨by decide, by decide⟩, h_e_ov⟩ ?_
  rintro ⟨k_d, k_b, k_se, k_lh, k_br, k_we, k_me, k_ce, k_wy, k_ho, k_ov, k_pt, k_as, k_sk, k_ln⟩ ls H locs ⟨hl, hP, hD, hS, (i_1 : 0 ≤ k_d.toInt ∧ k_d.toInt ≤ 4), (i_2 : 0 ≤ k_ov.toInt ∧ k_ov.toInt ≤ 1)⟩ ih_5_3
  replace hl : lv_has ls 7 [(3, .long k_b), (5, .int k_d), (0, .ref a_k), (1, .int p_c), (2, .int p_h)] := hl
  refine g5_rs [(a_k, (oc5 a_h a_j a_pt k_ln k_se k_lh k_br k_we k_me k_ce k_wy k_ho k_ov)), (a_h, (oc1 e_wa e_le e_st e_fo e_lc a_l a_g a_b a_s a_p a_w e_gb a_bb)), (a_g, (oc6 6 5 a_gn e_g)), (a_gn, (arI G 30 f_g)), (a_b, (oc6 5 24 a_bn e_b)), (a_bn, (arI G 120 f_b)), (a_p, (oc6 8 5 a_pn e_p)), (a_pn, (arI G 40 f_p)), (a_bb, (arJ G 24 f_bb)), (a_j, (oc2 a_as a_sk)), (a_as, (arI G 8 k_as)), (a_sk, (arJ G 50 k_sk)), (a_l, (arW G 6 f_l)), (a_pt, (arI G 200 k_pt))] hP hD ?_
  clear hP hD
  intro hP hD
  refine lv_iload hx hb dX5_cellsFrom_5 (lv_at hl 1 rfl) ?_
  refine lv_iconst (v := 4) hx hb dX5_cellsFrom_7 (by decide +kernel) ?_
  refine lv_icmp_ge (tgt := 59) hx hb dX5_cellsFrom_8 (by decide +kernel) (fun c_4 => ?_) (fun c_4 => ?_)
  ·
    have i_4 : k_d.toInt ≥ 4 := g5_ge (a := k_d.toInt) (b := 4) rfl (by decide +kernel) c_4
    refine lv_lload_n hx hb dX5_cellsFrom_59 rfl (lv_at hl 0 rfl) ?_
    exact W.lret (v := k_b) hx hb hr (fun t ht hW => ⟨⟨k_b, [(a_k, (oc5 a_h a_j a_pt k_ln k_se k_lh k_br k_we k_me k_ce k_wy k_ho k_ov)), (a_h, (oc1 e_wa e_le e_st e_fo e_lc a_l a_g a_b a_s a_p a_w e_gb a_bb)), (a_g, (oc6 6 5 a_gn e_g)), (a_gn, (arI G 30 f_g)), (a_b, (oc6 5 24 a_bn e_b)), (a_bn, (arI G 120 f_b)), (a_p, (oc6 8 5 a_pn e_p)), (a_pn, (arI G 40 f_p)), (a_bb, (arJ G 24 f_bb)), (a_j, (oc2 a_as a_sk)), (a_as, (arI G 8 k_as)), (a_sk, (arJ G 50 k_sk)), (a_l, (arW G 6 f_l)), (a_pt, (arI G 200 k_pt))], rfl, ⟨k_b, k_ln, k_se, k_lh, k_br, k_we, k_me, k_ce, k_wy, k_ho, k_ov, k_pt, k_as, k_sk, i_2, rfl, rfl⟩, by rw [ht]; exact hP.sub [0, 1, 2, 3, 4, 5, 6, 7, 8, 9, 10, 11, 12, 13] rfl, hD.sub [0, 1, 2, 3, 4, 5, 6, 7, 8, 9, 10, 11, 12, 13] (by decide +kernel) rfl⟩, hS.F ht⟩) hS.2.2 dX5_cellsFrom_60
  ·
    have i_4 : k_d.toInt < 4 := g5_geN (a := k_d.toInt) (b := 4) rfl (by decide +kernel) c_4
    refine lv_aload_n hx hb dX5_cellsFrom_11 rfl (lv_at hl 2 rfl) ?_
    refine lv_iload_n hx hb dX5_cellsFrom_12 rfl (lv_at hl 3 rfl) ?_
    refine lv_iload hx hb dX5_cellsFrom_13 (lv_at hl 1 rfl) ?_
    refine lv_iload_n hx hb dX5_cellsFrom_15 rfl (lv_at hl 4 rfl) ?_
    refine W.eq (g2 := F0 m 16 ls [.int p_h, .int k_d, .int p_c, .ref a_k]) rfl ?_
    refine lv_iconst (v := 0) hx hb dX5_cellsFrom_16 (by decide +kernel) ?_
    obtain ⟨hPc, hDc, hFc⟩ := g5_sub3 (wc := [(a_k, (oc5 a_h a_j a_pt k_ln k_se k_lh k_br k_we k_me k_ce k_wy k_ho k_ov)), (a_h, (oc1 e_wa e_le e_st e_fo e_lc a_l a_g a_b a_s a_p a_w e_gb a_bb)), (a_g, (oc6 6 5 a_gn e_g)), (a_gn, (arI G 30 f_g)), (a_b, (oc6 5 24 a_bn e_b)), (a_bn, (arI G 120 f_b)), (a_p, (oc6 8 5 a_pn e_p)), (a_pn, (arI G 40 f_p)), (a_bb, (arJ G 24 f_bb)), (a_j, (oc2 a_as a_sk)), (a_as, (arI G 8 k_as)), (a_sk, (arJ G 50 k_sk)), (a_l, (arW G 6 f_l)), (a_pt, (arI G 200 k_pt))]) hP hD hS hA [0, 1, 2, 3, 4, 5, 6, 7, 8, 9, 10, 11, 12, 13] (by decide +kernel) rfl
    refine va_callv (va_runV (As := [.int p_c, .int k_d, .int p_h, .int 0]) (rest := []) ⟨hx, hb, hml, hown, hts⟩ (k_runN l G a_k a_h a_g a_gn a_b a_bn a_p a_pn a_bb a_j a_as a_sk a_l a_pt a_s a_w H.size e_le e_st e_fo e_lc e_g e_b e_p k_ln k_se k_lh k_br k_we k_me k_ce k_wy k_ho k_ov p_c k_d p_h 0 e_wa e_gb f_g f_b f_p f_bb k_as k_sk f_l k_pt h_e_g h_e_b h_e_p i_2 (e_gk) (e_pk) (e_gi) (e_f)) (cwV 4 hts gV_X5_91 rfl rfl rfl hv_X5_run ⟨Nat.le_of_ble_eq_true rfl, Nat.le_of_ble_eq_true rfl⟩) (g5_preV hPc hK hDc hN hT hS hFc (ci := 5) (q0 := 0) rfl rfl) rfl rfl hl.1 rfl (lv_room (Nat.le_of_ble_eq_true rfl)) dX5_cellsFrom_17 ⟨Nat.le_of_ble_eq_true rfl, Nat.le_of_ble_eq_true rfl⟩) hS (fun q _ h => hFc q h) hFc (fun u t H locs ht hvm hw hB hz1 hk1 hS => ?_)
    obtain ⟨hP1, hD1⟩ := hB
    have hP1 := g5_ht ht hP1
    obtain ⟨z8, z9, z10, z11, z12, z13, z14, z15, z16, z17, z18, z19, z20, (i_5 : 0 ≤ z8.toInt ∧ z8.toInt ≤ 200), (i_6 : 0 ≤ z17.toInt ∧ z17.toInt ≤ 1), (i_7 : ∀ j : Nat, (j : Int) < z8.toInt → 0 ≤ (z18 j).toInt ∧ (z18 j).toInt ≤ 1535), rfl⟩ := hw
    have hJ9 := va_join (wr := []) hP hD [0, 1, 2, 3, 4, 5, 6, 7, 8, 9, 10, 11, 12, 13] [] rfl rfl (by decide +kernel) (by decide +kernel) hk1 hFc hP1 hD1
    clear hP hD hPc hDc hFc ht hvm hz1 hk1 hP1 hD1
    obtain ⟨hP, hD⟩ := hJ9
    refine g5_rs [(a_k, (oc5 a_h a_j a_pt z8 z9 z10 z11 z12 z13 z14 z15 z16 z17)), (a_h, (oc1 e_wa e_le e_st e_fo e_lc a_l a_g a_b a_s a_p a_w e_gb a_bb)), (a_g, (oc6 6 5 a_gn e_g)), (a_gn, (arI G 30 f_g)), (a_b, (oc6 5 24 a_bn e_b)), (a_bn, (arI G 120 f_b)), (a_p, (oc6 8 5 a_pn e_p)), (a_pn, (arI G 40 f_p)), (a_bb, (arJ G 24 f_bb)), (a_j, (oc2 a_as a_sk)), (a_as, (arI G 8 z19)), (a_sk, (arJ G 50 z20)), (a_l, (arW G 6 f_l)), (a_pt, (arI G 200 z18))] hP hD ?_
    clear hP hD
    intro hP hD
    refine lv_iconst (v := 0) hx hb dX5_cellsFrom_20 (by decide +kernel) ?_
    refine lv_istore (lv' := [(6, .int 0), (3, .long k_b), (5, .int k_d), (0, .ref a_k), (1, .int p_c), (2, .int p_h)]) hx hb dX5_cellsFrom_21 hl (by decide +kernel) rfl ?_
    clear hl
    intro ls hl
    refine g5_loop (α := (Int32) × (Int64)) (fun (q : (Int32) × (Int64)) (ls : Array Slot) (H : Heap) (locs : List Loc) => match q with | (k_i, k_x) => lv_has ls 7 [(3, .long k_x), (6, .int k_i), (5, .int k_d), (0, .ref a_k), (1, .int p_c), (2, .int p_h)] ∧ va_P G.1 vwCl [(a_k, (oc5 a_h a_j a_pt z8 z9 z10 z11 z12 z13 z14 z15 z16 z17)), (a_h, (oc1 e_wa e_le e_st e_fo e_lc a_l a_g a_b a_s a_p a_w e_gb a_bb)), (a_g, (oc6 6 5 a_gn e_g)), (a_gn, (arI G 30 f_g)), (a_b, (oc6 5 24 a_bn e_b)), (a_bn, (arI G 120 f_b)), (a_p, (oc6 8 5 a_pn e_p)), (a_pn, (arI G 40 f_p)), (a_bb, (arJ G 24 f_bb)), (a_j, (oc2 a_as a_sk)), (a_as, (arI G 8 z19)), (a_sk, (arJ G 50 z20)), (a_l, (arW G 6 f_l)), (a_pt, (arI G 200 z18))] H ∧ va_D A [(a_k, (oc5 a_h a_j a_pt z8 z9 z10 z11 z12 z13 z14 z15 z16 z17)), (a_h, (oc1 e_wa e_le e_st e_fo e_lc a_l a_g a_b a_s a_p a_w e_gb a_bb)), (a_g, (oc6 6 5 a_gn e_g)), (a_gn, (arI G 30 f_g)), (a_b, (oc6 5 24 a_bn e_b)), (a_bn, (arI G 120 f_b)), (a_p, (oc6 8 5 a_pn e_p)), (a_pn, (arI G 40 f_p)), (a_bb, (arJ G 24 f_bb)), (a_j, (oc2 a_as a_sk)), (a_as, (arI G 8 z19)), (a_sk, (arJ G 50 z20)), (a_l, (arW G 6 f_l)), (a_pt, (arI G 200 z18))] ∧ va_S A s.heap H locs ∧ (0 ≤ k_i.toInt ∧ k_i.toInt ≤ 200)) (fun (q : (Int32) × (Int64)) => match q with | (k_i, k_x) => Int.toNat (200 - k_i.toInt)) (0, k_b) ⟨lv_sub hl [1, 0, 2, 3, 4, 5] rfl, hP, hD, hS, ⟨by decide, by decide⟩⟩ ?_
    rintro ⟨k_i, k_x⟩ ls H locs ⟨hl, hP, hD, hS, (i_21 : 0 ≤ k_i.toInt ∧ k_i.toInt ≤ 200)⟩ ih_23_22
    replace hl : lv_has ls 7 [(3, .long k_x), (6, .int k_i), (5, .int k_d), (0, .ref a_k), (1, .int p_c), (2, .int p_h)] := hl
    refine g5_rs [(a_k, (oc5 a_h a_j a_pt z8 z9 z10 z11 z12 z13 z14 z15 z16 z17)), (a_h, (oc1 e_wa e_le e_st e_fo e_lc a_l a_g a_b a_s a_p a_w e_gb a_bb)), (a_g, (oc6 6 5 a_gn e_g)), (a_gn, (arI G 30 f_g)), (a_b, (oc6 5 24 a_bn e_b)), (a_bn, (arI G 120 f_b)), (a_p, (oc6 8 5 a_pn e_p)), (a_pn, (arI G 40 f_p)), (a_bb, (arJ G 24 f_bb)), (a_j, (oc2 a_as a_sk)), (a_as, (arI G 8 z19)), (a_sk, (arJ G 50 z20)), (a_l, (arW G 6 f_l)), (a_pt, (arI G 200 z18))] hP hD ?_
    clear hP hD
    intro hP hD
    refine lv_iload hx hb dX5_cellsFrom_23 (lv_at hl 1 rfl) ?_
    refine lv_aload_n hx hb dX5_cellsFrom_25 rfl (lv_at hl 3 rfl) ?_
    refine va_get (D := G.1) (ci := 5) (v := .int z8) (C := RX5) (T := TX5) (N := 13) hx hb hts inG_X5 hown hK hP 0 rfl rfl 3 (by decide +kernel) (hts _ fl_X5_36) (fun _ h9 => h9) rfl dX5_cellsFrom_26 ?_
    refine lv_icmp_ge (tgt := 53) hx hb dX5_cellsFrom_29 (by decide +kernel) (fun c_23 => ?_) (fun c_23 => ?_)
    ·
      have i_23 : k_i.toInt ≥ z8.toInt := g5_ge (a := k_i.toInt) (b := z8.toInt) rfl rfl c_23
      refine lv_iinc (v := (k_d + 1)) (lv' := [(5, .int (k_d + 1)), (3, .long k_x), (6, .int k_i), (0, .ref a_k), (1, .int p_c), (2, .int p_h)]) hx hb dX5_cellsFrom_53 hl (k := 2) rfl rfl (by decide +kernel) rfl ?_
      clear hl
      intro ls hl
      have t_24 : (k_d + 1).toInt = k_d.toInt + 1 := g5_iadd (a := k_d.toInt) (b := 1) rfl (by decide +kernel) (by omega) (by omega)
      refine lv_goto (tgt := 5) hx hb dX5_cellsFrom_56 (by decide +kernel) ?_
      exact ih_5_3 ((k_d + 1), k_x, z9, z10, z11, z12, z13, z14, z15, z16, z17, z18, z19, z20, z8) ls H locs (show Int.toNat (4 - (k_d + 1).toInt) < Int.toNat (4 - k_d.toInt) from g_up (show k_d.toInt < (k_d + 1).toInt by omega) (show k_d.toInt < 4 by omega)) ⟨lv_sub hl [1, 0, 3, 4, 5] rfl, hP, hD, hS, ⟨by omega, by omega⟩, i_6⟩
    ·
      have i_23 : k_i.toInt < z8.toInt := g5_geN (a := k_i.toInt) (b := z8.toInt) rfl rfl c_23
      refine lv_lload_n hx hb dX5_cellsFrom_32 rfl (lv_at hl 0 rfl) ?_
      refine lv_lconst (v := 1) hx hb dX5_cellsFrom_33 (by decide +kernel) ?_
      refine lv_aload_n hx hb dX5_cellsFrom_34 rfl (lv_at hl 3 rfl) ?_
      refine va_get (D := G.1) (ci := 5) (v := .ref a_pt) (C := RX5) (T := TX5) (N := 13) hx hb hts inG_X5 hown hK hP 0 rfl rfl 2 (by decide +kernel) (hts _ fl_X5_18) (fun _ h9 => h9) rfl dX5_cellsFrom_35 ?_
      refine W.eq (g2 := F0 m 38 ls [.ref a_pt, .long 1, .long k_x]) rfl ?_
      refine lv_iload hx hb dX5_cellsFrom_38 (lv_at hl 1 rfl) ?_
      refine va_iald hx hb hK hP 13 0 rfl rfl (i := k_i) (vp_in_iff.mpr ⟨by omega, by omega⟩) dX5_cellsFrom_40 ?_
      have hp_25 : 0 ≤ (z18 k_i.toNatClampNeg).toInt ∧ (z18 k_i.toNatClampNeg).toInt ≤ 1535 := i_7 _ (by have zz := g5_clamp k_i; omega)
      refine lv_bipush (v := 64) hx hb dX5_cellsFrom_41 (by decide +kernel) ?_
      refine lv_irem hx hb dX5_cellsFrom_43 (by decide +kernel) ?_
      have t_26 : ((z18 k_i.toNatClampNeg) - (z18 k_i.toNatClampNeg) / 64 * 64).toInt = (z18 k_i.toNatClampNeg).toInt % 64 := g5_irem (a := (z18 k_i.toNatClampNeg).toInt) (b := 64) rfl (by decide +kernel) (by omega) (by decide +kernel)
      refine lv_lshl (v := ((1 : Int64) <<< (((z18 k_i.toNatClampNeg) - (z18 k_i.toNatClampNeg) / 64 * 64).toInt64 &&& 63))) hx hb dX5_cellsFrom_44 rfl ?_
      refine W.eq (g2 := F0 m 45 ls [.long ((1 : Int64) <<< (((z18 k_i.toNatClampNeg) - (z18 k_i.toNatClampNeg) / 64 * 64).toInt64 &&& 63)), .long k_x]) rfl ?_
      refine lv_lor hx hb dX5_cellsFrom_45 ?_
      refine lv_lstore_n (lv' := [(3, .long (k_x ||| ((1 : Int64) <<< (((z18 k_i.toNatClampNeg) - (z18 k_i.toNatClampNeg) / 64 * 64).toInt64 &&& 63)))), (6, .int k_i), (5, .int k_d), (0, .ref a_k), (1, .int p_c), (2, .int p_h)]) hx hb dX5_cellsFrom_46 rfl hl (by decide +kernel) rfl ?_
      clear hl
      intro ls hl
      refine lv_iinc (v := (k_i + 1)) (lv' := [(6, .int (k_i + 1)), (3, .long (k_x ||| ((1 : Int64) <<< (((z18 k_i.toNatClampNeg) - (z18 k_i.toNatClampNeg) / 64 * 64).toInt64 &&& 63)))), (5, .int k_d), (0, .ref a_k), (1, .int p_c), (2, .int p_h)]) hx hb dX5_cellsFrom_47 hl (k := 1) rfl rfl (by decide +kernel) rfl ?_
      clear hl
      intro ls hl
      have t_27 : (k_i + 1).toInt = k_i.toInt + 1 := g5_iadd (a := k_i.toInt) (b := 1) rfl (by decide +kernel) (by omega) (by omega)
      refine lv_goto (tgt := 23) hx hb dX5_cellsFrom_50 (by decide +kernel) ?_
      exact ih_23_22 ((k_i + 1), (k_x ||| ((1 : Int64) <<< (((z18 k_i.toNatClampNeg) - (z18 k_i.toNatClampNeg) / 64 * 64).toInt64 &&& 63)))) ls H locs (show Int.toNat (200 - (k_i + 1).toInt) < Int.toNat (200 - k_i.toInt) from g_up (show k_i.toInt < (k_i + 1).toInt by omega) (show k_i.toInt < 200 by omega)) ⟨lv_sub hl [1, 0, 2, 3, 4, 5] rfl, hP, hD, hS, ⟨by omega, by omega⟩⟩
theorem dgX5_lateness_0 : ∀ r ∈ ([(0, (.iconst (-1), 1)), (1, (.istore 4, 2)), (3, (.iconst 0, 1)), (4, (.istore 5, 2)), (6, (.iload 5, 2)), (8, (.iconst 4, 1)), (9, (.if_icmp .ge 51, 3)), (12, (.aload_n 0, 1)), (13, (.iload_n 1, 1)), (14, (.iload 5, 2)), (16, (.iload_n 2, 1)), (17, (.iconst 0, 1)), (18, (.invokevirtual 91, 3)), (21, (.iload_n 2, 1)), (22, (.aload_n 0, 1)), (23, (.getfield 42, 3)), (26, (.isub, 1)), (27, (.istore 6, 2)), (29, (.aload_n 0, 1)), (30, (.getfield 39, 3)), (33, (.iload_n 3, 1)), (34, (.if_icmp .ne 20, 3)), (37, (.iload 4, 2)), (39, (.iconst (-1), 1)), (40, (.if_icmp .eq 10, 3)), (43, (.iload 6, 2)), (45, (.iload 4, 2)), (47, (.if_icmp .ge 7, 3)), (50, (.iload 6, 2)), (52, (.istore 4, 2)), (54, (.iinc 5 1, 3)), (57, (.goto (-51), 3)), (60, (.iload 4, 2)), (62, (.ireturn, 1))] : List (Nat × (Instr × Nat))), decode cX5_lateness r.1 = .ok r.2 := by decide +kernel
theorem dX5_lateness_0 : decode cX5_lateness 0 = .ok (.iconst (-1), 1) := dgX5_lateness_0 (0, (.iconst (-1), 1)) (List.mem_of_getElem? (i := 0) rfl)
theorem dX5_lateness_1 : decode cX5_lateness 1 = .ok (.istore 4, 2) := dgX5_lateness_0 (1, (.istore 4, 2)) (List.mem_of_getElem? (i := 1) rfl)
theorem dX5_lateness_3 : decode cX5_lateness 3 = .ok (.iconst 0, 1) := dgX5_lateness_0 (3, (.iconst 0, 1)) (List.mem_of_getElem? (i := 2) rfl)
theorem dX5_lateness_4 : decode cX5_lateness 4 = .ok (.istore 5, 2) := dgX5_lateness_0 (4, (.istore 5, 2)) (List.mem_of_getElem? (i := 3) rfl)
theorem dX5_lateness_6 : decode cX5_lateness 6 = .ok (.iload 5, 2) := dgX5_lateness_0 (6, (.iload 5, 2)) (List.mem_of_getElem? (i := 4) rfl)
theorem dX5_lateness_8 : decode cX5_lateness 8 = .ok (.iconst 4, 1) := dgX5_lateness_0 (8, (.iconst 4, 1)) (List.mem_of_getElem? (i := 5) rfl)
theorem dX5_lateness_9 : decode cX5_lateness 9 = .ok (.if_icmp .ge 51, 3) := dgX5_lateness_0 (9, (.if_icmp .ge 51, 3)) (List.mem_of_getElem? (i := 6) rfl)
theorem dX5_lateness_12 : decode cX5_lateness 12 = .ok (.aload_n 0, 1) := dgX5_lateness_0 (12, (.aload_n 0, 1)) (List.mem_of_getElem? (i := 7) rfl)
theorem dX5_lateness_13 : decode cX5_lateness 13 = .ok (.iload_n 1, 1) := dgX5_lateness_0 (13, (.iload_n 1, 1)) (List.mem_of_getElem? (i := 8) rfl)
theorem dX5_lateness_14 : decode cX5_lateness 14 = .ok (.iload 5, 2) := dgX5_lateness_0 (14, (.iload 5, 2)) (List.mem_of_getElem? (i := 9) rfl)
theorem dX5_lateness_16 : decode cX5_lateness 16 = .ok (.iload_n 2, 1) := dgX5_lateness_0 (16, (.iload_n 2, 1)) (List.mem_of_getElem? (i := 10) rfl)
theorem dX5_lateness_17 : decode cX5_lateness 17 = .ok (.iconst 0, 1) := dgX5_lateness_0 (17, (.iconst 0, 1)) (List.mem_of_getElem? (i := 11) rfl)
theorem dX5_lateness_18 : decode cX5_lateness 18 = .ok (.invokevirtual 91, 3) := dgX5_lateness_0 (18, (.invokevirtual 91, 3)) (List.mem_of_getElem? (i := 12) rfl)
theorem dX5_lateness_21 : decode cX5_lateness 21 = .ok (.iload_n 2, 1) := dgX5_lateness_0 (21, (.iload_n 2, 1)) (List.mem_of_getElem? (i := 13) rfl)
theorem dX5_lateness_22 : decode cX5_lateness 22 = .ok (.aload_n 0, 1) := dgX5_lateness_0 (22, (.aload_n 0, 1)) (List.mem_of_getElem? (i := 14) rfl)
theorem dX5_lateness_23 : decode cX5_lateness 23 = .ok (.getfield 42, 3) := dgX5_lateness_0 (23, (.getfield 42, 3)) (List.mem_of_getElem? (i := 15) rfl)
theorem dX5_lateness_26 : decode cX5_lateness 26 = .ok (.isub, 1) := dgX5_lateness_0 (26, (.isub, 1)) (List.mem_of_getElem? (i := 16) rfl)
theorem dX5_lateness_27 : decode cX5_lateness 27 = .ok (.istore 6, 2) := dgX5_lateness_0 (27, (.istore 6, 2)) (List.mem_of_getElem? (i := 17) rfl)
theorem dX5_lateness_29 : decode cX5_lateness 29 = .ok (.aload_n 0, 1) := dgX5_lateness_0 (29, (.aload_n 0, 1)) (List.mem_of_getElem? (i := 18) rfl)
theorem dX5_lateness_30 : decode cX5_lateness 30 = .ok (.getfield 39, 3) := dgX5_lateness_0 (30, (.getfield 39, 3)) (List.mem_of_getElem? (i := 19) rfl)
theorem dX5_lateness_33 : decode cX5_lateness 33 = .ok (.iload_n 3, 1) := dgX5_lateness_0 (33, (.iload_n 3, 1)) (List.mem_of_getElem? (i := 20) rfl)
theorem dX5_lateness_34 : decode cX5_lateness 34 = .ok (.if_icmp .ne 20, 3) := dgX5_lateness_0 (34, (.if_icmp .ne 20, 3)) (List.mem_of_getElem? (i := 21) rfl)
theorem dX5_lateness_37 : decode cX5_lateness 37 = .ok (.iload 4, 2) := dgX5_lateness_0 (37, (.iload 4, 2)) (List.mem_of_getElem? (i := 22) rfl)
theorem dX5_lateness_39 : decode cX5_lateness 39 = .ok (.iconst (-1), 1) := dgX5_lateness_0 (39, (.iconst (-1), 1)) (List.mem_of_getElem? (i := 23) rfl)
theorem dX5_lateness_40 : decode cX5_lateness 40 = .ok (.if_icmp .eq 10, 3) := dgX5_lateness_0 (40, (.if_icmp .eq 10, 3)) (List.mem_of_getElem? (i := 24) rfl)
theorem dX5_lateness_43 : decode cX5_lateness 43 = .ok (.iload 6, 2) := dgX5_lateness_0 (43, (.iload 6, 2)) (List.mem_of_getElem? (i := 25) rfl)
theorem dX5_lateness_45 : decode cX5_lateness 45 = .ok (.iload 4, 2) := dgX5_lateness_0 (45, (.iload 4, 2)) (List.mem_of_getElem? (i := 26) rfl)
theorem dX5_lateness_47 : decode cX5_lateness 47 = .ok (.if_icmp .ge 7, 3) := dgX5_lateness_0 (47, (.if_icmp .ge 7, 3)) (List.mem_of_getElem? (i := 27) rfl)
theorem dX5_lateness_50 : decode cX5_lateness 50 = .ok (.iload 6, 2) := dgX5_lateness_0 (50, (.iload 6, 2)) (List.mem_of_getElem? (i := 28) rfl)
theorem dX5_lateness_52 : decode cX5_lateness 52 = .ok (.istore 4, 2) := dgX5_lateness_0 (52, (.istore 4, 2)) (List.mem_of_getElem? (i := 29) rfl)
theorem dX5_lateness_54 : decode cX5_lateness 54 = .ok (.iinc 5 1, 3) := dgX5_lateness_0 (54, (.iinc 5 1, 3)) (List.mem_of_getElem? (i := 30) rfl)
theorem dX5_lateness_57 : decode cX5_lateness 57 = .ok (.goto (-51), 3) := dgX5_lateness_0 (57, (.goto (-51), 3)) (List.mem_of_getElem? (i := 31) rfl)
theorem dX5_lateness_60 : decode cX5_lateness 60 = .ok (.iload 4, 2) := dgX5_lateness_0 (60, (.iload 4, 2)) (List.mem_of_getElem? (i := 32) rfl)
theorem dX5_lateness_62 : decode cX5_lateness 62 = .ok (.ireturn, 1) := dgX5_lateness_0 (62, (.ireturn, 1)) (List.mem_of_getElem? (i := 33) rfl)
set_option maxHeartbeats 4000000 in
set_option maxRecDepth 100000 in
theorem s_latenessN (l : Launch) (G : g5_G) (a_k a_h a_g a_gn a_b a_bn a_p a_pn a_bb a_j a_as a_sk a_l a_pt a_s a_w : Nat) (sz : Nat) (e_le : Int32) (e_st : Int32) (e_fo : Int32) (e_lc : Int32) (e_g : Int32) (e_b : Int32) (e_p : Int32) (e_ln : Int32) (e_se : Int32) (e_lh : Int32) (e_br : Int32) (e_we : Int32) (e_me : Int32) (e_ce : Int32) (e_wy : Int32) (e_ho : Int32) (e_ov : Int32) (p_c : Int32) (p_h : Int32) (p_b : Int32) (e_wa : Int64) (e_gb : Int64) (f_g : Nat → Int32) (f_b : Nat → Int32) (f_p : Nat → Int32) (f_bb : Nat → Int64) (f_as : Nat → Int32) (f_sk : Nat → Int64) (f_l : Nat → Option Nat) (f_pt : Nat → Int32) (h_e_g : 0 ≤ e_g.toInt ∧ e_g.toInt ≤ 6) (h_e_b : 0 ≤ e_b.toInt ∧ e_b.toInt ≤ 5) (h_e_p : 0 ≤ e_p.toInt ∧ e_p.toInt ≤ 8) (h_e_ov : 0 ≤ e_ov.toInt ∧ e_ov.toInt ≤ 1) (e_gk : gOK f_g e_g.toInt) (e_pk : gOK f_p e_p.toInt) (e_gi : inT e_gb f_g e_g.toInt) (e_f : e_fo.toInt < 0 ∨ e_lc.toInt ≤ e_fo.toInt) : Met l yX5_lateness (wsG yX5_lateness cX5_lateness 7 (some .int)) ({ frames := 14, cells := 0, slots := 0, locals := 556 }) (va_Pc [.ref a_k, .int p_c, .int p_h, .int p_b] (g5_P G [(a_k, (oc5 a_h a_j a_pt e_ln e_se e_lh e_br e_we e_me e_ce e_wy e_ho e_ov)), (a_h, (oc1 e_wa e_le e_st e_fo e_lc a_l a_g a_b a_s a_p a_w e_gb a_bb)), (a_g, (oc6 6 5 a_gn e_g)), (a_gn, (arI G 30 f_g)), (a_b, (oc6 5 24 a_bn e_b)), (a_bn, (arI G 120 f_b)), (a_p, (oc6 8 5 a_pn e_p)), (a_pn, (arI G 40 f_p)), (a_bb, (arJ G 24 f_bb)), (a_j, (oc2 a_as a_sk)), (a_as, (arI G 8 f_as)), (a_sk, (arJ G 50 f_sk)), (a_l, (arW G 6 f_l)), (a_pt, (arI G 200 f_pt))] sz)) (va_Qi (fun (r : Int32) (u : va_W) => (∃ (o_r : Int32) (o_ln : Int32) (o_se : Int32) (o_lh : Int32) (o_br : Int32) (o_we : Int32) (o_me : Int32) (o_ce : Int32) (o_wy : Int32) (o_ho : Int32) (o_ov : Int32) (o_pt : Nat → Int32) (o_as : Nat → Int32) (o_sk : Nat → Int64), (0 ≤ o_ov.toInt ∧ o_ov.toInt ≤ 1) ∧ (r = o_r) ∧ (u = [(a_k, (oc5 a_h a_j a_pt o_ln o_se o_lh o_br o_we o_me o_ce o_wy o_ho o_ov)), (a_h, (oc1 e_wa e_le e_st e_fo e_lc a_l a_g a_b a_s a_p a_w e_gb a_bb)), (a_g, (oc6 6 5 a_gn e_g)), (a_gn, (arI G 30 f_g)), (a_b, (oc6 5 24 a_bn e_b)), (a_bn, (arI G 120 f_b)), (a_p, (oc6 8 5 a_pn e_p)), (a_pn, (arI G 40 f_p)), (a_bb, (arJ G 24 f_bb)), (a_j, (oc2 a_as a_sk)), (a_as, (arI G 8 o_as)), (a_sk, (arJ G 50 o_sk)), (a_l, (arW G 6 f_l)), (a_pt, (arI G 200 o_pt))]))) (g5_B G (va_A [(a_k, (oc5 a_h a_j a_pt e_ln e_se e_lh e_br e_we e_me e_ce e_wy e_ho e_ov)), (a_h, (oc1 e_wa e_le e_st e_fo e_lc a_l a_g a_b a_s a_p a_w e_gb a_bb)), (a_g, (oc6 6 5 a_gn e_g)), (a_gn, (arI G 30 f_g)), (a_b, (oc6 5 24 a_bn e_b)), (a_bn, (arI G 120 f_b)), (a_p, (oc6 8 5 a_pn e_p)), (a_pn, (arI G 40 f_p)), (a_bb, (arJ G 24 f_bb)), (a_j, (oc2 a_as a_sk)), (a_as, (arI G 8 f_as)), (a_sk, (arJ G 50 f_sk)), (a_l, (arW G 6 f_l)), (a_pt, (arI G 200 f_pt))] sz)) (va_A [(a_k, (oc5 a_h a_j a_pt e_ln e_se e_lh e_br e_we e_me e_ce e_wy e_ho e_ov)), (a_h, (oc1 e_wa e_le e_st e_fo e_lc a_l a_g a_b a_s a_p a_w e_gb a_bb)), (a_g, (oc6 6 5 a_gn e_g)), (a_gn, (arI G 30 f_g)), (a_b, (oc6 5 24 a_bn e_b)), (a_bn, (arI G 120 f_b)), (a_p, (oc6 8 5 a_pn e_p)), (a_pn, (arI G 40 f_p)), (a_bb, (arJ G 24 f_bb)), (a_j, (oc2 a_as a_sk)), (a_as, (arI G 8 f_as)), (a_sk, (arJ G 50 f_sk)), (a_l, (arW G 6 f_l)), (a_pt, (arI G 200 f_pt))] sz)) 0 0 (va_A [(a_k, (oc5 a_h a_j a_pt e_ln e_se e_lh e_br e_we e_me e_ce e_wy e_ho e_ov)), (a_h, (oc1 e_wa e_le e_st e_fo e_lc a_l a_g a_b a_s a_p a_w e_gb a_bb)), (a_g, (oc6 6 5 a_gn e_g)), (a_gn, (arI G 30 f_g)), (a_b, (oc6 5 24 a_bn e_b)), (a_bn, (arI G 120 f_b)), (a_p, (oc6 8 5 a_pn e_p)), (a_pn, (arI G 40 f_p)), (a_bb, (arJ G 24 f_bb)), (a_j, (oc2 a_as a_sk)), (a_as, (arI G 8 f_as)), (a_sk, (arJ G 50 f_sk)), (a_l, (arW G 6 f_l)), (a_pt, (arI G 200 f_pt))] sz) := by
  refine Met.ofW (cc := cX5_lateness) (maxL := 7) (ret := (some .int)) (by decide +kernel) rfl ?_
  intro p e s m args below meth c s₁ B hml hv
  obtain ⟨rfl, hsz, hP, hK, hD0, hN, hT⟩ := hv
  have hx := B.exec
  have hb := B.bytes
  have hr := B.returns
  have hts : ∀ w ∈ tblG, w.before _ s = true := fun w h => atoms_spec (ws := (wsG yX5_lateness cX5_lateness 7 (some .int))) B.pre w (List.mem_cons_of_mem _ h)
  have hown : s.vm.findClass RX5 = some m.cls := findClass_of_methodNamed B.named
  have hlocks := B.notSynchronized
  subst hsz
  have hD := hD0.self (sz := s.heap.size)
  generalize hAe : va_A [(a_k, (oc5 a_h a_j a_pt e_ln e_se e_lh e_br e_we e_me e_ce e_wy e_ho e_ov)), (a_h, (oc1 e_wa e_le e_st e_fo e_lc a_l a_g a_b a_s a_p a_w e_gb a_bb)), (a_g, (oc6 6 5 a_gn e_g)), (a_gn, (arI G 30 f_g)), (a_b, (oc6 5 24 a_bn e_b)), (a_bn, (arI G 120 f_b)), (a_p, (oc6 8 5 a_pn e_p)), (a_pn, (arI G 40 f_p)), (a_bb, (arJ G 24 f_bb)), (a_j, (oc2 a_as a_sk)), (a_as, (arI G 8 f_as)), (a_sk, (arJ G 50 f_sk)), (a_l, (arW G 6 f_l)), (a_pt, (arI G 200 f_pt))] s.heap.size = A at hD hT ⊢
  have hA : ∀ q : Nat, s.heap.size ≤ q → A q := fun q h => by rw [← hAe]; exact Or.inr h
  have hS : va_S A s.heap s.heap [] := va_S.rf
  replace hP : va_P G.1 vwCl [(a_k, (oc5 a_h a_j a_pt e_ln e_se e_lh e_br e_we e_me e_ce e_wy e_ho e_ov)), (a_h, (oc1 e_wa e_le e_st e_fo e_lc a_l a_g a_b a_s a_p a_w e_gb a_bb)), (a_g, (oc6 6 5 a_gn e_g)), (a_gn, (arI G 30 f_g)), (a_b, (oc6 5 24 a_bn e_b)), (a_bn, (arI G 120 f_b)), (a_p, (oc6 8 5 a_pn e_p)), (a_pn, (arI G 40 f_p)), (a_bb, (arJ G 24 f_bb)), (a_j, (oc2 a_as a_sk)), (a_as, (arI G 8 f_as)), (a_sk, (arJ G 50 f_sk)), (a_l, (arW G 6 f_l)), (a_pt, (arI G 200 f_pt))] s.heap := hP
  have hl := lv_entry ([.ref a_k, .int p_c, .int p_h, .int p_b]) (n := 7) (Nat.le_of_ble_eq_true rfl)
  rw [lg_entry_eq]
  generalize (lg_sl ([.ref a_k, .int p_c, .int p_h, .int p_b]) ++ List.replicate (7 - (lg_sl ([.ref a_k, .int p_c, .int p_h, .int p_b])).length) Slot.unset).toArray = ls at hl ⊢
  replace hl : lv_has ls 7 [(0, .ref a_k), (1, .int p_c), (2, .int p_h), (3, .int p_b)] := hl
  refine lv_iconst (v := (-1)) hx hb dX5_lateness_0 (by decide +kernel) ?_
  refine lv_istore (lv' := [(4, .int (-1)), (0, .ref a_k), (1, .int p_c), (2, .int p_h), (3, .int p_b)]) hx hb dX5_lateness_1 hl (by decide +kernel) rfl ?_
  clear hl
  intro ls hl
  refine lv_iconst (v := 0) hx hb dX5_lateness_3 (by decide +kernel) ?_
  refine lv_istore (lv' := [(5, .int 0), (4, .int (-1)), (0, .ref a_k), (1, .int p_c), (2, .int p_h), (3, .int p_b)]) hx hb dX5_lateness_4 hl (by decide +kernel) rfl ?_
  clear hl
  intro ls hl
  refine g5_loop (α := (Int32) × (Int32) × (Int32) × (Int32) × (Int32) × (Int32) × (Int32) × (Int32) × (Int32) × (Int32) × (Int32) × (Nat → Int32) × (Nat → Int32) × (Nat → Int64) × (Int32)) (fun (q : (Int32) × (Int32) × (Int32) × (Int32) × (Int32) × (Int32) × (Int32) × (Int32) × (Int32) × (Int32) × (Int32) × (Nat → Int32) × (Nat → Int32) × (Nat → Int64) × (Int32)) (ls : Array Slot) (H : Heap) (locs : List Loc) => match q with | (k_d, k_l, k_se, k_lh, k_br, k_we, k_me, k_ce, k_wy, k_ho, k_ov, k_pt, k_as, k_sk, k_ln) => lv_has ls 7 [(4, .int k_l), (5, .int k_d), (0, .ref a_k), (1, .int p_c), (2, .int p_h), (3, .int p_b)] ∧ va_P G.1 vwCl [(a_k, (oc5 a_h a_j a_pt k_ln k_se k_lh k_br k_we k_me k_ce k_wy k_ho k_ov)), (a_h, (oc1 e_wa e_le e_st e_fo e_lc a_l a_g a_b a_s a_p a_w e_gb a_bb)), (a_g, (oc6 6 5 a_gn e_g)), (a_gn, (arI G 30 f_g)), (a_b, (oc6 5 24 a_bn e_b)), (a_bn, (arI G 120 f_b)), (a_p, (oc6 8 5 a_pn e_p)), (a_pn, (arI G 40 f_p)), (a_bb, (arJ G 24 f_bb)), (a_j, (oc2 a_as a_sk)), (a_as, (arI G 8 k_as)), (a_sk, (arJ G 50 k_sk)), (a_l, (arW G 6 f_l)), (a_pt, (arI G 200 k_pt))] H ∧ va_D A [(a_k, (oc5 a_h a_j a_pt k_ln k_se k_lh k_br k_we k_me k_ce k_wy k_ho k_ov)), (a_h, (oc1 e_wa e_le e_st e_fo e_lc a_l a_g a_b a_s a_p a_w e_gb a_bb)), (a_g, (oc6 6 5 a_gn e_g)), (a_gn, (arI G 30 f_g)), (a_b, (oc6 5 24 a_bn e_b)), (a_bn, (arI G 120 f_b)), (a_p, (oc6 8 5 a_pn e_p)), (a_pn, (arI G 40 f_p)), (a_bb, (arJ G 24 f_bb)), (a_j, (oc2 a_as a_sk)), (a_as, (arI G 8 k_as)), (a_sk, (arJ G 50 k_sk)), (a_l, (arW G 6 f_l)), (a_pt, (arI G 200 k_pt))] ∧ va_S A s.heap H locs ∧ (0 ≤ k_d.toInt ∧ k_d.toInt ≤ 4) ∧ (0 ≤ k_ov.toInt ∧ k_ov.toInt ≤ 1)) (fun (q : (Int32) × (Int32) × (Int32) × (Int32) × (Int32) × (Int32) × (Int32) × (Int32) × (Int32) × (Int32) × (Int32) × (Nat → Int32) × (Nat → Int32) × (Nat → Int64) × (Int32)) => match q with | (k_d, k_l, k_se, k_lh, k_br, k_we, k_me, k_ce, k_wy, k_ho, k_ov, k_pt, k_as, k_sk, k_ln) => Int.toNat (4 - k_d.toInt)) (0, (-1), e_se, e_lh, e_br, e_we, e_me, e_ce, e_wy, e_ho, e_ov, f_pt, f_as, f_sk, e_ln) ⟨lv_sub hl [1, 0, 2, 3, 4, 5] rfl, hP, hD, hS, ⟨by decide, by decide⟩, h_e_ov⟩ ?_
  rintro ⟨k_d, k_l, k_se, k_lh, k_br, k_we, k_me, k_ce, k_wy, k_ho, k_ov, k_pt, k_as, k_sk, k_ln⟩ ls H locs ⟨hl, hP, hD, hS, (i_1 : 0 ≤ k_d.toInt ∧ k_d.toInt ≤ 4), (i_2 : 0 ≤ k_ov.toInt ∧ k_ov.toInt ≤ 1)⟩ ih_6_3
  replace hl : lv_has ls 7 [(4, .int k_l), (5, .int k_d), (0, .ref a_k), (1, .int p_c), (2, .int p_h), (3, .int p_b)] := hl
  refine g5_rs [(a_k, (oc5 a_h a_j a_pt k_ln k_se k_lh k_br k_we k_me k_ce k_wy k_ho k_ov)), (a_h, (oc1 e_wa e_le e_st e_fo e_lc a_l a_g a_b a_s a_p a_w e_gb a_bb)), (a_g, (oc6 6 5 a_gn e_g)), (a_gn, (arI G 30 f_g)), (a_b, (oc6 5 24 a_bn e_b)), (a_bn, (arI G 120 f_b)), (a_p, (oc6 8 5 a_pn e_p)), (a_pn, (arI G 40 f_p)), (a_bb, (arJ G 24 f_bb)), (a_j, (oc2 a_as a_sk)), (a_as, (arI G 8 k_as)), (a_sk, (arJ G 50 k_sk)), (a_l, (arW G 6 f_l)), (a_pt, (arI G 200 k_pt))] hP hD ?_
  clear hP hD
  intro hP hD
  refine lv_iload hx hb dX5_lateness_6 (lv_at hl 1 rfl) ?_
  refine lv_iconst (v := 4) hx hb dX5_lateness_8 (by decide +kernel) ?_
  refine lv_icmp_ge (tgt := 60) hx hb dX5_lateness_9 (by decide +kernel) (fun c_4 => ?_) (fun c_4 => ?_)
  ·
    have i_4 : k_d.toInt ≥ 4 := g5_ge (a := k_d.toInt) (b := 4) rfl (by decide +kernel) c_4
    refine lv_iload hx hb dX5_lateness_60 (lv_at hl 0 rfl) ?_
    exact W.iret (v := k_l) hx hb hr (fun t ht hW => ⟨⟨k_l, [(a_k, (oc5 a_h a_j a_pt k_ln k_se k_lh k_br k_we k_me k_ce k_wy k_ho k_ov)), (a_h, (oc1 e_wa e_le e_st e_fo e_lc a_l a_g a_b a_s a_p a_w e_gb a_bb)), (a_g, (oc6 6 5 a_gn e_g)), (a_gn, (arI G 30 f_g)), (a_b, (oc6 5 24 a_bn e_b)), (a_bn, (arI G 120 f_b)), (a_p, (oc6 8 5 a_pn e_p)), (a_pn, (arI G 40 f_p)), (a_bb, (arJ G 24 f_bb)), (a_j, (oc2 a_as a_sk)), (a_as, (arI G 8 k_as)), (a_sk, (arJ G 50 k_sk)), (a_l, (arW G 6 f_l)), (a_pt, (arI G 200 k_pt))], rfl, ⟨k_l, k_ln, k_se, k_lh, k_br, k_we, k_me, k_ce, k_wy, k_ho, k_ov, k_pt, k_as, k_sk, i_2, rfl, rfl⟩, by rw [ht]; exact hP.sub [0, 1, 2, 3, 4, 5, 6, 7, 8, 9, 10, 11, 12, 13] rfl, hD.sub [0, 1, 2, 3, 4, 5, 6, 7, 8, 9, 10, 11, 12, 13] (by decide +kernel) rfl⟩, hS.F ht⟩) hS.2.2 dX5_lateness_62
  ·
    have i_4 : k_d.toInt < 4 := g5_geN (a := k_d.toInt) (b := 4) rfl (by decide +kernel) c_4
    refine lv_aload_n hx hb dX5_lateness_12 rfl (lv_at hl 2 rfl) ?_
    refine lv_iload_n hx hb dX5_lateness_13 rfl (lv_at hl 3 rfl) ?_
    refine lv_iload hx hb dX5_lateness_14 (lv_at hl 1 rfl) ?_
    refine lv_iload_n hx hb dX5_lateness_16 rfl (lv_at hl 4 rfl) ?_
    refine W.eq (g2 := F0 m 17 ls [.int p_h, .int k_d, .int p_c, .ref a_k]) rfl ?_
    refine lv_iconst (v := 0) hx hb dX5_lateness_17 (by decide +kernel) ?_
    obtain ⟨hPc, hDc, hFc⟩ := g5_sub3 (wc := [(a_k, (oc5 a_h a_j a_pt k_ln k_se k_lh k_br k_we k_me k_ce k_wy k_ho k_ov)), (a_h, (oc1 e_wa e_le e_st e_fo e_lc a_l a_g a_b a_s a_p a_w e_gb a_bb)), (a_g, (oc6 6 5 a_gn e_g)), (a_gn, (arI G 30 f_g)), (a_b, (oc6 5 24 a_bn e_b)), (a_bn, (arI G 120 f_b)), (a_p, (oc6 8 5 a_pn e_p)), (a_pn, (arI G 40 f_p)), (a_bb, (arJ G 24 f_bb)), (a_j, (oc2 a_as a_sk)), (a_as, (arI G 8 k_as)), (a_sk, (arJ G 50 k_sk)), (a_l, (arW G 6 f_l)), (a_pt, (arI G 200 k_pt))]) hP hD hS hA [0, 1, 2, 3, 4, 5, 6, 7, 8, 9, 10, 11, 12, 13] (by decide +kernel) rfl
    refine va_callv (va_runV (As := [.int p_c, .int k_d, .int p_h, .int 0]) (rest := []) ⟨hx, hb, hml, hown, hts⟩ (k_runN l G a_k a_h a_g a_gn a_b a_bn a_p a_pn a_bb a_j a_as a_sk a_l a_pt a_s a_w H.size e_le e_st e_fo e_lc e_g e_b e_p k_ln k_se k_lh k_br k_we k_me k_ce k_wy k_ho k_ov p_c k_d p_h 0 e_wa e_gb f_g f_b f_p f_bb k_as k_sk f_l k_pt h_e_g h_e_b h_e_p i_2 (e_gk) (e_pk) (e_gi) (e_f)) (cwV 4 hts gV_X5_91 rfl rfl rfl hv_X5_run ⟨Nat.le_of_ble_eq_true rfl, Nat.le_of_ble_eq_true rfl⟩) (g5_preV hPc hK hDc hN hT hS hFc (ci := 5) (q0 := 0) rfl rfl) rfl rfl hl.1 rfl (lv_room (Nat.le_of_ble_eq_true rfl)) dX5_lateness_18 ⟨Nat.le_of_ble_eq_true rfl, Nat.le_of_ble_eq_true rfl⟩) hS (fun q _ h => hFc q h) hFc (fun u t H locs ht hvm hw hB hz1 hk1 hS => ?_)
    obtain ⟨hP1, hD1⟩ := hB
    have hP1 := g5_ht ht hP1
    obtain ⟨z8, z9, z10, z11, z12, z13, z14, z15, z16, z17, z18, z19, z20, (i_5 : 0 ≤ z8.toInt ∧ z8.toInt ≤ 200), (i_6 : 0 ≤ z17.toInt ∧ z17.toInt ≤ 1), (i_7 : ∀ j : Nat, (j : Int) < z8.toInt → 0 ≤ (z18 j).toInt ∧ (z18 j).toInt ≤ 1535), rfl⟩ := hw
    have hJ9 := va_join (wr := []) hP hD [0, 1, 2, 3, 4, 5, 6, 7, 8, 9, 10, 11, 12, 13] [] rfl rfl (by decide +kernel) (by decide +kernel) hk1 hFc hP1 hD1
    clear hP hD hPc hDc hFc ht hvm hz1 hk1 hP1 hD1
    obtain ⟨hP, hD⟩ := hJ9
    refine g5_rs [(a_k, (oc5 a_h a_j a_pt z8 z9 z10 z11 z12 z13 z14 z15 z16 z17)), (a_h, (oc1 e_wa e_le e_st e_fo e_lc a_l a_g a_b a_s a_p a_w e_gb a_bb)), (a_g, (oc6 6 5 a_gn e_g)), (a_gn, (arI G 30 f_g)), (a_b, (oc6 5 24 a_bn e_b)), (a_bn, (arI G 120 f_b)), (a_p, (oc6 8 5 a_pn e_p)), (a_pn, (arI G 40 f_p)), (a_bb, (arJ G 24 f_bb)), (a_j, (oc2 a_as a_sk)), (a_as, (arI G 8 z19)), (a_sk, (arJ G 50 z20)), (a_l, (arW G 6 f_l)), (a_pt, (arI G 200 z18))] hP hD ?_
    clear hP hD
    intro hP hD
    refine lv_iload_n hx hb dX5_lateness_21 rfl (lv_at hl 4 rfl) ?_
    refine lv_aload_n hx hb dX5_lateness_22 rfl (lv_at hl 2 rfl) ?_
    refine va_get (D := G.1) (ci := 5) (v := .int z10) (C := RX5) (T := TX5) (N := 13) hx hb hts inG_X5 hown hK hP 0 rfl rfl 5 (by decide +kernel) (hts _ fl_X5_42) (fun _ h9 => h9) rfl dX5_lateness_23 ?_
    refine W.eq (g2 := F0 m 26 ls [.int z10, .int p_h]) rfl ?_
    refine lv_isub hx hb dX5_lateness_26 ?_
    refine lv_istore (lv' := [(6, .int (p_h - z10)), (4, .int k_l), (5, .int k_d), (0, .ref a_k), (1, .int p_c), (2, .int p_h), (3, .int p_b)]) hx hb dX5_lateness_27 hl (by decide +kernel) rfl ?_
    clear hl
    intro ls hl
    refine lv_aload_n hx hb dX5_lateness_29 rfl (lv_at hl 3 rfl) ?_
    refine va_get (D := G.1) (ci := 5) (v := .int z9) (C := RX5) (T := TX5) (N := 13) hx hb hts inG_X5 hown hK hP 0 rfl rfl 4 (by decide +kernel) (hts _ fl_X5_39) (fun _ h9 => h9) rfl dX5_lateness_30 ?_
    refine lv_iload_n hx hb dX5_lateness_33 rfl (lv_at hl 6 rfl) ?_
    refine W.eq (g2 := F0 m 34 ls [.int p_b, .int z9]) rfl ?_
    refine lv_icmp_ne (tgt := 54) hx hb dX5_lateness_34 (by decide +kernel) (fun c_21 => ?_) (fun c_21 => ?_)
    ·
      have n_21 : gNe (z9.toInt) (p_b.toInt) := g5_ne (a := z9.toInt) (b := p_b.toInt) rfl rfl c_21
      refine lv_iinc (v := (k_d + 1)) (lv' := [(5, .int (k_d + 1)), (6, .int (p_h - z10)), (4, .int k_l), (0, .ref a_k), (1, .int p_c), (2, .int p_h), (3, .int p_b)]) hx hb dX5_lateness_54 hl (k := 2) rfl rfl (by decide +kernel) rfl ?_
      clear hl
      intro ls hl
      have t_22 : (k_d + 1).toInt = k_d.toInt + 1 := g5_iadd (a := k_d.toInt) (b := 1) rfl (by decide +kernel) (by omega) (by omega)
      refine lv_goto (tgt := 6) hx hb dX5_lateness_57 (by decide +kernel) ?_
      exact ih_6_3 ((k_d + 1), k_l, z9, z10, z11, z12, z13, z14, z15, z16, z17, z18, z19, z20, z8) ls H locs (show Int.toNat (4 - (k_d + 1).toInt) < Int.toNat (4 - k_d.toInt) from g_up (show k_d.toInt < (k_d + 1).toInt by omega) (show k_d.toInt < 4 by omega)) ⟨lv_sub hl [2, 0, 3, 4, 5, 6] rfl, hP, hD, hS, ⟨by omega, by omega⟩, i_6⟩
    ·
      have i_21 : z9.toInt = p_b.toInt := g5_neN (a := z9.toInt) (b := p_b.toInt) rfl rfl c_21
      refine lv_iload hx hb dX5_lateness_37 (lv_at hl 1 rfl) ?_
      refine lv_iconst (v := (-1)) hx hb dX5_lateness_39 (by decide +kernel) ?_
      refine lv_icmp_eq (tgt := 50) hx hb dX5_lateness_40 (by decide +kernel) (fun c_23 => ?_) (fun c_23 => ?_)
      ·
        have i_23 : k_l.toInt = (-1) := g5_eq (a := k_l.toInt) (b := (-1)) rfl (by decide +kernel) c_23
        refine lv_iload hx hb dX5_lateness_50 (lv_at hl 0 rfl) ?_
        refine lv_istore (lv' := [(4, .int (p_h - z10)), (6, .int (p_h - z10)), (5, .int k_d), (0, .ref a_k), (1, .int p_c), (2, .int p_h), (3, .int p_b)]) hx hb dX5_lateness_52 hl (by decide +kernel) rfl ?_
        clear hl
        intro ls hl
        refine lv_iinc (v := (k_d + 1)) (lv' := [(5, .int (k_d + 1)), (4, .int (p_h - z10)), (6, .int (p_h - z10)), (0, .ref a_k), (1, .int p_c), (2, .int p_h), (3, .int p_b)]) hx hb dX5_lateness_54 hl (k := 2) rfl rfl (by decide +kernel) rfl ?_
        clear hl
        intro ls hl
        have t_24 : (k_d + 1).toInt = k_d.toInt + 1 := g5_iadd (a := k_d.toInt) (b := 1) rfl (by decide +kernel) (by omega) (by omega)
        refine lv_goto (tgt := 6) hx hb dX5_lateness_57 (by decide +kernel) ?_
        exact ih_6_3 ((k_d + 1), (p_h - z10), z9, z10, z11, z12, z13, z14, z15, z16, z17, z18, z19, z20, z8) ls H locs (show Int.toNat (4 - (k_d + 1).toInt) < Int.toNat (4 - k_d.toInt) from g_up (show k_d.toInt < (k_d + 1).toInt by omega) (show k_d.toInt < 4 by omega)) ⟨lv_sub hl [1, 0, 3, 4, 5, 6] rfl, hP, hD, hS, ⟨by omega, by omega⟩, i_6⟩
      ·
        have n_23 : gNe (k_l.toInt) ((-1)) := g5_eqN (a := k_l.toInt) (b := (-1)) rfl (by decide +kernel) c_23
        refine lv_iload hx hb dX5_lateness_43 (lv_at hl 0 rfl) ?_
        refine lv_iload hx hb dX5_lateness_45 (lv_at hl 1 rfl) ?_
        refine lv_icmp_ge (tgt := 54) hx hb dX5_lateness_47 (by decide +kernel) (fun c_25 => ?_) (fun c_25 => ?_)
        ·
          have i_25 : (p_h - z10).toInt ≥ k_l.toInt := g5_ge (a := (p_h - z10).toInt) (b := k_l.toInt) rfl rfl c_25
          refine lv_iinc (v := (k_d + 1)) (lv' := [(5, .int (k_d + 1)), (6, .int (p_h - z10)), (4, .int k_l), (0, .ref a_k), (1, .int p_c), (2, .int p_h), (3, .int p_b)]) hx hb dX5_lateness_54 hl (k := 2) rfl rfl (by decide +kernel) rfl ?_
          clear hl
          intro ls hl
          have t_26 : (k_d + 1).toInt = k_d.toInt + 1 := g5_iadd (a := k_d.toInt) (b := 1) rfl (by decide +kernel) (by omega) (by omega)
          refine lv_goto (tgt := 6) hx hb dX5_lateness_57 (by decide +kernel) ?_
          exact ih_6_3 ((k_d + 1), k_l, z9, z10, z11, z12, z13, z14, z15, z16, z17, z18, z19, z20, z8) ls H locs (show Int.toNat (4 - (k_d + 1).toInt) < Int.toNat (4 - k_d.toInt) from g_up (show k_d.toInt < (k_d + 1).toInt by omega) (show k_d.toInt < 4 by omega)) ⟨lv_sub hl [2, 0, 3, 4, 5, 6] rfl, hP, hD, hS, ⟨by omega, by omega⟩, i_6⟩
        ·
          have i_25 : (p_h - z10).toInt < k_l.toInt := g5_geN (a := (p_h - z10).toInt) (b := k_l.toInt) rfl rfl c_25
          refine lv_iload hx hb dX5_lateness_50 (lv_at hl 0 rfl) ?_
          refine lv_istore (lv' := [(4, .int (p_h - z10)), (6, .int (p_h - z10)), (5, .int k_d), (0, .ref a_k), (1, .int p_c), (2, .int p_h), (3, .int p_b)]) hx hb dX5_lateness_52 hl (by decide +kernel) rfl ?_
          clear hl
          intro ls hl
          refine lv_iinc (v := (k_d + 1)) (lv' := [(5, .int (k_d + 1)), (4, .int (p_h - z10)), (6, .int (p_h - z10)), (0, .ref a_k), (1, .int p_c), (2, .int p_h), (3, .int p_b)]) hx hb dX5_lateness_54 hl (k := 2) rfl rfl (by decide +kernel) rfl ?_
          clear hl
          intro ls hl
          have t_27 : (k_d + 1).toInt = k_d.toInt + 1 := g5_iadd (a := k_d.toInt) (b := 1) rfl (by decide +kernel) (by omega) (by omega)
          refine lv_goto (tgt := 6) hx hb dX5_lateness_57 (by decide +kernel) ?_
          exact ih_6_3 ((k_d + 1), (p_h - z10), z9, z10, z11, z12, z13, z14, z15, z16, z17, z18, z19, z20, z8) ls H locs (show Int.toNat (4 - (k_d + 1).toInt) < Int.toNat (4 - k_d.toInt) from g_up (show k_d.toInt < (k_d + 1).toInt by omega) (show k_d.toInt < 4 by omega)) ⟨lv_sub hl [1, 0, 3, 4, 5, 6] rfl, hP, hD, hS, ⟨by omega, by omega⟩, i_6⟩
set_option maxHeartbeats 4000000 in
set_option maxRecDepth 100000 in
theorem s_bodiesFromL (l : Launch) (G : g5_G) (a_k a_h a_g a_gn a_b a_bn a_p a_pn a_bb a_j a_as a_sk a_l a_lo a_sr a_cd a_hd a_pt a_s a_w : Nat) (sz : Nat) (e_le : Int32) (e_st : Int32) (e_fo : Int32) (e_lc : Int32) (e_g : Int32) (e_b : Int32) (e_p : Int32) (e_cl : Int32) (e_ln : Int32) (e_se : Int32) (e_lh : Int32) (e_br : Int32) (e_we : Int32) (e_me : Int32) (e_ce : Int32) (e_wy : Int32) (e_ho : Int32) (e_ov : Int32) (p_c : Int32) (p_h : Int32) (e_wa : Int64) (e_gb : Int64) (f_g : Nat → Int32) (f_b : Nat → Int32) (f_p : Nat → Int32) (f_bb : Nat → Int64) (f_as : Nat → Int32) (f_sk : Nat → Int64) (f_l : Nat → Option Nat) (f_sr : Nat → Int32) (f_cd : Nat → Int32) (f_hd : Nat → Int32) (f_pt : Nat → Int32) (n_sr : Nat) (n_cd : Nat) (n_hd : Nat) (h_e_g : 0 ≤ e_g.toInt ∧ e_g.toInt ≤ 6) (h_e_b : 0 ≤ e_b.toInt ∧ e_b.toInt ≤ 5) (h_e_p : 0 ≤ e_p.toInt ∧ e_p.toInt ≤ 8) (h_e_cl : 0 ≤ e_cl.toInt ∧ e_cl.toInt ≤ 12) (h_e_ov : 0 ≤ e_ov.toInt ∧ e_ov.toInt ≤ 1) (e_gk : gOK f_g e_g.toInt) (e_pk : gOK f_p e_p.toInt) (e_gi : inT e_gb f_g e_g.toInt) (e_f : 0 ≤ e_fo.toInt ∧ e_fo.toInt < e_lc.toInt ∧ e_lc.toInt ≤ 6) (e_a : f_l e_fo.toNatClampNeg = some a_lo) (e_hn : n_cd ≤ 400) (e_hs : ∀ j : Nat, j < n_sr → 0 ≤ (f_sr j).toInt ∧ (f_sr j).toInt ≤ (n_cd : Int)) (e_hk : ∀ j : Nat, j < n_cd → (f_cd j >>> (12 &&& 31)).toInt = 1 → (f_cd j &&& 4095).toInt < 8) (e_c : (e_cl.toInt : Int) ≤ (n_hd : Int) ∧ (e_cl.toInt + 1 : Int) ≤ (n_sr : Int)) : Met l yX5_bodiesFrom (wsG yX5_bodiesFrom cX5_bodiesFrom 5 (some .int)) ({ frames := 14, cells := 0, slots := 0, locals := 556 }) (va_Pc [.ref a_k, .int p_c, .int p_h] (g5_P G [(a_k, (oc5 a_h a_j a_pt e_ln e_se e_lh e_br e_we e_me e_ce e_wy e_ho e_ov)), (a_h, (oc1 e_wa e_le e_st e_fo e_lc a_l a_g a_b a_s a_p a_w e_gb a_bb)), (a_g, (oc6 6 5 a_gn e_g)), (a_gn, (arI G 30 f_g)), (a_b, (oc6 5 24 a_bn e_b)), (a_bn, (arI G 120 f_b)), (a_p, (oc6 8 5 a_pn e_p)), (a_pn, (arI G 40 f_p)), (a_bb, (arJ G 24 f_bb)), (a_j, (oc2 a_as a_sk)), (a_as, (arI G 8 f_as)), (a_sk, (arJ G 50 f_sk)), (a_l, (arW G 6 f_l)), (a_lo, (oc3 e_cl a_hd a_sr a_cd)), (a_sr, (arI G n_sr f_sr)), (a_cd, (arI G n_cd f_cd)), (a_hd, (arI G n_hd f_hd)), (a_pt, (arI G 200 f_pt))] sz)) (va_Qi (fun (r : Int32) (u : va_W) => (∃ (o_r : Int32) (o_ln : Int32) (o_se : Int32) (o_lh : Int32) (o_br : Int32) (o_we : Int32) (o_me : Int32) (o_ce : Int32) (o_wy : Int32) (o_ho : Int32) (o_ov : Int32) (o_pt : Nat → Int32) (o_as : Nat → Int32) (o_sk : Nat → Int64), (0 ≤ o_ov.toInt ∧ o_ov.toInt ≤ 1) ∧ (r = o_r) ∧ (u = [(a_k, (oc5 a_h a_j a_pt o_ln o_se o_lh o_br o_we o_me o_ce o_wy o_ho o_ov)), (a_h, (oc1 e_wa e_le e_st e_fo e_lc a_l a_g a_b a_s a_p a_w e_gb a_bb)), (a_g, (oc6 6 5 a_gn e_g)), (a_gn, (arI G 30 f_g)), (a_b, (oc6 5 24 a_bn e_b)), (a_bn, (arI G 120 f_b)), (a_p, (oc6 8 5 a_pn e_p)), (a_pn, (arI G 40 f_p)), (a_bb, (arJ G 24 f_bb)), (a_j, (oc2 a_as a_sk)), (a_as, (arI G 8 o_as)), (a_sk, (arJ G 50 o_sk)), (a_l, (arW G 6 f_l)), (a_lo, (oc3 e_cl a_hd a_sr a_cd)), (a_sr, (arI G n_sr f_sr)), (a_cd, (arI G n_cd f_cd)), (a_hd, (arI G n_hd f_hd)), (a_pt, (arI G 200 o_pt))]))) (g5_B G (va_A [(a_k, (oc5 a_h a_j a_pt e_ln e_se e_lh e_br e_we e_me e_ce e_wy e_ho e_ov)), (a_h, (oc1 e_wa e_le e_st e_fo e_lc a_l a_g a_b a_s a_p a_w e_gb a_bb)), (a_g, (oc6 6 5 a_gn e_g)), (a_gn, (arI G 30 f_g)), (a_b, (oc6 5 24 a_bn e_b)), (a_bn, (arI G 120 f_b)), (a_p, (oc6 8 5 a_pn e_p)), (a_pn, (arI G 40 f_p)), (a_bb, (arJ G 24 f_bb)), (a_j, (oc2 a_as a_sk)), (a_as, (arI G 8 f_as)), (a_sk, (arJ G 50 f_sk)), (a_l, (arW G 6 f_l)), (a_lo, (oc3 e_cl a_hd a_sr a_cd)), (a_sr, (arI G n_sr f_sr)), (a_cd, (arI G n_cd f_cd)), (a_hd, (arI G n_hd f_hd)), (a_pt, (arI G 200 f_pt))] sz)) (va_A [(a_k, (oc5 a_h a_j a_pt e_ln e_se e_lh e_br e_we e_me e_ce e_wy e_ho e_ov)), (a_h, (oc1 e_wa e_le e_st e_fo e_lc a_l a_g a_b a_s a_p a_w e_gb a_bb)), (a_g, (oc6 6 5 a_gn e_g)), (a_gn, (arI G 30 f_g)), (a_b, (oc6 5 24 a_bn e_b)), (a_bn, (arI G 120 f_b)), (a_p, (oc6 8 5 a_pn e_p)), (a_pn, (arI G 40 f_p)), (a_bb, (arJ G 24 f_bb)), (a_j, (oc2 a_as a_sk)), (a_as, (arI G 8 f_as)), (a_sk, (arJ G 50 f_sk)), (a_l, (arW G 6 f_l)), (a_lo, (oc3 e_cl a_hd a_sr a_cd)), (a_sr, (arI G n_sr f_sr)), (a_cd, (arI G n_cd f_cd)), (a_hd, (arI G n_hd f_hd)), (a_pt, (arI G 200 f_pt))] sz)) 0 0 (va_A [(a_k, (oc5 a_h a_j a_pt e_ln e_se e_lh e_br e_we e_me e_ce e_wy e_ho e_ov)), (a_h, (oc1 e_wa e_le e_st e_fo e_lc a_l a_g a_b a_s a_p a_w e_gb a_bb)), (a_g, (oc6 6 5 a_gn e_g)), (a_gn, (arI G 30 f_g)), (a_b, (oc6 5 24 a_bn e_b)), (a_bn, (arI G 120 f_b)), (a_p, (oc6 8 5 a_pn e_p)), (a_pn, (arI G 40 f_p)), (a_bb, (arJ G 24 f_bb)), (a_j, (oc2 a_as a_sk)), (a_as, (arI G 8 f_as)), (a_sk, (arJ G 50 f_sk)), (a_l, (arW G 6 f_l)), (a_lo, (oc3 e_cl a_hd a_sr a_cd)), (a_sr, (arI G n_sr f_sr)), (a_cd, (arI G n_cd f_cd)), (a_hd, (arI G n_hd f_hd)), (a_pt, (arI G 200 f_pt))] sz) := by
  refine Met.ofW (cc := cX5_bodiesFrom) (maxL := 5) (ret := (some .int)) (by decide +kernel) rfl ?_
  intro p e s m args below meth c s₁ B hml hv
  obtain ⟨rfl, hsz, hP, hK, hD0, hN, hT⟩ := hv
  have hx := B.exec
  have hb := B.bytes
  have hr := B.returns
  have hts : ∀ w ∈ tblG, w.before _ s = true := fun w h => atoms_spec (ws := (wsG yX5_bodiesFrom cX5_bodiesFrom 5 (some .int))) B.pre w (List.mem_cons_of_mem _ h)
  have hown : s.vm.findClass RX5 = some m.cls := findClass_of_methodNamed B.named
  have hlocks := B.notSynchronized
  subst hsz
  have hD := hD0.self (sz := s.heap.size)
  generalize hAe : va_A [(a_k, (oc5 a_h a_j a_pt e_ln e_se e_lh e_br e_we e_me e_ce e_wy e_ho e_ov)), (a_h, (oc1 e_wa e_le e_st e_fo e_lc a_l a_g a_b a_s a_p a_w e_gb a_bb)), (a_g, (oc6 6 5 a_gn e_g)), (a_gn, (arI G 30 f_g)), (a_b, (oc6 5 24 a_bn e_b)), (a_bn, (arI G 120 f_b)), (a_p, (oc6 8 5 a_pn e_p)), (a_pn, (arI G 40 f_p)), (a_bb, (arJ G 24 f_bb)), (a_j, (oc2 a_as a_sk)), (a_as, (arI G 8 f_as)), (a_sk, (arJ G 50 f_sk)), (a_l, (arW G 6 f_l)), (a_lo, (oc3 e_cl a_hd a_sr a_cd)), (a_sr, (arI G n_sr f_sr)), (a_cd, (arI G n_cd f_cd)), (a_hd, (arI G n_hd f_hd)), (a_pt, (arI G 200 f_pt))] s.heap.size = A at hD hT ⊢
  have hA : ∀ q : Nat, s.heap.size ≤ q → A q := fun q h => by rw [← hAe]; exact Or.inr h
  have hS : va_S A s.heap s.heap [] := va_S.rf
  replace hP : va_P G.1 vwCl [(a_k, (oc5 a_h a_j a_pt e_ln e_se e_lh e_br e_we e_me e_ce e_wy e_ho e_ov)), (a_h, (oc1 e_wa e_le e_st e_fo e_lc a_l a_g a_b a_s a_p a_w e_gb a_bb)), (a_g, (oc6 6 5 a_gn e_g)), (a_gn, (arI G 30 f_g)), (a_b, (oc6 5 24 a_bn e_b)), (a_bn, (arI G 120 f_b)), (a_p, (oc6 8 5 a_pn e_p)), (a_pn, (arI G 40 f_p)), (a_bb, (arJ G 24 f_bb)), (a_j, (oc2 a_as a_sk)), (a_as, (arI G 8 f_as)), (a_sk, (arJ G 50 f_sk)), (a_l, (arW G 6 f_l)), (a_lo, (oc3 e_cl a_hd a_sr a_cd)), (a_sr, (arI G n_sr f_sr)), (a_cd, (arI G n_cd f_cd)), (a_hd, (arI G n_hd f_hd)), (a_pt, (arI G 200 f_pt))] s.heap := hP
  have hl := lv_entry ([.ref a_k, .int p_c, .int p_h]) (n := 5) (Nat.le_of_ble_eq_true rfl)
  rw [lg_entry_eq]
  generalize (lg_sl ([.ref a_k, .int p_c, .int p_h]) ++ List.replicate (5 - (lg_sl ([.ref a_k, .int p_c, .int p_h])).length) Slot.unset).toArray = ls at hl ⊢
  replace hl : lv_has ls 5 [(0, .ref a_k), (1, .int p_c), (2, .int p_h)] := hl
  refine lv_iconst (v := 0) hx hb dX5_bodiesFrom_0 (by decide +kernel) ?_
  refine lv_istore_n (lv' := [(3, .int 0), (0, .ref a_k), (1, .int p_c), (2, .int p_h)]) hx hb dX5_bodiesFrom_1 rfl hl (by decide +kernel) rfl ?_
  clear hl
  intro ls hl
  refine lv_iconst (v := 0) hx hb dX5_bodiesFrom_2 (by decide +kernel) ?_
  refine lv_istore (lv' := [(4, .int 0), (3, .int 0), (0, .ref a_k), (1, .int p_c), (2, .int p_h)]) hx hb dX5_bodiesFrom_3 hl (by decide +kernel) rfl ?_
  clear hl
  intro ls hl
  refine g5_loop (α := (Int32) × (Int32) × (Int32) × (Int32) × (Int32) × (Int32) × (Int32) × (Int32) × (Int32) × (Int32) × (Int32) × (Nat → Int32) × (Nat → Int32) × (Nat → Int64) × (Int32)) (fun (q : (Int32) × (Int32) × (Int32) × (Int32) × (Int32) × (Int32) × (Int32) × (Int32) × (Int32) × (Int32) × (Int32) × (Nat → Int32) × (Nat → Int32) × (Nat → Int64) × (Int32)) (ls : Array Slot) (H : Heap) (locs : List Loc) => match q with | (k_d, k_b, k_se, k_lh, k_br, k_we, k_me, k_ce, k_wy, k_ho, k_ov, k_pt, k_as, k_sk, k_ln) => lv_has ls 5 [(3, .int k_b), (4, .int k_d), (0, .ref a_k), (1, .int p_c), (2, .int p_h)] ∧ va_P G.1 vwCl [(a_k, (oc5 a_h a_j a_pt k_ln k_se k_lh k_br k_we k_me k_ce k_wy k_ho k_ov)), (a_h, (oc1 e_wa e_le e_st e_fo e_lc a_l a_g a_b a_s a_p a_w e_gb a_bb)), (a_g, (oc6 6 5 a_gn e_g)), (a_gn, (arI G 30 f_g)), (a_b, (oc6 5 24 a_bn e_b)), (a_bn, (arI G 120 f_b)), (a_p, (oc6 8 5 a_pn e_p)), (a_pn, (arI G 40 f_p)), (a_bb, (arJ G 24 f_bb)), (a_j, (oc2 a_as a_sk)), (a_as, (arI G 8 k_as)), (a_sk, (arJ G 50 k_sk)), (a_l, (arW G 6 f_l)), (a_lo, (oc3 e_cl a_hd a_sr a_cd)), (a_sr, (arI G n_sr f_sr)), (a_cd, (arI G n_cd f_cd)), (a_hd, (arI G n_hd f_hd)), (a_pt, (arI G 200 k_pt))] H ∧ va_D A [(a_k, (oc5 a_h a_j a_pt k_ln k_se k_lh k_br k_we k_me k_ce k_wy k_ho k_ov)), (a_h, (oc1 e_wa e_le e_st e_fo e_lc a_l a_g a_b a_s a_p a_w e_gb a_bb)), (a_g, (oc6 6 5 a_gn e_g)), (a_gn, (arI G 30 f_g)), (a_b, (oc6 5 24 a_bn e_b)), (a_bn, (arI G 120 f_b)), (a_p, (oc6 8 5 a_pn e_p)), (a_pn, (arI G 40 f_p)), (a_bb, (arJ G 24 f_bb)), (a_j, (oc2 a_as a_sk)), (a_as, (arI G 8 k_as)), (a_sk, (arJ G 50 k_sk)), (a_l, (arW G 6 f_l)), (a_lo, (oc3 e_cl a_hd a_sr a_cd)), (a_sr, (arI G n_sr f_sr)), (a_cd, (arI G n_cd f_cd)), (a_hd, (arI G n_hd f_hd)), (a_pt, (arI G 200 k_pt))] ∧ va_S A s.heap H locs ∧ (0 ≤ k_d.toInt ∧ k_d.toInt ≤ 4) ∧ (0 ≤ k_ov.toInt ∧ k_ov.toInt ≤ 1)) (fun (q : (Int32) × (Int32) × (Int32) × (Int32) × (Int32) × (Int32) × (Int32) × (Int32) × (Int32) × (Int32) × (Int32) × (Nat → Int32) × (Nat → Int32) × (Nat → Int64) × (Int32)) => match q with | (k_d, k_b, k_se, k_lh, k_br, k_we, k_me, k_ce, k_wy, k_ho, k_ov, k_pt, k_as, k_sk, k_ln) => Int.toNat (4 - k_d.toInt)) (0, 0, e_se, e_lh, e_br, e_we, e_me, e_ce, e_wy, e_ho, e_ov, f_pt, f_as, f_sk, e_ln) ⟨lv_sub hl [1, 0, 2, 3, 4] rfl, hP, hD, hS, ⟨by decide, by decide⟩, h_e_ov⟩ ?_
  rintro ⟨k_d, k_b, k_se, k_lh, k_br, k_we, k_me, k_ce, k_wy, k_ho, k_ov, k_pt, k_as, k_sk, k_ln⟩ ls H locs ⟨hl, hP, hD, hS, (i_1 : 0 ≤ k_d.toInt ∧ k_d.toInt ≤ 4), (i_2 : 0 ≤ k_ov.toInt ∧ k_ov.toInt ≤ 1)⟩ ih_5_3
  replace hl : lv_has ls 5 [(3, .int k_b), (4, .int k_d), (0, .ref a_k), (1, .int p_c), (2, .int p_h)] := hl
  refine g5_rs [(a_k, (oc5 a_h a_j a_pt k_ln k_se k_lh k_br k_we k_me k_ce k_wy k_ho k_ov)), (a_h, (oc1 e_wa e_le e_st e_fo e_lc a_l a_g a_b a_s a_p a_w e_gb a_bb)), (a_g, (oc6 6 5 a_gn e_g)), (a_gn, (arI G 30 f_g)), (a_b, (oc6 5 24 a_bn e_b)), (a_bn, (arI G 120 f_b)), (a_p, (oc6 8 5 a_pn e_p)), (a_pn, (arI G 40 f_p)), (a_bb, (arJ G 24 f_bb)), (a_j, (oc2 a_as a_sk)), (a_as, (arI G 8 k_as)), (a_sk, (arJ G 50 k_sk)), (a_l, (arW G 6 f_l)), (a_lo, (oc3 e_cl a_hd a_sr a_cd)), (a_sr, (arI G n_sr f_sr)), (a_cd, (arI G n_cd f_cd)), (a_hd, (arI G n_hd f_hd)), (a_pt, (arI G 200 k_pt))] hP hD ?_
  clear hP hD
  intro hP hD
  refine lv_iload hx hb dX5_bodiesFrom_5 (lv_at hl 1 rfl) ?_
  refine lv_iconst (v := 4) hx hb dX5_bodiesFrom_7 (by decide +kernel) ?_
  refine lv_icmp_ge (tgt := 47) hx hb dX5_bodiesFrom_8 (by decide +kernel) (fun c_4 => ?_) (fun c_4 => ?_)
  ·
    have i_4 : k_d.toInt ≥ 4 := g5_ge (a := k_d.toInt) (b := 4) rfl (by decide +kernel) c_4
    refine lv_iload_n hx hb dX5_bodiesFrom_47 rfl (lv_at hl 0 rfl) ?_
    exact W.iret (v := k_b) hx hb hr (fun t ht hW => ⟨⟨k_b, [(a_k, (oc5 a_h a_j a_pt k_ln k_se k_lh k_br k_we k_me k_ce k_wy k_ho k_ov)), (a_h, (oc1 e_wa e_le e_st e_fo e_lc a_l a_g a_b a_s a_p a_w e_gb a_bb)), (a_g, (oc6 6 5 a_gn e_g)), (a_gn, (arI G 30 f_g)), (a_b, (oc6 5 24 a_bn e_b)), (a_bn, (arI G 120 f_b)), (a_p, (oc6 8 5 a_pn e_p)), (a_pn, (arI G 40 f_p)), (a_bb, (arJ G 24 f_bb)), (a_j, (oc2 a_as a_sk)), (a_as, (arI G 8 k_as)), (a_sk, (arJ G 50 k_sk)), (a_l, (arW G 6 f_l)), (a_lo, (oc3 e_cl a_hd a_sr a_cd)), (a_sr, (arI G n_sr f_sr)), (a_cd, (arI G n_cd f_cd)), (a_hd, (arI G n_hd f_hd)), (a_pt, (arI G 200 k_pt))], rfl, ⟨k_b, k_ln, k_se, k_lh, k_br, k_we, k_me, k_ce, k_wy, k_ho, k_ov, k_pt, k_as, k_sk, i_2, rfl, rfl⟩, by rw [ht]; exact hP.sub [0, 1, 2, 3, 4, 5, 6, 7, 8, 9, 10, 11, 12, 13, 14, 15, 16, 17] rfl, hD.sub [0, 1, 2, 3, 4, 5, 6, 7, 8, 9, 10, 11, 12, 13, 14, 15, 16, 17] (by decide +kernel) rfl⟩, hS.F ht⟩) hS.2.2 dX5_bodiesFrom_48
  ·
    have i_4 : k_d.toInt < 4 := g5_geN (a := k_d.toInt) (b := 4) rfl (by decide +kernel) c_4
    refine lv_aload_n hx hb dX5_bodiesFrom_11 rfl (lv_at hl 2 rfl) ?_
    refine lv_iload_n hx hb dX5_bodiesFrom_12 rfl (lv_at hl 3 rfl) ?_
    refine lv_iload hx hb dX5_bodiesFrom_13 (lv_at hl 1 rfl) ?_
    refine lv_iload_n hx hb dX5_bodiesFrom_15 rfl (lv_at hl 4 rfl) ?_
    refine W.eq (g2 := F0 m 16 ls [.int p_h, .int k_d, .int p_c, .ref a_k]) rfl ?_
    refine lv_iconst (v := 0) hx hb dX5_bodiesFrom_16 (by decide +kernel) ?_
    obtain ⟨hPc, hDc, hFc⟩ := g5_sub3 (wc := [(a_k, (oc5 a_h a_j a_pt k_ln k_se k_lh k_br k_we k_me k_ce k_wy k_ho k_ov)), (a_h, (oc1 e_wa e_le e_st e_fo e_lc a_l a_g a_b a_s a_p a_w e_gb a_bb)), (a_g, (oc6 6 5 a_gn e_g)), (a_gn, (arI G 30 f_g)), (a_b, (oc6 5 24 a_bn e_b)), (a_bn, (arI G 120 f_b)), (a_p, (oc6 8 5 a_pn e_p)), (a_pn, (arI G 40 f_p)), (a_bb, (arJ G 24 f_bb)), (a_j, (oc2 a_as a_sk)), (a_as, (arI G 8 k_as)), (a_sk, (arJ G 50 k_sk)), (a_l, (arW G 6 f_l)), (a_lo, (oc3 e_cl a_hd a_sr a_cd)), (a_sr, (arI G n_sr f_sr)), (a_cd, (arI G n_cd f_cd)), (a_hd, (arI G n_hd f_hd)), (a_pt, (arI G 200 k_pt))]) hP hD hS hA [0, 1, 2, 3, 4, 5, 6, 7, 8, 9, 10, 11, 12, 13, 14, 15, 16, 17] (by decide +kernel) rfl
    refine va_callv (va_runV (As := [.int p_c, .int k_d, .int p_h, .int 0]) (rest := []) ⟨hx, hb, hml, hown, hts⟩ (k_runL l G a_k a_h a_g a_gn a_b a_bn a_p a_pn a_bb a_j a_as a_sk a_l a_lo a_sr a_cd a_hd a_pt a_s a_w H.size e_le e_st e_fo e_lc e_g e_b e_p e_cl k_ln k_se k_lh k_br k_we k_me k_ce k_wy k_ho k_ov p_c k_d p_h 0 e_wa e_gb f_g f_b f_p f_bb k_as k_sk f_l f_sr f_cd f_hd k_pt n_sr n_cd n_hd h_e_g h_e_b h_e_p h_e_cl i_2 (e_gk) (e_pk) (e_gi) (e_f) (e_a) (e_hn) (e_hs) (e_hk) (e_c)) (cwV 4 hts gV_X5_91 rfl rfl rfl hv_X5_run ⟨Nat.le_of_ble_eq_true rfl, Nat.le_of_ble_eq_true rfl⟩) (g5_preV hPc hK hDc hN hT hS hFc (ci := 5) (q0 := 0) rfl rfl) rfl rfl hl.1 rfl (lv_room (Nat.le_of_ble_eq_true rfl)) dX5_bodiesFrom_17 ⟨Nat.le_of_ble_eq_true rfl, Nat.le_of_ble_eq_true rfl⟩) hS (fun q _ h => hFc q h) hFc (fun u t H locs ht hvm hw hB hz1 hk1 hS => ?_)
    obtain ⟨hP1, hD1⟩ := hB
    have hP1 := g5_ht ht hP1
    obtain ⟨z8, z9, z10, z11, z12, z13, z14, z15, z16, z17, z18, z19, z20, (i_5 : 0 ≤ z8.toInt ∧ z8.toInt ≤ 200), (i_6 : 0 ≤ z17.toInt ∧ z17.toInt ≤ 1), (i_7 : ∀ j : Nat, (j : Int) < z8.toInt → 0 ≤ (z18 j).toInt ∧ (z18 j).toInt ≤ 1535), rfl⟩ := hw
    have hJ9 := va_join (wr := []) hP hD [0, 1, 2, 3, 4, 5, 6, 7, 8, 9, 10, 11, 12, 13, 14, 15, 16, 17] [] rfl rfl (by decide +kernel) (by decide +kernel) hk1 hFc hP1 hD1
    clear hP hD hPc hDc hFc ht hvm hz1 hk1 hP1 hD1
    obtain ⟨hP, hD⟩ := hJ9
    refine g5_rs [(a_k, (oc5 a_h a_j a_pt z8 z9 z10 z11 z12 z13 z14 z15 z16 z17)), (a_h, (oc1 e_wa e_le e_st e_fo e_lc a_l a_g a_b a_s a_p a_w e_gb a_bb)), (a_g, (oc6 6 5 a_gn e_g)), (a_gn, (arI G 30 f_g)), (a_b, (oc6 5 24 a_bn e_b)), (a_bn, (arI G 120 f_b)), (a_p, (oc6 8 5 a_pn e_p)), (a_pn, (arI G 40 f_p)), (a_bb, (arJ G 24 f_bb)), (a_j, (oc2 a_as a_sk)), (a_as, (arI G 8 z19)), (a_sk, (arJ G 50 z20)), (a_l, (arW G 6 f_l)), (a_lo, (oc3 e_cl a_hd a_sr a_cd)), (a_sr, (arI G n_sr f_sr)), (a_cd, (arI G n_cd f_cd)), (a_hd, (arI G n_hd f_hd)), (a_pt, (arI G 200 z18))] hP hD ?_
    clear hP hD
    intro hP hD
    refine lv_iload_n hx hb dX5_bodiesFrom_20 rfl (lv_at hl 0 rfl) ?_
    refine lv_aload_n hx hb dX5_bodiesFrom_21 rfl (lv_at hl 2 rfl) ?_
    refine va_get (D := G.1) (ci := 5) (v := .int z9) (C := RX5) (T := TX5) (N := 13) hx hb hts inG_X5 hown hK hP 0 rfl rfl 4 (by decide +kernel) (hts _ fl_X5_39) (fun _ h9 => h9) rfl dX5_bodiesFrom_22 ?_
    refine W.eq (g2 := F0 m 25 ls [.int z9, .int k_b]) rfl ?_
    refine lv_iconst (v := (-1)) hx hb dX5_bodiesFrom_25 (by decide +kernel) ?_
    refine lv_icmp_ne (tgt := 33) hx hb dX5_bodiesFrom_26 (by decide +kernel) (fun c_21 => ?_) (fun c_21 => ?_)
    ·
      have n_21 : gNe (z9.toInt) ((-1)) := g5_ne (a := z9.toInt) (b := (-1)) rfl (by decide +kernel) c_21
      refine lv_iconst (v := 1) hx hb dX5_bodiesFrom_33 (by decide +kernel) ?_
      refine lv_aload_n hx hb dX5_bodiesFrom_34 rfl (lv_at hl 2 rfl) ?_
      refine va_get (D := G.1) (ci := 5) (v := .int z9) (C := RX5) (T := TX5) (N := 13) hx hb hts inG_X5 hown hK hP 0 rfl rfl 4 (by decide +kernel) (hts _ fl_X5_39) (fun _ h9 => h9) rfl dX5_bodiesFrom_35 ?_
      refine lv_ishl hx hb dX5_bodiesFrom_38 ?_
      refine W.eq (g2 := F0 m 39 ls [.int (1 <<< (z9 &&& 31)), .int k_b]) rfl ?_
      refine lv_ior hx hb dX5_bodiesFrom_39 ?_
      refine lv_istore_n (lv' := [(3, .int (k_b ||| (1 <<< (z9 &&& 31)))), (4, .int k_d), (0, .ref a_k), (1, .int p_c), (2, .int p_h)]) hx hb dX5_bodiesFrom_40 rfl hl (by decide +kernel) rfl ?_
      clear hl
      intro ls hl
      refine lv_iinc (v := (k_d + 1)) (lv' := [(4, .int (k_d + 1)), (3, .int (k_b ||| (1 <<< (z9 &&& 31)))), (0, .ref a_k), (1, .int p_c), (2, .int p_h)]) hx hb dX5_bodiesFrom_41 hl (k := 1) rfl rfl (by decide +kernel) rfl ?_
      clear hl
      intro ls hl
      have t_22 : (k_d + 1).toInt = k_d.toInt + 1 := g5_iadd (a := k_d.toInt) (b := 1) rfl (by decide +kernel) (by omega) (by omega)
      refine lv_goto (tgt := 5) hx hb dX5_bodiesFrom_44 (by decide +kernel) ?_
      exact ih_5_3 ((k_d + 1), (k_b ||| (1 <<< (z9 &&& 31))), z9, z10, z11, z12, z13, z14, z15, z16, z17, z18, z19, z20, z8) ls H locs (show Int.toNat (4 - (k_d + 1).toInt) < Int.toNat (4 - k_d.toInt) from g_up (show k_d.toInt < (k_d + 1).toInt by omega) (show k_d.toInt < 4 by omega)) ⟨lv_sub hl [1, 0, 2, 3, 4] rfl, hP, hD, hS, ⟨by omega, by omega⟩, i_6⟩
    ·
      have i_21 : z9.toInt = (-1) := g5_neN (a := z9.toInt) (b := (-1)) rfl (by decide +kernel) c_21
      refine lv_iconst (v := 0) hx hb dX5_bodiesFrom_29 (by decide +kernel) ?_
      refine lv_goto (tgt := 39) hx hb dX5_bodiesFrom_30 (by decide +kernel) ?_
      refine lv_ior hx hb dX5_bodiesFrom_39 ?_
      refine g5_ti (v := k_b) (by simp) ?_
      refine lv_istore_n (lv' := [(3, .int k_b), (4, .int k_d), (0, .ref a_k), (1, .int p_c), (2, .int p_h)]) hx hb dX5_bodiesFrom_40 rfl hl (by decide +kernel) rfl ?_
      clear hl
      intro ls hl
      refine W.eq (g2 := F0 m 41 ls []) rfl ?_
      refine lv_iinc (v := (k_d + 1)) (lv' := [(4, .int (k_d + 1)), (3, .int k_b), (0, .ref a_k), (1, .int p_c), (2, .int p_h)]) hx hb dX5_bodiesFrom_41 hl (k := 1) rfl rfl (by decide +kernel) rfl ?_
      clear hl
      intro ls hl
      have t_23 : (k_d + 1).toInt = k_d.toInt + 1 := g5_iadd (a := k_d.toInt) (b := 1) rfl (by decide +kernel) (by omega) (by omega)
      refine lv_goto (tgt := 5) hx hb dX5_bodiesFrom_44 (by decide +kernel) ?_
      exact ih_5_3 ((k_d + 1), k_b, z9, z10, z11, z12, z13, z14, z15, z16, z17, z18, z19, z20, z8) ls H locs (show Int.toNat (4 - (k_d + 1).toInt) < Int.toNat (4 - k_d.toInt) from g_up (show k_d.toInt < (k_d + 1).toInt by omega) (show k_d.toInt < 4 by omega)) ⟨lv_sub hl [1, 0, 2, 3, 4] rfl, hP, hD, hS, ⟨by omega, by omega⟩, i_6⟩
set_option maxHeartbeats 4000000 in
set_option maxRecDepth 100000 in
theorem s_findsBodyL (l : Launch) (G : g5_G) (a_k a_h a_g a_gn a_b a_bn a_p a_pn a_bb a_j a_as a_sk a_l a_lo a_sr a_cd a_hd a_pt a_s a_w : Nat) (sz : Nat) (e_le : Int32) (e_st : Int32) (e_fo : Int32) (e_lc : Int32) (e_g : Int32) (e_b : Int32) (e_p : Int32) (e_cl : Int32) (e_ln : Int32) (e_se : Int32) (e_lh : Int32) (e_br : Int32) (e_we : Int32) (e_me : Int32) (e_ce : Int32) (e_wy : Int32) (e_ho : Int32) (e_ov : Int32) (p_c : Int32) (p_h : Int32) (p_b : Int32) (e_wa : Int64) (e_gb : Int64) (f_g : Nat → Int32) (f_b : Nat → Int32) (f_p : Nat → Int32) (f_bb : Nat → Int64) (f_as : Nat → Int32) (f_sk : Nat → Int64) (f_l : Nat → Option Nat) (f_sr : Nat → Int32) (f_cd : Nat → Int32) (f_hd : Nat → Int32) (f_pt : Nat → Int32) (n_sr : Nat) (n_cd : Nat) (n_hd : Nat) (h_e_g : 0 ≤ e_g.toInt ∧ e_g.toInt ≤ 6) (h_e_b : 0 ≤ e_b.toInt ∧ e_b.toInt ≤ 5) (h_e_p : 0 ≤ e_p.toInt ∧ e_p.toInt ≤ 8) (h_e_cl : 0 ≤ e_cl.toInt ∧ e_cl.toInt ≤ 12) (h_e_ov : 0 ≤ e_ov.toInt ∧ e_ov.toInt ≤ 1) (e_gk : gOK f_g e_g.toInt) (e_pk : gOK f_p e_p.toInt) (e_gi : inT e_gb f_g e_g.toInt) (e_f : 0 ≤ e_fo.toInt ∧ e_fo.toInt < e_lc.toInt ∧ e_lc.toInt ≤ 6) (e_a : f_l e_fo.toNatClampNeg = some a_lo) (e_hn : n_cd ≤ 400) (e_hs : ∀ j : Nat, j < n_sr → 0 ≤ (f_sr j).toInt ∧ (f_sr j).toInt ≤ (n_cd : Int)) (e_hk : ∀ j : Nat, j < n_cd → (f_cd j >>> (12 &&& 31)).toInt = 1 → (f_cd j &&& 4095).toInt < 8) (e_c : (e_cl.toInt : Int) ≤ (n_hd : Int) ∧ (e_cl.toInt + 1 : Int) ≤ (n_sr : Int)) : Met l yX5_findsBody (wsG yX5_findsBody cX5_findsBody 5 (some .boolean)) ({ frames := 14, cells := 0, slots := 0, locals := 556 }) (va_Pc [.ref a_k, .int p_b, .int p_c, .int p_h] (g5_P G [(a_k, (oc5 a_h a_j a_pt e_ln e_se e_lh e_br e_we e_me e_ce e_wy e_ho e_ov)), (a_h, (oc1 e_wa e_le e_st e_fo e_lc a_l a_g a_b a_s a_p a_w e_gb a_bb)), (a_g, (oc6 6 5 a_gn e_g)), (a_gn, (arI G 30 f_g)), (a_b, (oc6 5 24 a_bn e_b)), (a_bn, (arI G 120 f_b)), (a_p, (oc6 8 5 a_pn e_p)), (a_pn, (arI G 40 f_p)), (a_bb, (arJ G 24 f_bb)), (a_j, (oc2 a_as a_sk)), (a_as, (arI G 8 f_as)), (a_sk, (arJ G 50 f_sk)), (a_l, (arW G 6 f_l)), (a_lo, (oc3 e_cl a_hd a_sr a_cd)), (a_sr, (arI G n_sr f_sr)), (a_cd, (arI G n_cd f_cd)), (a_hd, (arI G n_hd f_hd)), (a_pt, (arI G 200 f_pt))] sz)) (va_Qi (fun (r : Int32) (u : va_W) => (∃ (o_r : Int32) (o_ln : Int32) (o_se : Int32) (o_lh : Int32) (o_br : Int32) (o_we : Int32) (o_me : Int32) (o_ce : Int32) (o_wy : Int32) (o_ho : Int32) (o_ov : Int32) (o_pt : Nat → Int32) (o_as : Nat → Int32) (o_sk : Nat → Int64), (0 ≤ o_r.toInt ∧ o_r.toInt ≤ 1) ∧ (0 ≤ o_ov.toInt ∧ o_ov.toInt ≤ 1) ∧ (r = o_r) ∧ (u = [(a_k, (oc5 a_h a_j a_pt o_ln o_se o_lh o_br o_we o_me o_ce o_wy o_ho o_ov)), (a_h, (oc1 e_wa e_le e_st e_fo e_lc a_l a_g a_b a_s a_p a_w e_gb a_bb)), (a_g, (oc6 6 5 a_gn e_g)), (a_gn, (arI G 30 f_g)), (a_b, (oc6 5 24 a_bn e_b)), (a_bn, (arI G 120 f_b)), (a_p, (oc6 8 5 a_pn e_p)), (a_pn, (arI G 40 f_p)), (a_bb, (arJ G 24 f_bb)), (a_j, (oc2 a_as a_sk)), (a_as, (arI G 8 o_as)), (a_sk, (arJ G 50 o_sk)), (a_l, (arW G 6 f_l)), (a_lo, (oc3 e_cl a_hd a_sr a_cd)), (a_sr, (arI G n_sr f_sr)), (a_cd, (arI G n_cd f_cd)), (a_hd, (arI G n_hd f_hd)), (a_pt, (arI G 200 o_pt))]))) (g5_B G (va_A [(a_k, (oc5 a_h a_j a_pt e_ln e_se e_lh e_br e_we e_me e_ce e_wy e_ho e_ov)), (a_h, (oc1 e_wa e_le e_st e_fo e_lc a_l a_g a_b a_s a_p a_w e_gb a_bb)), (a_g, (oc6 6 5 a_gn e_g)), (a_gn, (arI G 30 f_g)), (a_b, (oc6 5 24 a_bn e_b)), (a_bn, (arI G 120 f_b)), (a_p, (oc6 8 5 a_pn e_p)), (a_pn, (arI G 40 f_p)), (a_bb, (arJ G 24 f_bb)), (a_j, (oc2 a_as a_sk)), (a_as, (arI G 8 f_as)), (a_sk, (arJ G 50 f_sk)), (a_l, (arW G 6 f_l)), (a_lo, (oc3 e_cl a_hd a_sr a_cd)), (a_sr, (arI G n_sr f_sr)), (a_cd, (arI G n_cd f_cd)), (a_hd, (arI G n_hd f_hd)), (a_pt, (arI G 200 f_pt))] sz)) (va_A [(a_k, (oc5 a_h a_j a_pt e_ln e_se e_lh e_br e_we e_me e_ce e_wy e_ho e_ov)), (a_h, (oc1 e_wa e_le e_st e_fo e_lc a_l a_g a_b a_s a_p a_w e_gb a_bb)), (a_g, (oc6 6 5 a_gn e_g)), (a_gn, (arI G 30 f_g)), (a_b, (oc6 5 24 a_bn e_b)), (a_bn, (arI G 120 f_b)), (a_p, (oc6 8 5 a_pn e_p)), (a_pn, (arI G 40 f_p)), (a_bb, (arJ G 24 f_bb)), (a_j, (oc2 a_as a_sk)), (a_as, (arI G 8 f_as)), (a_sk, (arJ G 50 f_sk)), (a_l, (arW G 6 f_l)), (a_lo, (oc3 e_cl a_hd a_sr a_cd)), (a_sr, (arI G n_sr f_sr)), (a_cd, (arI G n_cd f_cd)), (a_hd, (arI G n_hd f_hd)), (a_pt, (arI G 200 f_pt))] sz)) 0 0 (va_A [(a_k, (oc5 a_h a_j a_pt e_ln e_se e_lh e_br e_we e_me e_ce e_wy e_ho e_ov)), (a_h, (oc1 e_wa e_le e_st e_fo e_lc a_l a_g a_b a_s a_p a_w e_gb a_bb)), (a_g, (oc6 6 5 a_gn e_g)), (a_gn, (arI G 30 f_g)), (a_b, (oc6 5 24 a_bn e_b)), (a_bn, (arI G 120 f_b)), (a_p, (oc6 8 5 a_pn e_p)), (a_pn, (arI G 40 f_p)), (a_bb, (arJ G 24 f_bb)), (a_j, (oc2 a_as a_sk)), (a_as, (arI G 8 f_as)), (a_sk, (arJ G 50 f_sk)), (a_l, (arW G 6 f_l)), (a_lo, (oc3 e_cl a_hd a_sr a_cd)), (a_sr, (arI G n_sr f_sr)), (a_cd, (arI G n_cd f_cd)), (a_hd, (arI G n_hd f_hd)), (a_pt, (arI G 200 f_pt))] sz) := by
  refine Met.ofW (cc := cX5_findsBody) (maxL := 5) (ret := (some .boolean)) (by decide +kernel) rfl ?_
  intro p e s m args below meth c s₁ B hml hv
  obtain ⟨rfl, hsz, hP, hK, hD0, hN, hT⟩ := hv
  have hx := B.exec
  have hb := B.bytes
  have hr := B.returns
  have hts : ∀ w ∈ tblG, w.before _ s = true := fun w h => atoms_spec (ws := (wsG yX5_findsBody cX5_findsBody 5 (some .boolean))) B.pre w (List.mem_cons_of_mem _ h)
  have hown : s.vm.findClass RX5 = some m.cls := findClass_of_methodNamed B.named
  have hlocks := B.notSynchronized
  subst hsz
  have hD := hD0.self (sz := s.heap.size)
  generalize hAe : va_A [(a_k, (oc5 a_h a_j a_pt e_ln e_se e_lh e_br e_we e_me e_ce e_wy e_ho e_ov)), (a_h, (oc1 e_wa e_le e_st e_fo e_lc a_l a_g a_b a_s a_p a_w e_gb a_bb)), (a_g, (oc6 6 5 a_gn e_g)), (a_gn, (arI G 30 f_g)), (a_b, (oc6 5 24 a_bn e_b)), (a_bn, (arI G 120 f_b)), (a_p, (oc6 8 5 a_pn e_p)), (a_pn, (arI G 40 f_p)), (a_bb, (arJ G 24 f_bb)), (a_j, (oc2 a_as a_sk)), (a_as, (arI G 8 f_as)), (a_sk, (arJ G 50 f_sk)), (a_l, (arW G 6 f_l)), (a_lo, (oc3 e_cl a_hd a_sr a_cd)), (a_sr, (arI G n_sr f_sr)), (a_cd, (arI G n_cd f_cd)), (a_hd, (arI G n_hd f_hd)), (a_pt, (arI G 200 f_pt))] s.heap.size = A at hD hT ⊢
  have hA : ∀ q : Nat, s.heap.size ≤ q → A q := fun q h => by rw [← hAe]; exact Or.inr h
  have hS : va_S A s.heap s.heap [] := va_S.rf
  replace hP : va_P G.1 vwCl [(a_k, (oc5 a_h a_j a_pt e_ln e_se e_lh e_br e_we e_me e_ce e_wy e_ho e_ov)), (a_h, (oc1 e_wa e_le e_st e_fo e_lc a_l a_g a_b a_s a_p a_w e_gb a_bb)), (a_g, (oc6 6 5 a_gn e_g)), (a_gn, (arI G 30 f_g)), (a_b, (oc6 5 24 a_bn e_b)), (a_bn, (arI G 120 f_b)), (a_p, (oc6 8 5 a_pn e_p)), (a_pn, (arI G 40 f_p)), (a_bb, (arJ G 24 f_bb)), (a_j, (oc2 a_as a_sk)), (a_as, (arI G 8 f_as)), (a_sk, (arJ G 50 f_sk)), (a_l, (arW G 6 f_l)), (a_lo, (oc3 e_cl a_hd a_sr a_cd)), (a_sr, (arI G n_sr f_sr)), (a_cd, (arI G n_cd f_cd)), (a_hd, (arI G n_hd f_hd)), (a_pt, (arI G 200 f_pt))] s.heap := hP
  have hl := lv_entry ([.ref a_k, .int p_b, .int p_c, .int p_h]) (n := 5) (Nat.le_of_ble_eq_true rfl)
  rw [lg_entry_eq]
  generalize (lg_sl ([.ref a_k, .int p_b, .int p_c, .int p_h]) ++ List.replicate (5 - (lg_sl ([.ref a_k, .int p_b, .int p_c, .int p_h])).length) Slot.unset).toArray = ls at hl ⊢
  replace hl : lv_has ls 5 [(0, .ref a_k), (1, .int p_b), (2, .int p_c), (3, .int p_h)] := hl
  refine lv_aload_n hx hb dX5_findsBody_0 rfl (lv_at hl 0 rfl) ?_
  refine lv_iconst (v := 0) hx hb dX5_findsBody_1 (by decide +kernel) ?_
  refine va_put (D := G.1) (ci := 5) (v := .int 0) (ty := .int) (C := RX5) (T := TX5) (N := 13) hx hb hts inG_X5 tyX5 tyX5_ok nmX5 hown hK hP hD hS 0 rfl rfl 8 (by decide +kernel) (hts _ fl_X5_95) (fun _ h9 => h9) rfl (by decide +kernel) rfl rfl (Nat.le_of_ble_eq_true rfl) dX5_findsBody_2 ?_
  clear hP hD hS
  intro H locs hP hD hS
  refine g5_rs [(a_k, (oc5 a_h a_j a_pt e_ln e_se e_lh e_br e_we 0 e_ce e_wy e_ho e_ov)), (a_h, (oc1 e_wa e_le e_st e_fo e_lc a_l a_g a_b a_s a_p a_w e_gb a_bb)), (a_g, (oc6 6 5 a_gn e_g)), (a_gn, (arI G 30 f_g)), (a_b, (oc6 5 24 a_bn e_b)), (a_bn, (arI G 120 f_b)), (a_p, (oc6 8 5 a_pn e_p)), (a_pn, (arI G 40 f_p)), (a_bb, (arJ G 24 f_bb)), (a_j, (oc2 a_as a_sk)), (a_as, (arI G 8 f_as)), (a_sk, (arJ G 50 f_sk)), (a_l, (arW G 6 f_l)), (a_lo, (oc3 e_cl a_hd a_sr a_cd)), (a_sr, (arI G n_sr f_sr)), (a_cd, (arI G n_cd f_cd)), (a_hd, (arI G n_hd f_hd)), (a_pt, (arI G 200 f_pt))] hP hD ?_
  clear hP hD
  intro hP hD
  refine lv_iconst (v := 0) hx hb dX5_findsBody_5 (by decide +kernel) ?_
  refine W.eq (g2 := F0 m 6 ls [.int 0]) rfl ?_
  refine lv_istore (lv' := [(4, .int 0), (0, .ref a_k), (1, .int p_b), (2, .int p_c), (3, .int p_h)]) hx hb dX5_findsBody_6 hl (by decide +kernel) rfl ?_
  clear hl
  intro ls hl
  refine g5_loop (α := (Int32) × (Int32) × (Int32) × (Int32) × (Int32) × (Int32) × (Int32) × (Int32) × (Int32) × (Int32) × (Nat → Int32) × (Nat → Int32) × (Nat → Int64) × (Int32)) (fun (q : (Int32) × (Int32) × (Int32) × (Int32) × (Int32) × (Int32) × (Int32) × (Int32) × (Int32) × (Int32) × (Nat → Int32) × (Nat → Int32) × (Nat → Int64) × (Int32)) (ls : Array Slot) (H : Heap) (locs : List Loc) => match q with | (k_d, k_se, k_lh, k_br, k_we, k_me, k_ce, k_wy, k_ho, k_ov, k_pt, k_as, k_sk, k_ln) => lv_has ls 5 [(4, .int k_d), (0, .ref a_k), (1, .int p_b), (2, .int p_c), (3, .int p_h)] ∧ va_P G.1 vwCl [(a_k, (oc5 a_h a_j a_pt k_ln k_se k_lh k_br k_we k_me k_ce k_wy k_ho k_ov)), (a_h, (oc1 e_wa e_le e_st e_fo e_lc a_l a_g a_b a_s a_p a_w e_gb a_bb)), (a_g, (oc6 6 5 a_gn e_g)), (a_gn, (arI G 30 f_g)), (a_b, (oc6 5 24 a_bn e_b)), (a_bn, (arI G 120 f_b)), (a_p, (oc6 8 5 a_pn e_p)), (a_pn, (arI G 40 f_p)), (a_bb, (arJ G 24 f_bb)), (a_j, (oc2 a_as a_sk)), (a_as, (arI G 8 k_as)), (a_sk, (arJ G 50 k_sk)), (a_l, (arW G 6 f_l)), (a_lo, (oc3 e_cl a_hd a_sr a_cd)), (a_sr, (arI G n_sr f_sr)), (a_cd, (arI G n_cd f_cd)), (a_hd, (arI G n_hd f_hd)), (a_pt, (arI G 200 k_pt))] H ∧ va_D A [(a_k, (oc5 a_h a_j a_pt k_ln k_se k_lh k_br k_we k_me k_ce k_wy k_ho k_ov)), (a_h, (oc1 e_wa e_le e_st e_fo e_lc a_l a_g a_b a_s a_p a_w e_gb a_bb)), (a_g, (oc6 6 5 a_gn e_g)), (a_gn, (arI G 30 f_g)), (a_b, (oc6 5 24 a_bn e_b)), (a_bn, (arI G 120 f_b)), (a_p, (oc6 8 5 a_pn e_p)), (a_pn, (arI G 40 f_p)), (a_bb, (arJ G 24 f_bb)), (a_j, (oc2 a_as a_sk)), (a_as, (arI G 8 k_as)), (a_sk, (arJ G 50 k_sk)), (a_l, (arW G 6 f_l)), (a_lo, (oc3 e_cl a_hd a_sr a_cd)), (a_sr, (arI G n_sr f_sr)), (a_cd, (arI G n_cd f_cd)), (a_hd, (arI G n_hd f_hd)), (a_pt, (arI G 200 k_pt))] ∧ va_S A s.heap H locs ∧ (0 ≤ k_d.toInt ∧ k_d.toInt ≤ 4) ∧ (0 ≤ k_ov.toInt ∧ k_ov.toInt ≤ 1)) (fun (q : (Int32) × (Int32) × (Int32) × (Int32) × (Int32) × (Int32) × (Int32) × (Int32) × (Int32) × (Int32) × (Nat → Int32) × (Nat → Int32) × (Nat → Int64) × (Int32)) => match q with | (k_d, k_se, k_lh, k_br, k_we, k_me, k_ce, k_wy, k_ho, k_ov, k_pt, k_as, k_sk, k_ln) => Int.toNat (4 - k_d.toInt)) (0, e_se, e_lh, e_br, e_we, 0, e_ce, e_wy, e_ho, e_ov, f_pt, f_as, f_sk, e_ln) ⟨lv_sub hl [0, 1, 2, 3, 4] rfl, hP, hD, hS, ⟨by decide, by decide⟩, h_e_ov⟩ ?_
  rintro ⟨k_d, k_se, k_lh, k_br, k_we, k_me, k_ce, k_wy, k_ho, k_ov, k_pt, k_as, k_sk, k_ln⟩ ls H locs ⟨hl, hP, hD, hS, (i_1 : 0 ≤ k_d.toInt ∧ k_d.toInt ≤ 4), (i_2 : 0 ≤ k_ov.toInt ∧ k_ov.toInt ≤ 1)⟩ ih_8_3
  replace hl : lv_has ls 5 [(4, .int k_d), (0, .ref a_k), (1, .int p_b), (2, .int p_c), (3, .int p_h)] := hl
  refine g5_rs [(a_k, (oc5 a_h a_j a_pt k_ln k_se k_lh k_br k_we k_me k_ce k_wy k_ho k_ov)), (a_h, (oc1 e_wa e_le e_st e_fo e_lc a_l a_g a_b a_s a_p a_w e_gb a_bb)), (a_g, (oc6 6 5 a_gn e_g)), (a_gn, (arI G 30 f_g)), (a_b, (oc6 5 24 a_bn e_b)), (a_bn, (arI G 120 f_b)), (a_p, (oc6 8 5 a_pn e_p)), (a_pn, (arI G 40 f_p)), (a_bb, (arJ G 24 f_bb)), (a_j, (oc2 a_as a_sk)), (a_as, (arI G 8 k_as)), (a_sk, (arJ G 50 k_sk)), (a_l, (arW G 6 f_l)), (a_lo, (oc3 e_cl a_hd a_sr a_cd)), (a_sr, (arI G n_sr f_sr)), (a_cd, (arI G n_cd f_cd)), (a_hd, (arI G n_hd f_hd)), (a_pt, (arI G 200 k_pt))] hP hD ?_
  clear hP hD
  intro hP hD
  refine lv_iload hx hb dX5_findsBody_8 (lv_at hl 0 rfl) ?_
  refine lv_iconst (v := 4) hx hb dX5_findsBody_10 (by decide +kernel) ?_
  refine lv_icmp_ge (tgt := 39) hx hb dX5_findsBody_11 (by decide +kernel) (fun c_4 => ?_) (fun c_4 => ?_)
  ·
    have i_4 : k_d.toInt ≥ 4 := g5_ge (a := k_d.toInt) (b := 4) rfl (by decide +kernel) c_4
    refine lv_iconst (v := 0) hx hb dX5_findsBody_39 (by decide +kernel) ?_
    exact W.zret (v := 0) hx hb hr rfl (fun t ht hW => ⟨⟨0, [(a_k, (oc5 a_h a_j a_pt k_ln k_se k_lh k_br k_we k_me k_ce k_wy k_ho k_ov)), (a_h, (oc1 e_wa e_le e_st e_fo e_lc a_l a_g a_b a_s a_p a_w e_gb a_bb)), (a_g, (oc6 6 5 a_gn e_g)), (a_gn, (arI G 30 f_g)), (a_b, (oc6 5 24 a_bn e_b)), (a_bn, (arI G 120 f_b)), (a_p, (oc6 8 5 a_pn e_p)), (a_pn, (arI G 40 f_p)), (a_bb, (arJ G 24 f_bb)), (a_j, (oc2 a_as a_sk)), (a_as, (arI G 8 k_as)), (a_sk, (arJ G 50 k_sk)), (a_l, (arW G 6 f_l)), (a_lo, (oc3 e_cl a_hd a_sr a_cd)), (a_sr, (arI G n_sr f_sr)), (a_cd, (arI G n_cd f_cd)), (a_hd, (arI G n_hd f_hd)), (a_pt, (arI G 200 k_pt))], rfl, ⟨0, k_ln, k_se, k_lh, k_br, k_we, k_me, k_ce, k_wy, k_ho, k_ov, k_pt, k_as, k_sk, ⟨by have zc_o_r : (0 : Int32).toInt = 0 := (by decide +kernel); omega, by have zc_o_r : (0 : Int32).toInt = 0 := (by decide +kernel); omega⟩, i_2, rfl, rfl⟩, by rw [ht]; exact hP.sub [0, 1, 2, 3, 4, 5, 6, 7, 8, 9, 10, 11, 12, 13, 14, 15, 16, 17] rfl, hD.sub [0, 1, 2, 3, 4, 5, 6, 7, 8, 9, 10, 11, 12, 13, 14, 15, 16, 17] (by decide +kernel) rfl⟩, hS.F ht⟩) hS.2.2 dX5_findsBody_40
  ·
    have i_4 : k_d.toInt < 4 := g5_geN (a := k_d.toInt) (b := 4) rfl (by decide +kernel) c_4
    refine lv_aload_n hx hb dX5_findsBody_14 rfl (lv_at hl 1 rfl) ?_
    refine lv_iload_n hx hb dX5_findsBody_15 rfl (lv_at hl 3 rfl) ?_
    refine lv_iload hx hb dX5_findsBody_16 (lv_at hl 0 rfl) ?_
    refine lv_iload_n hx hb dX5_findsBody_18 rfl (lv_at hl 4 rfl) ?_
    refine W.eq (g2 := F0 m 19 ls [.int p_h, .int k_d, .int p_c, .ref a_k]) rfl ?_
    refine lv_iconst (v := 0) hx hb dX5_findsBody_19 (by decide +kernel) ?_
    obtain ⟨hPc, hDc, hFc⟩ := g5_sub3 (wc := [(a_k, (oc5 a_h a_j a_pt k_ln k_se k_lh k_br k_we k_me k_ce k_wy k_ho k_ov)), (a_h, (oc1 e_wa e_le e_st e_fo e_lc a_l a_g a_b a_s a_p a_w e_gb a_bb)), (a_g, (oc6 6 5 a_gn e_g)), (a_gn, (arI G 30 f_g)), (a_b, (oc6 5 24 a_bn e_b)), (a_bn, (arI G 120 f_b)), (a_p, (oc6 8 5 a_pn e_p)), (a_pn, (arI G 40 f_p)), (a_bb, (arJ G 24 f_bb)), (a_j, (oc2 a_as a_sk)), (a_as, (arI G 8 k_as)), (a_sk, (arJ G 50 k_sk)), (a_l, (arW G 6 f_l)), (a_lo, (oc3 e_cl a_hd a_sr a_cd)), (a_sr, (arI G n_sr f_sr)), (a_cd, (arI G n_cd f_cd)), (a_hd, (arI G n_hd f_hd)), (a_pt, (arI G 200 k_pt))]) hP hD hS hA [0, 1, 2, 3, 4, 5, 6, 7, 8, 9, 10, 11, 12, 13, 14, 15, 16, 17] (by decide +kernel) rfl
    refine va_callv (va_runV (As := [.int p_c, .int k_d, .int p_h, .int 0]) (rest := []) ⟨hx, hb, hml, hown, hts⟩ (k_runL l G a_k a_h a_g a_gn a_b a_bn a_p a_pn a_bb a_j a_as a_sk a_l a_lo a_sr a_cd a_hd a_pt a_s a_w H.size e_le e_st e_fo e_lc e_g e_b e_p e_cl k_ln k_se k_lh k_br k_we k_me k_ce k_wy k_ho k_ov p_c k_d p_h 0 e_wa e_gb f_g f_b f_p f_bb k_as k_sk f_l f_sr f_cd f_hd k_pt n_sr n_cd n_hd h_e_g h_e_b h_e_p h_e_cl i_2 (e_gk) (e_pk) (e_gi) (e_f) (e_a) (e_hn) (e_hs) (e_hk) (e_c)) (cwV 4 hts gV_X5_91 rfl rfl rfl hv_X5_run ⟨Nat.le_of_ble_eq_true rfl, Nat.le_of_ble_eq_true rfl⟩) (g5_preV hPc hK hDc hN hT hS hFc (ci := 5) (q0 := 0) rfl rfl) rfl rfl hl.1 rfl (lv_room (Nat.le_of_ble_eq_true rfl)) dX5_findsBody_20 ⟨Nat.le_of_ble_eq_true rfl, Nat.le_of_ble_eq_true rfl⟩) hS (fun q _ h => hFc q h) hFc (fun u t H locs ht hvm hw hB hz1 hk1 hS => ?_)
    obtain ⟨hP1, hD1⟩ := hB
    have hP1 := g5_ht ht hP1
    obtain ⟨z8, z9, z10, z11, z12, z13, z14, z15, z16, z17, z18, z19, z20, (i_5 : 0 ≤ z8.toInt ∧ z8.toInt ≤ 200), (i_6 : 0 ≤ z17.toInt ∧ z17.toInt ≤ 1), (i_7 : ∀ j : Nat, (j : Int) < z8.toInt → 0 ≤ (z18 j).toInt ∧ (z18 j).toInt ≤ 1535), rfl⟩ := hw
    have hJ9 := va_join (wr := []) hP hD [0, 1, 2, 3, 4, 5, 6, 7, 8, 9, 10, 11, 12, 13, 14, 15, 16, 17] [] rfl rfl (by decide +kernel) (by decide +kernel) hk1 hFc hP1 hD1
    clear hP hD hPc hDc hFc ht hvm hz1 hk1 hP1 hD1
    obtain ⟨hP, hD⟩ := hJ9
    refine g5_rs [(a_k, (oc5 a_h a_j a_pt z8 z9 z10 z11 z12 z13 z14 z15 z16 z17)), (a_h, (oc1 e_wa e_le e_st e_fo e_lc a_l a_g a_b a_s a_p a_w e_gb a_bb)), (a_g, (oc6 6 5 a_gn e_g)), (a_gn, (arI G 30 f_g)), (a_b, (oc6 5 24 a_bn e_b)), (a_bn, (arI G 120 f_b)), (a_p, (oc6 8 5 a_pn e_p)), (a_pn, (arI G 40 f_p)), (a_bb, (arJ G 24 f_bb)), (a_j, (oc2 a_as a_sk)), (a_as, (arI G 8 z19)), (a_sk, (arJ G 50 z20)), (a_l, (arW G 6 f_l)), (a_lo, (oc3 e_cl a_hd a_sr a_cd)), (a_sr, (arI G n_sr f_sr)), (a_cd, (arI G n_cd f_cd)), (a_hd, (arI G n_hd f_hd)), (a_pt, (arI G 200 z18))] hP hD ?_
    clear hP hD
    intro hP hD
    refine lv_aload_n hx hb dX5_findsBody_23 rfl (lv_at hl 1 rfl) ?_
    refine va_get (D := G.1) (ci := 5) (v := .int z9) (C := RX5) (T := TX5) (N := 13) hx hb hts inG_X5 hown hK hP 0 rfl rfl 4 (by decide +kernel) (hts _ fl_X5_39) (fun _ h9 => h9) rfl dX5_findsBody_24 ?_
    refine lv_iload_n hx hb dX5_findsBody_27 rfl (lv_at hl 2 rfl) ?_
    refine W.eq (g2 := F0 m 28 ls [.int p_b, .int z9]) rfl ?_
    refine lv_icmp_ne (tgt := 33) hx hb dX5_findsBody_28 (by decide +kernel) (fun c_21 => ?_) (fun c_21 => ?_)
    ·
      have n_21 : gNe (z9.toInt) (p_b.toInt) := g5_ne (a := z9.toInt) (b := p_b.toInt) rfl rfl c_21
      refine lv_iinc (v := (k_d + 1)) (lv' := [(4, .int (k_d + 1)), (0, .ref a_k), (1, .int p_b), (2, .int p_c), (3, .int p_h)]) hx hb dX5_findsBody_33 hl (k := 0) rfl rfl (by decide +kernel) rfl ?_
      clear hl
      intro ls hl
      have t_22 : (k_d + 1).toInt = k_d.toInt + 1 := g5_iadd (a := k_d.toInt) (b := 1) rfl (by decide +kernel) (by omega) (by omega)
      refine lv_goto (tgt := 8) hx hb dX5_findsBody_36 (by decide +kernel) ?_
      exact ih_8_3 ((k_d + 1), z9, z10, z11, z12, z13, z14, z15, z16, z17, z18, z19, z20, z8) ls H locs (show Int.toNat (4 - (k_d + 1).toInt) < Int.toNat (4 - k_d.toInt) from g_up (show k_d.toInt < (k_d + 1).toInt by omega) (show k_d.toInt < 4 by omega)) ⟨lv_sub hl [0, 1, 2, 3, 4] rfl, hP, hD, hS, ⟨by omega, by omega⟩, i_6⟩
    ·
      have i_21 : z9.toInt = p_b.toInt := g5_neN (a := z9.toInt) (b := p_b.toInt) rfl rfl c_21
      refine lv_iconst (v := 1) hx hb dX5_findsBody_31 (by decide +kernel) ?_
      exact W.zret (v := 1) hx hb hr rfl (fun t ht hW => ⟨⟨1, [(a_k, (oc5 a_h a_j a_pt z8 z9 z10 z11 z12 z13 z14 z15 z16 z17)), (a_h, (oc1 e_wa e_le e_st e_fo e_lc a_l a_g a_b a_s a_p a_w e_gb a_bb)), (a_g, (oc6 6 5 a_gn e_g)), (a_gn, (arI G 30 f_g)), (a_b, (oc6 5 24 a_bn e_b)), (a_bn, (arI G 120 f_b)), (a_p, (oc6 8 5 a_pn e_p)), (a_pn, (arI G 40 f_p)), (a_bb, (arJ G 24 f_bb)), (a_j, (oc2 a_as a_sk)), (a_as, (arI G 8 z19)), (a_sk, (arJ G 50 z20)), (a_l, (arW G 6 f_l)), (a_lo, (oc3 e_cl a_hd a_sr a_cd)), (a_sr, (arI G n_sr f_sr)), (a_cd, (arI G n_cd f_cd)), (a_hd, (arI G n_hd f_hd)), (a_pt, (arI G 200 z18))], rfl, ⟨1, z8, z9, z10, z11, z12, z13, z14, z15, z16, z17, z18, z19, z20, ⟨by have zc_o_r : (1 : Int32).toInt = 1 := (by decide +kernel); omega, by have zc_o_r : (1 : Int32).toInt = 1 := (by decide +kernel); omega⟩, i_6, rfl, rfl⟩, by rw [ht]; exact hP.sub [0, 1, 2, 3, 4, 5, 6, 7, 8, 9, 10, 11, 12, 13, 14, 15, 16, 17] rfl, hD.sub [0, 1, 2, 3, 4, 5, 6, 7, 8, 9, 10, 11, 12, 13, 14, 15, 16, 17] (by decide +kernel) rfl⟩, hS.F ht⟩) hS.2.2 dX5_findsBody_32
set_option maxHeartbeats 4000000 in
set_option maxRecDepth 100000 in
theorem s_cellsFromL (l : Launch) (G : g5_G) (a_k a_h a_g a_gn a_b a_bn a_p a_pn a_bb a_j a_as a_sk a_l a_lo a_sr a_cd a_hd a_pt a_s a_w : Nat) (sz : Nat) (e_le : Int32) (e_st : Int32) (e_fo : Int32) (e_lc : Int32) (e_g : Int32) (e_b : Int32) (e_p : Int32) (e_cl : Int32) (e_ln : Int32) (e_se : Int32) (e_lh : Int32) (e_br : Int32) (e_we : Int32) (e_me : Int32) (e_ce : Int32) (e_wy : Int32) (e_ho : Int32) (e_ov : Int32) (p_c : Int32) (p_h : Int32) (e_wa : Int64) (e_gb : Int64) (f_g : Nat → Int32) (f_b : Nat → Int32) (f_p : Nat → Int32) (f_bb : Nat → Int64) (f_as : Nat → Int32) (f_sk : Nat → Int64) (f_l : Nat → Option Nat) (f_sr : Nat → Int32) (f_cd : Nat → Int32) (f_hd : Nat → Int32) (f_pt : Nat → Int32) (n_sr : Nat) (n_cd : Nat) (n_hd : Nat) (h_e_g : 0 ≤ e_g.toInt ∧ e_g.toInt ≤ 6) (h_e_b : 0 ≤ e_b.toInt ∧ e_b.toInt ≤ 5) (h_e_p : 0 ≤ e_p.toInt ∧ e_p.toInt ≤ 8) (h_e_cl : 0 ≤ e_cl.toInt ∧ e_cl.toInt ≤ 12) (h_e_ov : 0 ≤ e_ov.toInt ∧ e_ov.toInt ≤ 1) (e_gk : gOK f_g e_g.toInt) (e_pk : gOK f_p e_p.toInt) (e_gi : inT e_gb f_g e_g.toInt) (e_f : 0 ≤ e_fo.toInt ∧ e_fo.toInt < e_lc.toInt ∧ e_lc.toInt ≤ 6) (e_a : f_l e_fo.toNatClampNeg = some a_lo) (e_hn : n_cd ≤ 400) (e_hs : ∀ j : Nat, j < n_sr → 0 ≤ (f_sr j).toInt ∧ (f_sr j).toInt ≤ (n_cd : Int)) (e_hk : ∀ j : Nat, j < n_cd → (f_cd j >>> (12 &&& 31)).toInt = 1 → (f_cd j &&& 4095).toInt < 8) (e_c : (e_cl.toInt : Int) ≤ (n_hd : Int) ∧ (e_cl.toInt + 1 : Int) ≤ (n_sr : Int)) : Met l yX5_cellsFrom (wsG yX5_cellsFrom cX5_cellsFrom 7 (some .long)) ({ frames := 14, cells := 0, slots := 0, locals := 556 }) (va_Pc [.ref a_k, .int p_c, .int p_h] (g5_P G [(a_k, (oc5 a_h a_j a_pt e_ln e_se e_lh e_br e_we e_me e_ce e_wy e_ho e_ov)), (a_h, (oc1 e_wa e_le e_st e_fo e_lc a_l a_g a_b a_s a_p a_w e_gb a_bb)), (a_g, (oc6 6 5 a_gn e_g)), (a_gn, (arI G 30 f_g)), (a_b, (oc6 5 24 a_bn e_b)), (a_bn, (arI G 120 f_b)), (a_p, (oc6 8 5 a_pn e_p)), (a_pn, (arI G 40 f_p)), (a_bb, (arJ G 24 f_bb)), (a_j, (oc2 a_as a_sk)), (a_as, (arI G 8 f_as)), (a_sk, (arJ G 50 f_sk)), (a_l, (arW G 6 f_l)), (a_lo, (oc3 e_cl a_hd a_sr a_cd)), (a_sr, (arI G n_sr f_sr)), (a_cd, (arI G n_cd f_cd)), (a_hd, (arI G n_hd f_hd)), (a_pt, (arI G 200 f_pt))] sz)) (va_Ql (fun (r : Int64) (u : va_W) => (∃ (o_r : Int64) (o_ln : Int32) (o_se : Int32) (o_lh : Int32) (o_br : Int32) (o_we : Int32) (o_me : Int32) (o_ce : Int32) (o_wy : Int32) (o_ho : Int32) (o_ov : Int32) (o_pt : Nat → Int32) (o_as : Nat → Int32) (o_sk : Nat → Int64), (0 ≤ o_ov.toInt ∧ o_ov.toInt ≤ 1) ∧ (r = o_r) ∧ (u = [(a_k, (oc5 a_h a_j a_pt o_ln o_se o_lh o_br o_we o_me o_ce o_wy o_ho o_ov)), (a_h, (oc1 e_wa e_le e_st e_fo e_lc a_l a_g a_b a_s a_p a_w e_gb a_bb)), (a_g, (oc6 6 5 a_gn e_g)), (a_gn, (arI G 30 f_g)), (a_b, (oc6 5 24 a_bn e_b)), (a_bn, (arI G 120 f_b)), (a_p, (oc6 8 5 a_pn e_p)), (a_pn, (arI G 40 f_p)), (a_bb, (arJ G 24 f_bb)), (a_j, (oc2 a_as a_sk)), (a_as, (arI G 8 o_as)), (a_sk, (arJ G 50 o_sk)), (a_l, (arW G 6 f_l)), (a_lo, (oc3 e_cl a_hd a_sr a_cd)), (a_sr, (arI G n_sr f_sr)), (a_cd, (arI G n_cd f_cd)), (a_hd, (arI G n_hd f_hd)), (a_pt, (arI G 200 o_pt))]))) (g5_B G (va_A [(a_k, (oc5 a_h a_j a_pt e_ln e_se e_lh e_br e_we e_me e_ce e_wy e_ho e_ov)), (a_h, (oc1 e_wa e_le e_st e_fo e_lc a_l a_g a_b a_s a_p a_w e_gb a_bb)), (a_g, (oc6 6 5 a_gn e_g)), (a_gn, (arI G 30 f_g)), (a_b, (oc6 5 24 a_bn e_b)), (a_bn, (arI G 120 f_b)), (a_p, (oc6 8 5 a_pn e_p)), (a_pn, (arI G 40 f_p)), (a_bb, (arJ G 24 f_bb)), (a_j, (oc2 a_as a_sk)), (a_as, (arI G 8 f_as)), (a_sk, (arJ G 50 f_sk)), (a_l, (arW G 6 f_l)), (a_lo, (oc3 e_cl a_hd a_sr a_cd)), (a_sr, (arI G n_sr f_sr)), (a_cd, (arI G n_cd f_cd)), (a_hd, (arI G n_hd f_hd)), (a_pt, (arI G 200 f_pt))] sz)) (va_A [(a_k, (oc5 a_h a_j a_pt e_ln e_se e_lh e_br e_we e_me e_ce e_wy e_ho e_ov)), (a_h, (oc1 e_wa e_le e_st e_fo e_lc a_l a_g a_b a_s a_p a_w e_gb a_bb)), (a_g, (oc6 6 5 a_gn e_g)), (a_gn, (arI G 30 f_g)), (a_b, (oc6 5 24 a_bn e_b)), (a_bn, (arI G 120 f_b)), (a_p, (oc6 8 5 a_pn e_p)), (a_pn, (arI G 40 f_p)), (a_bb, (arJ G 24 f_bb)), (a_j, (oc2 a_as a_sk)), (a_as, (arI G 8 f_as)), (a_sk, (arJ G 50 f_sk)), (a_l, (arW G 6 f_l)), (a_lo, (oc3 e_cl a_hd a_sr a_cd)), (a_sr, (arI G n_sr f_sr)), (a_cd, (arI G n_cd f_cd)), (a_hd, (arI G n_hd f_hd)), (a_pt, (arI G 200 f_pt))] sz)) 0 0 (va_A [(a_k, (oc5 a_h a_j a_pt e_ln e_se e_lh e_br e_we e_me e_ce e_wy e_ho e_ov)), (a_h, (oc1 e_wa e_le e_st e_fo e_lc a_l a_g a_b a_s a_p a_w e_gb a_bb)), (a_g, (oc6 6 5 a_gn e_g)), (a_gn, (arI G 30 f_g)), (a_b, (oc6 5 24 a_bn e_b)), (a_bn, (arI G 120 f_b)), (a_p, (oc6 8 5 a_pn e_p)), (a_pn, (arI G 40 f_p)), (a_bb, (arJ G 24 f_bb)), (a_j, (oc2 a_as a_sk)), (a_as, (arI G 8 f_as)), (a_sk, (arJ G 50 f_sk)), (a_l, (arW G 6 f_l)), (a_lo, (oc3 e_cl a_hd a_sr a_cd)), (a_sr, (arI G n_sr f_sr)), (a_cd, (arI G n_cd f_cd)), (a_hd, (arI G n_hd f_hd)), (a_pt, (arI G 200 f_pt))] sz) := by
  refine Met.ofW (cc := cX5_cellsFrom) (maxL := 7) (ret := (some .long)) (by decide +kernel) rfl ?_
  intro p e s m args below meth c s₁ B hml hv
  obtain ⟨rfl, hsz, hP, hK, hD0, hN, hT⟩ := hv
  have hx := B.exec
  have hb := B.bytes
  have hr := B.returns
  have hts : ∀ w ∈ tblG, w.before _ s = true := fun w h => atoms_spec (ws := (wsG yX5_cellsFrom cX5_cellsFrom 7 (some .long))) B.pre w (List.mem_cons_of_mem _ h)
  have hown : s.vm.findClass RX5 = some m.cls := findClass_of_methodNamed B.named
  have hlocks := B.notSynchronized
  subst hsz
  have hD := hD0.self (sz := s.heap.size)
  generalize hAe : va_A [(a_k, (oc5 a_h a_j a_pt e_ln e_se e_lh e_br e_we e_me e_ce e_wy e_ho e_ov)), (a_h, (oc1 e_wa e_le e_st e_fo e_lc a_l a_g a_b a_s a_p a_w e_gb a_bb)), (a_g, (oc6 6 5 a_gn e_g)), (a_gn, (arI G 30 f_g)), (a_b, (oc6 5 24 a_bn e_b)), (a_bn, (arI G 120 f_b)), (a_p, (oc6 8 5 a_pn e_p)), (a_pn, (arI G 40 f_p)), (a_bb, (arJ G 24 f_bb)), (a_j, (oc2 a_as a_sk)), (a_as, (arI G 8 f_as)), (a_sk, (arJ G 50 f_sk)), (a_l, (arW G 6 f_l)), (a_lo, (oc3 e_cl a_hd a_sr a_cd)), (a_sr, (arI G n_sr f_sr)), (a_cd, (arI G n_cd f_cd)), (a_hd, (arI G n_hd f_hd)), (a_pt, (arI G 200 f_pt))] s.heap.size = A at hD hT ⊢
  have hA : ∀ q : Nat, s.heap.size ≤ q → A q := fun q h => by rw [← hAe]; exact Or.inr h
  have hS : va_S A s.heap s.heap [] := va_S.rf
  replace hP : va_P G.1 vwCl [(a_k, (oc5 a_h a_j a_pt e_ln e_se e_lh e_br e_we e_me e_ce e_wy e_ho e_ov)), (a_h, (oc1 e_wa e_le e_st e_fo e_lc a_l a_g a_b a_s a_p a_w e_gb a_bb)), (a_g, (oc6 6 5 a_gn e_g)), (a_gn, (arI G 30 f_g)), (a_b, (oc6 5 24 a_bn e_b)), (a_bn, (arI G 120 f_b)), (a_p, (oc6 8 5 a_pn e_p)), (a_pn, (arI G 40 f_p)), (a_bb, (arJ G 24 f_bb)), (a_j, (oc2 a_as a_sk)), (a_as, (arI G 8 f_as)), (a_sk, (arJ G 50 f_sk)), (a_l, (arW G 6 f_l)), (a_lo, (oc3 e_cl a_hd a_sr a_cd)), (a_sr, (arI G n_sr f_sr)), (a_cd, (arI G n_cd f_cd)), (a_hd, (arI G n_hd f_hd)), (a_pt, (arI G 200 f_pt))] s.heap := hP
  have hl := lv_entry ([.ref a_k, .int p_c, .int p_h]) (n := 7) (Nat.le_of_ble_eq_true rfl)
  rw [lg_entry_eq]
  generalize (lg_sl ([.ref a_k, .int p_c, .int p_h]) ++ List.replicate (7 - (lg_sl ([.ref a_k, .int p_c, .int p_h])).length) Slot.unset).toArray = ls at hl ⊢
  replace hl : lv_has ls 7 [(0, .ref a_k), (1, .int p_c), (2, .int p_h)] := hl
  refine lv_lconst (v := 0) hx hb dX5_cellsFrom_0 (by decide +kernel) ?_
  refine lv_lstore_n (lv' := [(3, .long 0), (0, .ref a_k), (1, .int p_c), (2, .int p_h)]) hx hb dX5_cellsFrom_1 rfl hl (by decide +kernel) rfl ?_
  clear hl
  intro ls hl
  refine lv_iconst (v := 0) hx hb dX5_cellsFrom_2 (by decide +kernel) ?_
  refine lv_istore (lv' := [(5, .int 0), (3, .long 0), (0, .ref a_k), (1, .int p_c), (2, .int p_h)]) hx hb dX5_cellsFrom_3 hl (by decide +kernel) rfl ?_
  clear hl
  intro ls hl
  refine g5_loop (α := (Int32) × (Int64) × (Int32) × (Int32) × (Int32) × (Int32) × (Int32) × (Int32) × (Int32) × (Int32) × (Int32) × (Nat → Int32) × (Nat → Int32) × (Nat → Int64) × (Int32)) (fun (q : (Int32) × (Int64) × (Int32) × (Int32) × (Int32) × (Int32) × (Int32) × (Int32) × (Int32) × (Int32) × (Int32) × (Nat → Int32) × (Nat → Int32) × (Nat → Int64) × (Int32)) (ls : Array Slot) (H : Heap) (locs : List Loc) => match q with | (k_d, k_b, k_se, k_lh, k_br, k_we, k_me, k_ce, k_wy, k_ho, k_ov, k_pt, k_as, k_sk, k_ln) => lv_has ls 7 [(3, .long k_b), (5, .int k_d), (0, .ref a_k), (1, .int p_c), (2, .int p_h)] ∧ va_P G.1 vwCl [(a_k, (oc5 a_h a_j a_pt k_ln k_se k_lh k_br k_we k_me k_ce k_wy k_ho k_ov)), (a_h, (oc1 e_wa e_le e_st e_fo e_lc a_l a_g a_b a_s a_p a_w e_gb a_bb)), (a_g, (oc6 6 5 a_gn e_g)), (a_gn, (arI G 30 f_g)), (a_b, (oc6 5 24 a_bn e_b)), (a_bn, (arI G 120 f_b)), (a_p, (oc6 8 5 a_pn e_p)), (a_pn, (arI G 40 f_p)), (a_bb, (arJ G 24 f_bb)), (a_j, (oc2 a_as a_sk)), (a_as, (arI G 8 k_as)), (a_sk, (arJ G 50 k_sk)), (a_l, (arW G 6 f_l)), (a_lo, (oc3 e_cl a_hd a_sr a_cd)), (a_sr, (arI G n_sr f_sr)), (a_cd, (arI G n_cd f_cd)), (a_hd, (arI G n_hd f_hd)), (a_pt, (arI G 200 k_pt))] H ∧ va_D A [(a_k, (oc5 a_h a_j a_pt k_ln k_se k_lh k_br k_we k_me k_ce k_wy k_ho k_ov)), (a_h, (oc1 e_wa e_le e_st e_fo e_lc a_l a_g a_b a_s a_p a_w e_gb a_bb)), (a_g, (oc6 6 5 a_gn e_g)), (a_gn, (arI G 30 f_g)), (a_b, (oc6 5 24 a_bn e_b)), (a_bn, (arI G 120 f_b)), (a_p, (oc6 8 5 a_pn e_p)), (a_pn, (arI G 40 f_p)), (a_bb, (arJ G 24 f_bb)), (a_j, (oc2 a_as a_sk)), (a_as, (arI G 8 k_as)), (a_sk, (arJ G 50 k_sk)), (a_l, (arW G 6 f_l)), (a_lo, (oc3 e_cl a_hd a_sr a_cd)), (a_sr, (arI G n_sr f_sr)), (a_cd, (arI G n_cd f_cd)), (a_hd, (arI G n_hd f_hd)), (a_pt, (arI G 200 k_pt))] ∧ va_S A s.heap H locs ∧ (0 ≤ k_d.toInt ∧ k_d.toInt ≤ 4) ∧ (0 ≤ k_ov.toInt ∧ k_ov.toInt ≤ 1)) (fun (q : (Int32) × (Int64) × (Int32) × (Int32) × (Int32) × (Int32) × (Int32) × (Int32) × (Int32) × (Int32) × (Int32) × (Nat → Int32) × (Nat → Int32) × (Nat → Int64) × (Int32)) => match q with | (k_d, k_b, k_se, k_lh, k_br, k_we, k_me, k_ce, k_wy, k_ho, k_ov, k_pt, k_as, k_sk, k_ln) => Int.toNat (4 - k_d.toInt)) (0, 0, e_se, e_lh, e_br, e_we, e_me, e_ce, e_wy, e_ho, e_ov, f_pt, f_as, f_sk, e_ln) ⟨lv_sub hl [1, 0, 2, 3, 4] rfl, hP, hD, hS, ⟨by decide, by decide⟩, h_e_ov⟩ ?_
  rintro ⟨k_d, k_b, k_se, k_lh, k_br, k_we, k_me, k_ce, k_wy, k_ho, k_ov, k_pt, k_as, k_sk, k_ln⟩ ls H locs ⟨hl, hP, hD, hS, (i_1 : 0 ≤ k_d.toInt ∧ k_d.toInt ≤ 4), (i_2 : 0 ≤ k_ov.toInt ∧ k_ov.toInt ≤ 1)⟩ ih_5_3
  replace hl : lv_has ls 7 [(3, .long k_b), (5, .int k_d), (0, .ref a_k), (1, .int p_c), (2, .int p_h)] := hl
  refine g5_rs [(a_k, (oc5 a_h a_j a_pt k_ln k_se k_lh k_br k_we k_me k_ce k_wy k_ho k_ov)), (a_h, (oc1 e_wa e_le e_st e_fo e_lc a_l a_g a_b a_s a_p a_w e_gb a_bb)), (a_g, (oc6 6 5 a_gn e_g)), (a_gn, (arI G 30 f_g)), (a_b, (oc6 5 24 a_bn e_b)), (a_bn, (arI G 120 f_b)), (a_p, (oc6 8 5 a_pn e_p)), (a_pn, (arI G 40 f_p)), (a_bb, (arJ G 24 f_bb)), (a_j, (oc2 a_as a_sk)), (a_as, (arI G 8 k_as)), (a_sk, (arJ G 50 k_sk)), (a_l, (arW G 6 f_l)), (a_lo, (oc3 e_cl a_hd a_sr a_cd)), (a_sr, (arI G n_sr f_sr)), (a_cd, (arI G n_cd f_cd)), (a_hd, (arI G n_hd f_hd)), (a_pt, (arI G 200 k_pt))] hP hD ?_
  clear hP hD
  intro hP hD
  refine lv_iload hx hb dX5_cellsFrom_5 (lv_at hl 1 rfl) ?_
  refine lv_iconst (v := 4) hx hb dX5_cellsFrom_7 (by decide +kernel) ?_
  refine lv_icmp_ge (tgt := 59) hx hb dX5_cellsFrom_8 (by decide +kernel) (fun c_4 => ?_) (fun c_4 => ?_)
  ·
    have i_4 : k_d.toInt ≥ 4 := g5_ge (a := k_d.toInt) (b := 4) rfl (by decide +kernel) c_4
    refine lv_lload_n hx hb dX5_cellsFrom_59 rfl (lv_at hl 0 rfl) ?_
    exact W.lret (v := k_b) hx hb hr (fun t ht hW => ⟨⟨k_b, [(a_k, (oc5 a_h a_j a_pt k_ln k_se k_lh k_br k_we k_me k_ce k_wy k_ho k_ov)), (a_h, (oc1 e_wa e_le e_st e_fo e_lc a_l a_g a_b a_s a_p a_w e_gb a_bb)), (a_g, (oc6 6 5 a_gn e_g)), (a_gn, (arI G 30 f_g)), (a_b, (oc6 5 24 a_bn e_b)), (a_bn, (arI G 120 f_b)), (a_p, (oc6 8 5 a_pn e_p)), (a_pn, (arI G 40 f_p)), (a_bb, (arJ G 24 f_bb)), (a_j, (oc2 a_as a_sk)), (a_as, (arI G 8 k_as)), (a_sk, (arJ G 50 k_sk)), (a_l, (arW G 6 f_l)), (a_lo, (oc3 e_cl a_hd a_sr a_cd)), (a_sr, (arI G n_sr f_sr)), (a_cd, (arI G n_cd f_cd)), (a_hd, (arI G n_hd f_hd)), (a_pt, (arI G 200 k_pt))], rfl, ⟨k_b, k_ln, k_se, k_lh, k_br, k_we, k_me, k_ce, k_wy, k_ho, k_ov, k_pt, k_as, k_sk, i_2, rfl, rfl⟩, by rw [ht]; exact hP.sub [0, 1, 2, 3, 4, 5, 6, 7, 8, 9, 10, 11, 12, 13, 14, 15, 16, 17] rfl, hD.sub [0, 1, 2, 3, 4, 5, 6, 7, 8, 9, 10, 11, 12, 13, 14, 15, 16, 17] (by decide +kernel) rfl⟩, hS.F ht⟩) hS.2.2 dX5_cellsFrom_60
  ·
    have i_4 : k_d.toInt < 4 := g5_geN (a := k_d.toInt) (b := 4) rfl (by decide +kernel) c_4
    refine lv_aload_n hx hb dX5_cellsFrom_11 rfl (lv_at hl 2 rfl) ?_
    refine lv_iload_n hx hb dX5_cellsFrom_12 rfl (lv_at hl 3 rfl) ?_
    refine lv_iload hx hb dX5_cellsFrom_13 (lv_at hl 1 rfl) ?_
    refine lv_iload_n hx hb dX5_cellsFrom_15 rfl (lv_at hl 4 rfl) ?_
    refine W.eq (g2 := F0 m 16 ls [.int p_h, .int k_d, .int p_c, .ref a_k]) rfl ?_
    refine lv_iconst (v := 0) hx hb dX5_cellsFrom_16 (by decide +kernel) ?_
    obtain ⟨hPc, hDc, hFc⟩ := g5_sub3 (wc := [(a_k, (oc5 a_h a_j a_pt k_ln k_se k_lh k_br k_we k_me k_ce k_wy k_ho k_ov)), (a_h, (oc1 e_wa e_le e_st e_fo e_lc a_l a_g a_b a_s a_p a_w e_gb a_bb)), (a_g, (oc6 6 5 a_gn e_g)), (a_gn, (arI G 30 f_g)), (a_b, (oc6 5 24 a_bn e_b)), (a_bn, (arI G 120 f_b)), (a_p, (oc6 8 5 a_pn e_p)), (a_pn, (arI G 40 f_p)), (a_bb, (arJ G 24 f_bb)), (a_j, (oc2 a_as a_sk)), (a_as, (arI G 8 k_as)), (a_sk, (arJ G 50 k_sk)), (a_l, (arW G 6 f_l)), (a_lo, (oc3 e_cl a_hd a_sr a_cd)), (a_sr, (arI G n_sr f_sr)), (a_cd, (arI G n_cd f_cd)), (a_hd, (arI G n_hd f_hd)), (a_pt, (arI G 200 k_pt))]) hP hD hS hA [0, 1, 2, 3, 4, 5, 6, 7, 8, 9, 10, 11, 12, 13, 14, 15, 16, 17] (by decide +kernel) rfl
    refine va_callv (va_runV (As := [.int p_c, .int k_d, .int p_h, .int 0]) (rest := []) ⟨hx, hb, hml, hown, hts⟩ (k_runL l G a_k a_h a_g a_gn a_b a_bn a_p a_pn a_bb a_j a_as a_sk a_l a_lo a_sr a_cd a_hd a_pt a_s a_w H.size e_le e_st e_fo e_lc e_g e_b e_p e_cl k_ln k_se k_lh k_br k_we k_me k_ce k_wy k_ho k_ov p_c k_d p_h 0 e_wa e_gb f_g f_b f_p f_bb k_as k_sk f_l f_sr f_cd f_hd k_pt n_sr n_cd n_hd h_e_g h_e_b h_e_p h_e_cl i_2 (e_gk) (e_pk) (e_gi) (e_f) (e_a) (e_hn) (e_hs) (e_hk) (e_c)) (cwV 4 hts gV_X5_91 rfl rfl rfl hv_X5_run ⟨Nat.le_of_ble_eq_true rfl, Nat.le_of_ble_eq_true rfl⟩) (g5_preV hPc hK hDc hN hT hS hFc (ci := 5) (q0 := 0) rfl rfl) rfl rfl hl.1 rfl (lv_room (Nat.le_of_ble_eq_true rfl)) dX5_cellsFrom_17 ⟨Nat.le_of_ble_eq_true rfl, Nat.le_of_ble_eq_true rfl⟩) hS (fun q _ h => hFc q h) hFc (fun u t H locs ht hvm hw hB hz1 hk1 hS => ?_)
    obtain ⟨hP1, hD1⟩ := hB
    have hP1 := g5_ht ht hP1
    obtain ⟨z8, z9, z10, z11, z12, z13, z14, z15, z16, z17, z18, z19, z20, (i_5 : 0 ≤ z8.toInt ∧ z8.toInt ≤ 200), (i_6 : 0 ≤ z17.toInt ∧ z17.toInt ≤ 1), (i_7 : ∀ j : Nat, (j : Int) < z8.toInt → 0 ≤ (z18 j).toInt ∧ (z18 j).toInt ≤ 1535), rfl⟩ := hw
    have hJ9 := va_join (wr := []) hP hD [0, 1, 2, 3, 4, 5, 6, 7, 8, 9, 10, 11, 12, 13, 14, 15, 16, 17] [] rfl rfl (by decide +kernel) (by decide +kernel) hk1 hFc hP1 hD1
    clear hP hD hPc hDc hFc ht hvm hz1 hk1 hP1 hD1
    obtain ⟨hP, hD⟩ := hJ9
    refine g5_rs [(a_k, (oc5 a_h a_j a_pt z8 z9 z10 z11 z12 z13 z14 z15 z16 z17)), (a_h, (oc1 e_wa e_le e_st e_fo e_lc a_l a_g a_b a_s a_p a_w e_gb a_bb)), (a_g, (oc6 6 5 a_gn e_g)), (a_gn, (arI G 30 f_g)), (a_b, (oc6 5 24 a_bn e_b)), (a_bn, (arI G 120 f_b)), (a_p, (oc6 8 5 a_pn e_p)), (a_pn, (arI G 40 f_p)), (a_bb, (arJ G 24 f_bb)), (a_j, (oc2 a_as a_sk)), (a_as, (arI G 8 z19)), (a_sk, (arJ G 50 z20)), (a_l, (arW G 6 f_l)), (a_lo, (oc3 e_cl a_hd a_sr a_cd)), (a_sr, (arI G n_sr f_sr)), (a_cd, (arI G n_cd f_cd)), (a_hd, (arI G n_hd f_hd)), (a_pt, (arI G 200 z18))] hP hD ?_
    clear hP hD
    intro hP hD
    refine lv_iconst (v := 0) hx hb dX5_cellsFrom_20 (by decide +kernel) ?_
    refine lv_istore (lv' := [(6, .int 0), (3, .long k_b), (5, .int k_d), (0, .ref a_k), (1, .int p_c), (2, .int p_h)]) hx hb dX5_cellsFrom_21 hl (by decide +kernel) rfl ?_
    clear hl
    intro ls hl
    refine g5_loop (α := (Int32) × (Int64)) (fun (q : (Int32) × (Int64)) (ls : Array Slot) (H : Heap) (locs : List Loc) => match q with | (k_i, k_x) => lv_has ls 7 [(3, .long k_x), (6, .int k_i), (5, .int k_d), (0, .ref a_k), (1, .int p_c), (2, .int p_h)] ∧ va_P G.1 vwCl [(a_k, (oc5 a_h a_j a_pt z8 z9 z10 z11 z12 z13 z14 z15 z16 z17)), (a_h, (oc1 e_wa e_le e_st e_fo e_lc a_l a_g a_b a_s a_p a_w e_gb a_bb)), (a_g, (oc6 6 5 a_gn e_g)), (a_gn, (arI G 30 f_g)), (a_b, (oc6 5 24 a_bn e_b)), (a_bn, (arI G 120 f_b)), (a_p, (oc6 8 5 a_pn e_p)), (a_pn, (arI G 40 f_p)), (a_bb, (arJ G 24 f_bb)), (a_j, (oc2 a_as a_sk)), (a_as, (arI G 8 z19)), (a_sk, (arJ G 50 z20)), (a_l, (arW G 6 f_l)), (a_lo, (oc3 e_cl a_hd a_sr a_cd)), (a_sr, (arI G n_sr f_sr)), (a_cd, (arI G n_cd f_cd)), (a_hd, (arI G n_hd f_hd)), (a_pt, (arI G 200 z18))] H ∧ va_D A [(a_k, (oc5 a_h a_j a_pt z8 z9 z10 z11 z12 z13 z14 z15 z16 z17)), (a_h, (oc1 e_wa e_le e_st e_fo e_lc a_l a_g a_b a_s a_p a_w e_gb a_bb)), (a_g, (oc6 6 5 a_gn e_g)), (a_gn, (arI G 30 f_g)), (a_b, (oc6 5 24 a_bn e_b)), (a_bn, (arI G 120 f_b)), (a_p, (oc6 8 5 a_pn e_p)), (a_pn, (arI G 40 f_p)), (a_bb, (arJ G 24 f_bb)), (a_j, (oc2 a_as a_sk)), (a_as, (arI G 8 z19)), (a_sk, (arJ G 50 z20)), (a_l, (arW G 6 f_l)), (a_lo, (oc3 e_cl a_hd a_sr a_cd)), (a_sr, (arI G n_sr f_sr)), (a_cd, (arI G n_cd f_cd)), (a_hd, (arI G n_hd f_hd)), (a_pt, (arI G 200 z18))] ∧ va_S A s.heap H locs ∧ (0 ≤ k_i.toInt ∧ k_i.toInt ≤ 200)) (fun (q : (Int32) × (Int64)) => match q with | (k_i, k_x) => Int.toNat (200 - k_i.toInt)) (0, k_b) ⟨lv_sub hl [1, 0, 2, 3, 4, 5] rfl, hP, hD, hS, ⟨by decide, by decide⟩⟩ ?_
    rintro ⟨k_i, k_x⟩ ls H locs ⟨hl, hP, hD, hS, (i_21 : 0 ≤ k_i.toInt ∧ k_i.toInt ≤ 200)⟩ ih_23_22
    replace hl : lv_has ls 7 [(3, .long k_x), (6, .int k_i), (5, .int k_d), (0, .ref a_k), (1, .int p_c), (2, .int p_h)] := hl
    refine g5_rs [(a_k, (oc5 a_h a_j a_pt z8 z9 z10 z11 z12 z13 z14 z15 z16 z17)), (a_h, (oc1 e_wa e_le e_st e_fo e_lc a_l a_g a_b a_s a_p a_w e_gb a_bb)), (a_g, (oc6 6 5 a_gn e_g)), (a_gn, (arI G 30 f_g)), (a_b, (oc6 5 24 a_bn e_b)), (a_bn, (arI G 120 f_b)), (a_p, (oc6 8 5 a_pn e_p)), (a_pn, (arI G 40 f_p)), (a_bb, (arJ G 24 f_bb)), (a_j, (oc2 a_as a_sk)), (a_as, (arI G 8 z19)), (a_sk, (arJ G 50 z20)), (a_l, (arW G 6 f_l)), (a_lo, (oc3 e_cl a_hd a_sr a_cd)), (a_sr, (arI G n_sr f_sr)), (a_cd, (arI G n_cd f_cd)), (a_hd, (arI G n_hd f_hd)), (a_pt, (arI G 200 z18))] hP hD ?_
    clear hP hD
    intro hP hD
    refine lv_iload hx hb dX5_cellsFrom_23 (lv_at hl 1 rfl) ?_
    refine lv_aload_n hx hb dX5_cellsFrom_25 rfl (lv_at hl 3 rfl) ?_
    refine va_get (D := G.1) (ci := 5) (v := .int z8) (C := RX5) (T := TX5) (N := 13) hx hb hts inG_X5 hown hK hP 0 rfl rfl 3 (by decide +kernel) (hts _ fl_X5_36) (fun _ h9 => h9) rfl dX5_cellsFrom_26 ?_
    refine lv_icmp_ge (tgt := 53) hx hb dX5_cellsFrom_29 (by decide +kernel) (fun c_23 => ?_) (fun c_23 => ?_)
    ·
      have i_23 : k_i.toInt ≥ z8.toInt := g5_ge (a := k_i.toInt) (b := z8.toInt) rfl rfl c_23
      refine lv_iinc (v := (k_d + 1)) (lv' := [(5, .int (k_d + 1)), (3, .long k_x), (6, .int k_i), (0, .ref a_k), (1, .int p_c), (2, .int p_h)]) hx hb dX5_cellsFrom_53 hl (k := 2) rfl rfl (by decide +kernel) rfl ?_
      clear hl
      intro ls hl
      have t_24 : (k_d + 1).toInt = k_d.toInt + 1 := g5_iadd (a := k_d.toInt) (b := 1) rfl (by decide +kernel) (by omega) (by omega)
      refine lv_goto (tgt := 5) hx hb dX5_cellsFrom_56 (by decide +kernel) ?_
      exact ih_5_3 ((k_d + 1), k_x, z9, z10, z11, z12, z13, z14, z15, z16, z17, z18, z19, z20, z8) ls H locs (show Int.toNat (4 - (k_d + 1).toInt) < Int.toNat (4 - k_d.toInt) from g_up (show k_d.toInt < (k_d + 1).toInt by omega) (show k_d.toInt < 4 by omega)) ⟨lv_sub hl [1, 0, 3, 4, 5] rfl, hP, hD, hS, ⟨by omega, by omega⟩, i_6⟩
    ·
      have i_23 : k_i.toInt < z8.toInt := g5_geN (a := k_i.toInt) (b := z8.toInt) rfl rfl c_23
      refine lv_lload_n hx hb dX5_cellsFrom_32 rfl (lv_at hl 0 rfl) ?_
      refine lv_lconst (v := 1) hx hb dX5_cellsFrom_33 (by decide +kernel) ?_
      refine lv_aload_n hx hb dX5_cellsFrom_34 rfl (lv_at hl 3 rfl) ?_
      refine va_get (D := G.1) (ci := 5) (v := .ref a_pt) (C := RX5) (T := TX5) (N := 13) hx hb hts inG_X5 hown hK hP 0 rfl rfl 2 (by decide +kernel) (hts _ fl_X5_18) (fun _ h9 => h9) rfl dX5_cellsFrom_35 ?_
      refine W.eq (g2 := F0 m 38 ls [.ref a_pt, .long 1, .long k_x]) rfl ?_
      refine lv_iload hx hb dX5_cellsFrom_38 (lv_at hl 1 rfl) ?_
      refine va_iald hx hb hK hP 17 0 rfl rfl (i := k_i) (vp_in_iff.mpr ⟨by omega, by omega⟩) dX5_cellsFrom_40 ?_
      have hp_25 : 0 ≤ (z18 k_i.toNatClampNeg).toInt ∧ (z18 k_i.toNatClampNeg).toInt ≤ 1535 := i_7 _ (by have zz := g5_clamp k_i; omega)
      refine lv_bipush (v := 64) hx hb dX5_cellsFrom_41 (by decide +kernel) ?_
      refine lv_irem hx hb dX5_cellsFrom_43 (by decide +kernel) ?_
      have t_26 : ((z18 k_i.toNatClampNeg) - (z18 k_i.toNatClampNeg) / 64 * 64).toInt = (z18 k_i.toNatClampNeg).toInt % 64 := g5_irem (a := (z18 k_i.toNatClampNeg).toInt) (b := 64) rfl (by decide +kernel) (by omega) (by decide +kernel)
      refine lv_lshl (v := ((1 : Int64) <<< (((z18 k_i.toNatClampNeg) - (z18 k_i.toNatClampNeg) / 64 * 64).toInt64 &&& 63))) hx hb dX5_cellsFrom_44 rfl ?_
      refine W.eq (g2 := F0 m 45 ls [.long ((1 : Int64) <<< (((z18 k_i.toNatClampNeg) - (z18 k_i.toNatClampNeg) / 64 * 64).toInt64 &&& 63)), .long k_x]) rfl ?_
      refine lv_lor hx hb dX5_cellsFrom_45 ?_
      refine lv_lstore_n (lv' := [(3, .long (k_x ||| ((1 : Int64) <<< (((z18 k_i.toNatClampNeg) - (z18 k_i.toNatClampNeg) / 64 * 64).toInt64 &&& 63)))), (6, .int k_i), (5, .int k_d), (0, .ref a_k), (1, .int p_c), (2, .int p_h)]) hx hb dX5_cellsFrom_46 rfl hl (by decide +kernel) rfl ?_
      clear hl
      intro ls hl
      refine lv_iinc (v := (k_i + 1)) (lv' := [(6, .int (k_i + 1)), (3, .long (k_x ||| ((1 : Int64) <<< (((z18 k_i.toNatClampNeg) - (z18 k_i.toNatClampNeg) / 64 * 64).toInt64 &&& 63)))), (5, .int k_d), (0, .ref a_k), (1, .int p_c), (2, .int p_h)]) hx hb dX5_cellsFrom_47 hl (k := 1) rfl rfl (by decide +kernel) rfl ?_
      clear hl
      intro ls hl
      have t_27 : (k_i + 1).toInt = k_i.toInt + 1 := g5_iadd (a := k_i.toInt) (b := 1) rfl (by decide +kernel) (by omega) (by omega)
      refine lv_goto (tgt := 23) hx hb dX5_cellsFrom_50 (by decide +kernel) ?_
      exact ih_23_22 ((k_i + 1), (k_x ||| ((1 : Int64) <<< (((z18 k_i.toNatClampNeg) - (z18 k_i.toNatClampNeg) / 64 * 64).toInt64 &&& 63)))) ls H locs (show Int.toNat (200 - (k_i + 1).toInt) < Int.toNat (200 - k_i.toInt) from g_up (show k_i.toInt < (k_i + 1).toInt by omega) (show k_i.toInt < 200 by omega)) ⟨lv_sub hl [1, 0, 2, 3, 4, 5] rfl, hP, hD, hS, ⟨by omega, by omega⟩⟩
set_option maxHeartbeats 4000000 in
set_option maxRecDepth 100000 in
theorem s_latenessL (l : Launch) (G : g5_G) (a_k a_h a_g a_gn a_b a_bn a_p a_pn a_bb a_j a_as a_sk a_l a_lo a_sr a_cd a_hd a_pt a_s a_w : Nat) (sz : Nat) (e_le : Int32) (e_st : Int32) (e_fo : Int32) (e_lc : Int32) (e_g : Int32) (e_b : Int32) (e_p : Int32) (e_cl : Int32) (e_ln : Int32) (e_se : Int32) (e_lh : Int32) (e_br : Int32) (e_we : Int32) (e_me : Int32) (e_ce : Int32) (e_wy : Int32) (e_ho : Int32) (e_ov : Int32) (p_c : Int32) (p_h : Int32) (p_b : Int32) (e_wa : Int64) (e_gb : Int64) (f_g : Nat → Int32) (f_b : Nat → Int32) (f_p : Nat → Int32) (f_bb : Nat → Int64) (f_as : Nat → Int32) (f_sk : Nat → Int64) (f_l : Nat → Option Nat) (f_sr : Nat → Int32) (f_cd : Nat → Int32) (f_hd : Nat → Int32) (f_pt : Nat → Int32) (n_sr : Nat) (n_cd : Nat) (n_hd : Nat) (h_e_g : 0 ≤ e_g.toInt ∧ e_g.toInt ≤ 6) (h_e_b : 0 ≤ e_b.toInt ∧ e_b.toInt ≤ 5) (h_e_p : 0 ≤ e_p.toInt ∧ e_p.toInt ≤ 8) (h_e_cl : 0 ≤ e_cl.toInt ∧ e_cl.toInt ≤ 12) (h_e_ov : 0 ≤ e_ov.toInt ∧ e_ov.toInt ≤ 1) (e_gk : gOK f_g e_g.toInt) (e_pk : gOK f_p e_p.toInt) (e_gi : inT e_gb f_g e_g.toInt) (e_f : 0 ≤ e_fo.toInt ∧ e_fo.toInt < e_lc.toInt ∧ e_lc.toInt ≤ 6) (e_a : f_l e_fo.toNatClampNeg = some a_lo) (e_hn : n_cd ≤ 400) (e_hs : ∀ j : Nat, j < n_sr → 0 ≤ (f_sr j).toInt ∧ (f_sr j).toInt ≤ (n_cd : Int)) (e_hk : ∀ j : Nat, j < n_cd → (f_cd j >>> (12 &&& 31)).toInt = 1 → (f_cd j &&& 4095).toInt < 8) (e_c : (e_cl.toInt : Int) ≤ (n_hd : Int) ∧ (e_cl.toInt + 1 : Int) ≤ (n_sr : Int)) : Met l yX5_lateness (wsG yX5_lateness cX5_lateness 7 (some .int)) ({ frames := 14, cells := 0, slots := 0, locals := 556 }) (va_Pc [.ref a_k, .int p_c, .int p_h, .int p_b] (g5_P G [(a_k, (oc5 a_h a_j a_pt e_ln e_se e_lh e_br e_we e_me e_ce e_wy e_ho e_ov)), (a_h, (oc1 e_wa e_le e_st e_fo e_lc a_l a_g a_b a_s a_p a_w e_gb a_bb)), (a_g, (oc6 6 5 a_gn e_g)), (a_gn, (arI G 30 f_g)), (a_b, (oc6 5 24 a_bn e_b)), (a_bn, (arI G 120 f_b)), (a_p, (oc6 8 5 a_pn e_p)), (a_pn, (arI G 40 f_p)), (a_bb, (arJ G 24 f_bb)), (a_j, (oc2 a_as a_sk)), (a_as, (arI G 8 f_as)), (a_sk, (arJ G 50 f_sk)), (a_l, (arW G 6 f_l)), (a_lo, (oc3 e_cl a_hd a_sr a_cd)), (a_sr, (arI G n_sr f_sr)), (a_cd, (arI G n_cd f_cd)), (a_hd, (arI G n_hd f_hd)), (a_pt, (arI G 200 f_pt))] sz)) (va_Qi (fun (r : Int32) (u : va_W) => (∃ (o_r : Int32) (o_ln : Int32) (o_se : Int32) (o_lh : Int32) (o_br : Int32) (o_we : Int32) (o_me : Int32) (o_ce : Int32) (o_wy : Int32) (o_ho : Int32) (o_ov : Int32) (o_pt : Nat → Int32) (o_as : Nat → Int32) (o_sk : Nat → Int64), (0 ≤ o_ov.toInt ∧ o_ov.toInt ≤ 1) ∧ (r = o_r) ∧ (u = [(a_k, (oc5 a_h a_j a_pt o_ln o_se o_lh o_br o_we o_me o_ce o_wy o_ho o_ov)), (a_h, (oc1 e_wa e_le e_st e_fo e_lc a_l a_g a_b a_s a_p a_w e_gb a_bb)), (a_g, (oc6 6 5 a_gn e_g)), (a_gn, (arI G 30 f_g)), (a_b, (oc6 5 24 a_bn e_b)), (a_bn, (arI G 120 f_b)), (a_p, (oc6 8 5 a_pn e_p)), (a_pn, (arI G 40 f_p)), (a_bb, (arJ G 24 f_bb)), (a_j, (oc2 a_as a_sk)), (a_as, (arI G 8 o_as)), (a_sk, (arJ G 50 o_sk)), (a_l, (arW G 6 f_l)), (a_lo, (oc3 e_cl a_hd a_sr a_cd)), (a_sr, (arI G n_sr f_sr)), (a_cd, (arI G n_cd f_cd)), (a_hd, (arI G n_hd f_hd)), (a_pt, (arI G 200 o_pt))]))) (g5_B G (va_A [(a_k, (oc5 a_h a_j a_pt e_ln e_se e_lh e_br e_we e_me e_ce e_wy e_ho e_ov)), (a_h, (oc1 e_wa e_le e_st e_fo e_lc a_l a_g a_b a_s a_p a_w e_gb a_bb)), (a_g, (oc6 6 5 a_gn e_g)), (a_gn, (arI G 30 f_g)), (a_b, (oc6 5 24 a_bn e_b)), (a_bn, (arI G 120 f_b)), (a_p, (oc6 8 5 a_pn e_p)), (a_pn, (arI G 40 f_p)), (a_bb, (arJ G 24 f_bb)), (a_j, (oc2 a_as a_sk)), (a_as, (arI G 8 f_as)), (a_sk, (arJ G 50 f_sk)), (a_l, (arW G 6 f_l)), (a_lo, (oc3 e_cl a_hd a_sr a_cd)), (a_sr, (arI G n_sr f_sr)), (a_cd, (arI G n_cd f_cd)), (a_hd, (arI G n_hd f_hd)), (a_pt, (arI G 200 f_pt))] sz)) (va_A [(a_k, (oc5 a_h a_j a_pt e_ln e_se e_lh e_br e_we e_me e_ce e_wy e_ho e_ov)), (a_h, (oc1 e_wa e_le e_st e_fo e_lc a_l a_g a_b a_s a_p a_w e_gb a_bb)), (a_g, (oc6 6 5 a_gn e_g)), (a_gn, (arI G 30 f_g)), (a_b, (oc6 5 24 a_bn e_b)), (a_bn, (arI G 120 f_b)), (a_p, (oc6 8 5 a_pn e_p)), (a_pn, (arI G 40 f_p)), (a_bb, (arJ G 24 f_bb)), (a_j, (oc2 a_as a_sk)), (a_as, (arI G 8 f_as)), (a_sk, (arJ G 50 f_sk)), (a_l, (arW G 6 f_l)), (a_lo, (oc3 e_cl a_hd a_sr a_cd)), (a_sr, (arI G n_sr f_sr)), (a_cd, (arI G n_cd f_cd)), (a_hd, (arI G n_hd f_hd)), (a_pt, (arI G 200 f_pt))] sz)) 0 0 (va_A [(a_k, (oc5 a_h a_j a_pt e_ln e_se e_lh e_br e_we e_me e_ce e_wy e_ho e_ov)), (a_h, (oc1 e_wa e_le e_st e_fo e_lc a_l a_g a_b a_s a_p a_w e_gb a_bb)), (a_g, (oc6 6 5 a_gn e_g)), (a_gn, (arI G 30 f_g)), (a_b, (oc6 5 24 a_bn e_b)), (a_bn, (arI G 120 f_b)), (a_p, (oc6 8 5 a_pn e_p)), (a_pn, (arI G 40 f_p)), (a_bb, (arJ G 24 f_bb)), (a_j, (oc2 a_as a_sk)), (a_as, (arI G 8 f_as)), (a_sk, (arJ G 50 f_sk)), (a_l, (arW G 6 f_l)), (a_lo, (oc3 e_cl a_hd a_sr a_cd)), (a_sr, (arI G n_sr f_sr)), (a_cd, (arI G n_cd f_cd)), (a_hd, (arI G n_hd f_hd)), (a_pt, (arI G 200 f_pt))] sz) := by
  refine Met.ofW (cc := cX5_lateness) (maxL := 7) (ret := (some .int)) (by decide +kernel) rfl ?_
  intro p e s m args below meth c s₁ B hml hv
  obtain ⟨rfl, hsz, hP, hK, hD0, hN, hT⟩ := hv
  have hx := B.exec
  have hb := B.bytes
  have hr := B.returns
  have hts : ∀ w ∈ tblG, w.before _ s = true := fun w h => atoms_spec (ws := (wsG yX5_lateness cX5_lateness 7 (some .int))) B.pre w (List.mem_cons_of_mem _ h)
  have hown : s.vm.findClass RX5 = some m.cls := findClass_of_methodNamed B.named
  have hlocks := B.notSynchronized
  subst hsz
  have hD := hD0.self (sz := s.heap.size)
  generalize hAe : va_A [(a_k, (oc5 a_h a_j a_pt e_ln e_se e_lh e_br e_we e_me e_ce e_wy e_ho e_ov)), (a_h, (oc1 e_wa e_le e_st e_fo e_lc a_l a_g a_b a_s a_p a_w e_gb a_bb)), (a_g, (oc6 6 5 a_gn e_g)), (a_gn, (arI G 30 f_g)), (a_b, (oc6 5 24 a_bn e_b)), (a_bn, (arI G 120 f_b)), (a_p, (oc6 8 5 a_pn e_p)), (a_pn, (arI G 40 f_p)), (a_bb, (arJ G 24 f_bb)), (a_j, (oc2 a_as a_sk)), (a_as, (arI G 8 f_as)), (a_sk, (arJ G 50 f_sk)), (a_l, (arW G 6 f_l)), (a_lo, (oc3 e_cl a_hd a_sr a_cd)), (a_sr, (arI G n_sr f_sr)), (a_cd, (arI G n_cd f_cd)), (a_hd, (arI G n_hd f_hd)), (a_pt, (arI G 200 f_pt))] s.heap.size = A at hD hT ⊢
  have hA : ∀ q : Nat, s.heap.size ≤ q → A q := fun q h => by rw [← hAe]; exact Or.inr h
  have hS : va_S A s.heap s.heap [] := va_S.rf
  replace hP : va_P G.1 vwCl [(a_k, (oc5 a_h a_j a_pt e_ln e_se e_lh e_br e_we e_me e_ce e_wy e_ho e_ov)), (a_h, (oc1 e_wa e_le e_st e_fo e_lc a_l a_g a_b a_s a_p a_w e_gb a_bb)), (a_g, (oc6 6 5 a_gn e_g)), (a_gn, (arI G 30 f_g)), (a_b, (oc6 5 24 a_bn e_b)), (a_bn, (arI G 120 f_b)), (a_p, (oc6 8 5 a_pn e_p)), (a_pn, (arI G 40 f_p)), (a_bb, (arJ G 24 f_bb)), (a_j, (oc2 a_as a_sk)), (a_as, (arI G 8 f_as)), (a_sk, (arJ G 50 f_sk)), (a_l, (arW G 6 f_l)), (a_lo, (oc3 e_cl a_hd a_sr a_cd)), (a_sr, (arI G n_sr f_sr)), (a_cd, (arI G n_cd f_cd)), (a_hd, (arI G n_hd f_hd)), (a_pt, (arI G 200 f_pt))] s.heap := hP
  have hl := lv_entry ([.ref a_k, .int p_c, .int p_h, .int p_b]) (n := 7) (Nat.le_of_ble_eq_true rfl)
  rw [lg_entry_eq]
  generalize (lg_sl ([.ref a_k, .int p_c, .int p_h, .int p_b]) ++ List.replicate (7 - (lg_sl ([.ref a_k, .int p_c, .int p_h, .int p_b])).length) Slot.unset).toArray = ls at hl ⊢
  replace hl : lv_has ls 7 [(0, .ref a_k), (1, .int p_c), (2, .int p_h), (3, .int p_b)] := hl
  refine lv_iconst (v := (-1)) hx hb dX5_lateness_0 (by decide +kernel) ?_
  refine lv_istore (lv' := [(4, .int (-1)), (0, .ref a_k), (1, .int p_c), (2, .int p_h), (3, .int p_b)]) hx hb dX5_lateness_1 hl (by decide +kernel) rfl ?_
  clear hl
  intro ls hl
  refine lv_iconst (v := 0) hx hb dX5_lateness_3 (by decide +kernel) ?_
  refine lv_istore (lv' := [(5, .int 0), (4, .int (-1)), (0, .ref a_k), (1, .int p_c), (2, .int p_h), (3, .int p_b)]) hx hb dX5_lateness_4 hl (by decide +kernel) rfl ?_
  clear hl
  intro ls hl
  refine g5_loop (α := (Int32) × (Int32) × (Int32) × (Int32) × (Int32) × (Int32) × (Int32) × (Int32) × (Int32) × (Int32) × (Int32) × (Nat → Int32) × (Nat → Int32) × (Nat → Int64) × (Int32)) (fun (q : (Int32) × (Int32) × (Int32) × (Int32) × (Int32) × (Int32) × (Int32) × (Int32) × (Int32) × (Int32) × (Int32) × (Nat → Int32) × (Nat → Int32) × (Nat → Int64) × (Int32)) (ls : Array Slot) (H : Heap) (locs : List Loc) => match q with | (k_d, k_l, k_se, k_lh, k_br, k_we, k_me, k_ce, k_wy, k_ho, k_ov, k_pt, k_as, k_sk, k_ln) => lv_has ls 7 [(4, .int k_l), (5, .int k_d), (0, .ref a_k), (1, .int p_c), (2, .int p_h), (3, .int p_b)] ∧ va_P G.1 vwCl [(a_k, (oc5 a_h a_j a_pt k_ln k_se k_lh k_br k_we k_me k_ce k_wy k_ho k_ov)), (a_h, (oc1 e_wa e_le e_st e_fo e_lc a_l a_g a_b a_s a_p a_w e_gb a_bb)), (a_g, (oc6 6 5 a_gn e_g)), (a_gn, (arI G 30 f_g)), (a_b, (oc6 5 24 a_bn e_b)), (a_bn, (arI G 120 f_b)), (a_p, (oc6 8 5 a_pn e_p)), (a_pn, (arI G 40 f_p)), (a_bb, (arJ G 24 f_bb)), (a_j, (oc2 a_as a_sk)), (a_as, (arI G 8 k_as)), (a_sk, (arJ G 50 k_sk)), (a_l, (arW G 6 f_l)), (a_lo, (oc3 e_cl a_hd a_sr a_cd)), (a_sr, (arI G n_sr f_sr)), (a_cd, (arI G n_cd f_cd)), (a_hd, (arI G n_hd f_hd)), (a_pt, (arI G 200 k_pt))] H ∧ va_D A [(a_k, (oc5 a_h a_j a_pt k_ln k_se k_lh k_br k_we k_me k_ce k_wy k_ho k_ov)), (a_h, (oc1 e_wa e_le e_st e_fo e_lc a_l a_g a_b a_s a_p a_w e_gb a_bb)), (a_g, (oc6 6 5 a_gn e_g)), (a_gn, (arI G 30 f_g)), (a_b, (oc6 5 24 a_bn e_b)), (a_bn, (arI G 120 f_b)), (a_p, (oc6 8 5 a_pn e_p)), (a_pn, (arI G 40 f_p)), (a_bb, (arJ G 24 f_bb)), (a_j, (oc2 a_as a_sk)), (a_as, (arI G 8 k_as)), (a_sk, (arJ G 50 k_sk)), (a_l, (arW G 6 f_l)), (a_lo, (oc3 e_cl a_hd a_sr a_cd)), (a_sr, (arI G n_sr f_sr)), (a_cd, (arI G n_cd f_cd)), (a_hd, (arI G n_hd f_hd)), (a_pt, (arI G 200 k_pt))] ∧ va_S A s.heap H locs ∧ (0 ≤ k_d.toInt ∧ k_d.toInt ≤ 4) ∧ (0 ≤ k_ov.toInt ∧ k_ov.toInt ≤ 1)) (fun (q : (Int32) × (Int32) × (Int32) × (Int32) × (Int32) × (Int32) × (Int32) × (Int32) × (Int32) × (Int32) × (Int32) × (Nat → Int32) × (Nat → Int32) × (Nat → Int64) × (Int32)) => match q with | (k_d, k_l, k_se, k_lh, k_br, k_we, k_me, k_ce, k_wy, k_ho, k_ov, k_pt, k_as, k_sk, k_ln) => Int.toNat (4 - k_d.toInt)) (0, (-1), e_se, e_lh, e_br, e_we, e_me, e_ce, e_wy, e_ho, e_ov, f_pt, f_as, f_sk, e_ln) ⟨lv_sub hl [1, 0, 2, 3, 4, 5] rfl, hP, hD, hS, ⟨by decide, by decide⟩, h_e_ov⟩ ?_
  rintro ⟨k_d, k_l, k_se, k_lh, k_br, k_we, k_me, k_ce, k_wy, k_ho, k_ov, k_pt, k_as, k_sk, k_ln⟩ ls H locs ⟨hl, hP, hD, hS, (i_1 : 0 ≤ k_d.toInt ∧ k_d.toInt ≤ 4), (i_2 : 0 ≤ k_ov.toInt ∧ k_ov.toInt ≤ 1)⟩ ih_6_3
  replace hl : lv_has ls 7 [(4, .int k_l), (5, .int k_d), (0, .ref a_k), (1, .int p_c), (2, .int p_h), (3, .int p_b)] := hl
  refine g5_rs [(a_k, (oc5 a_h a_j a_pt k_ln k_se k_lh k_br k_we k_me k_ce k_wy k_ho k_ov)), (a_h, (oc1 e_wa e_le e_st e_fo e_lc a_l a_g a_b a_s a_p a_w e_gb a_bb)), (a_g, (oc6 6 5 a_gn e_g)), (a_gn, (arI G 30 f_g)), (a_b, (oc6 5 24 a_bn e_b)), (a_bn, (arI G 120 f_b)), (a_p, (oc6 8 5 a_pn e_p)), (a_pn, (arI G 40 f_p)), (a_bb, (arJ G 24 f_bb)), (a_j, (oc2 a_as a_sk)), (a_as, (arI G 8 k_as)), (a_sk, (arJ G 50 k_sk)), (a_l, (arW G 6 f_l)), (a_lo, (oc3 e_cl a_hd a_sr a_cd)), (a_sr, (arI G n_sr f_sr)), (a_cd, (arI G n_cd f_cd)), (a_hd, (arI G n_hd f_hd)), (a_pt, (arI G 200 k_pt))] hP hD ?_
  clear hP hD
  intro hP hD
  refine lv_iload hx hb dX5_lateness_6 (lv_at hl 1 rfl) ?_
  refine lv_iconst (v := 4) hx hb dX5_lateness_8 (by decide +kernel) ?_
  refine lv_icmp_ge (tgt := 60) hx hb dX5_lateness_9 (by decide +kernel) (fun c_4 => ?_) (fun c_4 => ?_)
  ·
    have i_4 : k_d.toInt ≥ 4 := g5_ge (a := k_d.toInt) (b := 4) rfl (by decide +kernel) c_4
    refine lv_iload hx hb dX5_lateness_60 (lv_at hl 0 rfl) ?_
    exact W.iret (v := k_l) hx hb hr (fun t ht hW => ⟨⟨k_l, [(a_k, (oc5 a_h a_j a_pt k_ln k_se k_lh k_br k_we k_me k_ce k_wy k_ho k_ov)), (a_h, (oc1 e_wa e_le e_st e_fo e_lc a_l a_g a_b a_s a_p a_w e_gb a_bb)), (a_g, (oc6 6 5 a_gn e_g)), (a_gn, (arI G 30 f_g)), (a_b, (oc6 5 24 a_bn e_b)), (a_bn, (arI G 120 f_b)), (a_p, (oc6 8 5 a_pn e_p)), (a_pn, (arI G 40 f_p)), (a_bb, (arJ G 24 f_bb)), (a_j, (oc2 a_as a_sk)), (a_as, (arI G 8 k_as)), (a_sk, (arJ G 50 k_sk)), (a_l, (arW G 6 f_l)), (a_lo, (oc3 e_cl a_hd a_sr a_cd)), (a_sr, (arI G n_sr f_sr)), (a_cd, (arI G n_cd f_cd)), (a_hd, (arI G n_hd f_hd)), (a_pt, (arI G 200 k_pt))], rfl, ⟨k_l, k_ln, k_se, k_lh, k_br, k_we, k_me, k_ce, k_wy, k_ho, k_ov, k_pt, k_as, k_sk, i_2, rfl, rfl⟩, by rw [ht]; exact hP.sub [0, 1, 2, 3, 4, 5, 6, 7, 8, 9, 10, 11, 12, 13, 14, 15, 16, 17] rfl, hD.sub [0, 1, 2, 3, 4, 5, 6, 7, 8, 9, 10, 11, 12, 13, 14, 15, 16, 17] (by decide +kernel) rfl⟩, hS.F ht⟩) hS.2.2 dX5_lateness_62
  ·
    have i_4 : k_d.toInt < 4 := g5_geN (a := k_d.toInt) (b := 4) rfl (by decide +kernel) c_4
    refine lv_aload_n hx hb dX5_lateness_12 rfl (lv_at hl 2 rfl) ?_
    refine lv_iload_n hx hb dX5_lateness_13 rfl (lv_at hl 3 rfl) ?_
    refine lv_iload hx hb dX5_lateness_14 (lv_at hl 1 rfl) ?_
    refine lv_iload_n hx hb dX5_lateness_16 rfl (lv_at hl 4 rfl) ?_
    refine W.eq (g2 := F0 m 17 ls [.int p_h, .int k_d, .int p_c, .ref a_k]) rfl ?_
    refine lv_iconst (v := 0) hx hb dX5_lateness_17 (by decide +kernel) ?_
    obtain ⟨hPc, hDc, hFc⟩ := g5_sub3 (wc := [(a_k, (oc5 a_h a_j a_pt k_ln k_se k_lh k_br k_we k_me k_ce k_wy k_ho k_ov)), (a_h, (oc1 e_wa e_le e_st e_fo e_lc a_l a_g a_b a_s a_p a_w e_gb a_bb)), (a_g, (oc6 6 5 a_gn e_g)), (a_gn, (arI G 30 f_g)), (a_b, (oc6 5 24 a_bn e_b)), (a_bn, (arI G 120 f_b)), (a_p, (oc6 8 5 a_pn e_p)), (a_pn, (arI G 40 f_p)), (a_bb, (arJ G 24 f_bb)), (a_j, (oc2 a_as a_sk)), (a_as, (arI G 8 k_as)), (a_sk, (arJ G 50 k_sk)), (a_l, (arW G 6 f_l)), (a_lo, (oc3 e_cl a_hd a_sr a_cd)), (a_sr, (arI G n_sr f_sr)), (a_cd, (arI G n_cd f_cd)), (a_hd, (arI G n_hd f_hd)), (a_pt, (arI G 200 k_pt))]) hP hD hS hA [0, 1, 2, 3, 4, 5, 6, 7, 8, 9, 10, 11, 12, 13, 14, 15, 16, 17] (by decide +kernel) rfl
    refine va_callv (va_runV (As := [.int p_c, .int k_d, .int p_h, .int 0]) (rest := []) ⟨hx, hb, hml, hown, hts⟩ (k_runL l G a_k a_h a_g a_gn a_b a_bn a_p a_pn a_bb a_j a_as a_sk a_l a_lo a_sr a_cd a_hd a_pt a_s a_w H.size e_le e_st e_fo e_lc e_g e_b e_p e_cl k_ln k_se k_lh k_br k_we k_me k_ce k_wy k_ho k_ov p_c k_d p_h 0 e_wa e_gb f_g f_b f_p f_bb k_as k_sk f_l f_sr f_cd f_hd k_pt n_sr n_cd n_hd h_e_g h_e_b h_e_p h_e_cl i_2 (e_gk) (e_pk) (e_gi) (e_f) (e_a) (e_hn) (e_hs) (e_hk) (e_c)) (cwV 4 hts gV_X5_91 rfl rfl rfl hv_X5_run ⟨Nat.le_of_ble_eq_true rfl, Nat.le_of_ble_eq_true rfl⟩) (g5_preV hPc hK hDc hN hT hS hFc (ci := 5) (q0 := 0) rfl rfl) rfl rfl hl.1 rfl (lv_room (Nat.le_of_ble_eq_true rfl)) dX5_lateness_18 ⟨Nat.le_of_ble_eq_true rfl, Nat.le_of_ble_eq_true rfl⟩) hS (fun q _ h => hFc q h) hFc (fun u t H locs ht hvm hw hB hz1 hk1 hS => ?_)
    obtain ⟨hP1, hD1⟩ := hB
    have hP1 := g5_ht ht hP1
    obtain ⟨z8, z9, z10, z11, z12, z13, z14, z15, z16, z17, z18, z19, z20, (i_5 : 0 ≤ z8.toInt ∧ z8.toInt ≤ 200), (i_6 : 0 ≤ z17.toInt ∧ z17.toInt ≤ 1), (i_7 : ∀ j : Nat, (j : Int) < z8.toInt → 0 ≤ (z18 j).toInt ∧ (z18 j).toInt ≤ 1535), rfl⟩ := hw
    have hJ9 := va_join (wr := []) hP hD [0, 1, 2, 3, 4, 5, 6, 7, 8, 9, 10, 11, 12, 13, 14, 15, 16, 17] [] rfl rfl (by decide +kernel) (by decide +kernel) hk1 hFc hP1 hD1
    clear hP hD hPc hDc hFc ht hvm hz1 hk1 hP1 hD1
    obtain ⟨hP, hD⟩ := hJ9
    refine g5_rs [(a_k, (oc5 a_h a_j a_pt z8 z9 z10 z11 z12 z13 z14 z15 z16 z17)), (a_h, (oc1 e_wa e_le e_st e_fo e_lc a_l a_g a_b a_s a_p a_w e_gb a_bb)), (a_g, (oc6 6 5 a_gn e_g)), (a_gn, (arI G 30 f_g)), (a_b, (oc6 5 24 a_bn e_b)), (a_bn, (arI G 120 f_b)), (a_p, (oc6 8 5 a_pn e_p)), (a_pn, (arI G 40 f_p)), (a_bb, (arJ G 24 f_bb)), (a_j, (oc2 a_as a_sk)), (a_as, (arI G 8 z19)), (a_sk, (arJ G 50 z20)), (a_l, (arW G 6 f_l)), (a_lo, (oc3 e_cl a_hd a_sr a_cd)), (a_sr, (arI G n_sr f_sr)), (a_cd, (arI G n_cd f_cd)), (a_hd, (arI G n_hd f_hd)), (a_pt, (arI G 200 z18))] hP hD ?_
    clear hP hD
    intro hP hD
    refine lv_iload_n hx hb dX5_lateness_21 rfl (lv_at hl 4 rfl) ?_
    refine lv_aload_n hx hb dX5_lateness_22 rfl (lv_at hl 2 rfl) ?_
    refine va_get (D := G.1) (ci := 5) (v := .int z10) (C := RX5) (T := TX5) (N := 13) hx hb hts inG_X5 hown hK hP 0 rfl rfl 5 (by decide +kernel) (hts _ fl_X5_42) (fun _ h9 => h9) rfl dX5_lateness_23 ?_
    refine W.eq (g2 := F0 m 26 ls [.int z10, .int p_h]) rfl ?_
    refine lv_isub hx hb dX5_lateness_26 ?_
    refine lv_istore (lv' := [(6, .int (p_h - z10)), (4, .int k_l), (5, .int k_d), (0, .ref a_k), (1, .int p_c), (2, .int p_h), (3, .int p_b)]) hx hb dX5_lateness_27 hl (by decide +kernel) rfl ?_
    clear hl
    intro ls hl
    refine lv_aload_n hx hb dX5_lateness_29 rfl (lv_at hl 3 rfl) ?_
    refine va_get (D := G.1) (ci := 5) (v := .int z9) (C := RX5) (T := TX5) (N := 13) hx hb hts inG_X5 hown hK hP 0 rfl rfl 4 (by decide +kernel) (hts _ fl_X5_39) (fun _ h9 => h9) rfl dX5_lateness_30 ?_
    refine lv_iload_n hx hb dX5_lateness_33 rfl (lv_at hl 6 rfl) ?_
    refine W.eq (g2 := F0 m 34 ls [.int p_b, .int z9]) rfl ?_
    refine lv_icmp_ne (tgt := 54) hx hb dX5_lateness_34 (by decide +kernel) (fun c_21 => ?_) (fun c_21 => ?_)
    ·
      have n_21 : gNe (z9.toInt) (p_b.toInt) := g5_ne (a := z9.toInt) (b := p_b.toInt) rfl rfl c_21
      refine lv_iinc (v := (k_d + 1)) (lv' := [(5, .int (k_d + 1)), (6, .int (p_h - z10)), (4, .int k_l), (0, .ref a_k), (1, .int p_c), (2, .int p_h), (3, .int p_b)]) hx hb dX5_lateness_54 hl (k := 2) rfl rfl (by decide +kernel) rfl ?_
      clear hl
      intro ls hl
      have t_22 : (k_d + 1).toInt = k_d.toInt + 1 := g5_iadd (a := k_d.toInt) (b := 1) rfl (by decide +kernel) (by omega) (by omega)
      refine lv_goto (tgt := 6) hx hb dX5_lateness_57 (by decide +kernel) ?_
      exact ih_6_3 ((k_d + 1), k_l, z9, z10, z11, z12, z13, z14, z15, z16, z17, z18, z19, z20, z8) ls H locs (show Int.toNat (4 - (k_d + 1).toInt) < Int.toNat (4 - k_d.toInt) from g_up (show k_d.toInt < (k_d + 1).toInt by omega) (show k_d.toInt < 4 by omega)) ⟨lv_sub hl [2, 0, 3, 4, 5, 6] rfl, hP, hD, hS, ⟨by omega, by omega⟩, i_6⟩
    ·
      have i_21 : z9.toInt = p_b.toInt := g5_neN (a := z9.toInt) (b := p_b.toInt) rfl rfl c_21
      refine lv_iload hx hb dX5_lateness_37 (lv_at hl 1 rfl) ?_
      refine lv_iconst (v := (-1)) hx hb dX5_lateness_39 (by decide +kernel) ?_
      refine lv_icmp_eq (tgt := 50) hx hb dX5_lateness_40 (by decide +kernel) (fun c_23 => ?_) (fun c_23 => ?_)
      ·
        have i_23 : k_l.toInt = (-1) := g5_eq (a := k_l.toInt) (b := (-1)) rfl (by decide +kernel) c_23
        refine lv_iload hx hb dX5_lateness_50 (lv_at hl 0 rfl) ?_
        refine lv_istore (lv' := [(4, .int (p_h - z10)), (6, .int (p_h - z10)), (5, .int k_d), (0, .ref a_k), (1, .int p_c), (2, .int p_h), (3, .int p_b)]) hx hb dX5_lateness_52 hl (by decide +kernel) rfl ?_
        clear hl
        intro ls hl
        refine lv_iinc (v := (k_d + 1)) (lv' := [(5, .int (k_d + 1)), (4, .int (p_h - z10)), (6, .int (p_h - z10)), (0, .ref a_k), (1, .int p_c), (2, .int p_h), (3, .int p_b)]) hx hb dX5_lateness_54 hl (k := 2) rfl rfl (by decide +kernel) rfl ?_
        clear hl
        intro ls hl
        have t_24 : (k_d + 1).toInt = k_d.toInt + 1 := g5_iadd (a := k_d.toInt) (b := 1) rfl (by decide +kernel) (by omega) (by omega)
        refine lv_goto (tgt := 6) hx hb dX5_lateness_57 (by decide +kernel) ?_
        exact ih_6_3 ((k_d + 1), (p_h - z10), z9, z10, z11, z12, z13, z14, z15, z16, z17, z18, z19, z20, z8) ls H locs (show Int.toNat (4 - (k_d + 1).toInt) < Int.toNat (4 - k_d.toInt) from g_up (show k_d.toInt < (k_d + 1).toInt by omega) (show k_d.toInt < 4 by omega)) ⟨lv_sub hl [1, 0, 3, 4, 5, 6] rfl, hP, hD, hS, ⟨by omega, by omega⟩, i_6⟩
      ·
        have n_23 : gNe (k_l.toInt) ((-1)) := g5_eqN (a := k_l.toInt) (b := (-1)) rfl (by decide +kernel) c_23
        refine lv_iload hx hb dX5_lateness_43 (lv_at hl 0 rfl) ?_
        refine lv_iload hx hb dX5_lateness_45 (lv_at hl 1 rfl) ?_
        refine lv_icmp_ge (tgt := 54) hx hb dX5_lateness_47 (by decide +kernel) (fun c_25 => ?_) (fun c_25 => ?_)
        ·
          have i_25 : (p_h - z10).toInt ≥ k_l.toInt := g5_ge (a := (p_h - z10).toInt) (b := k_l.toInt) rfl rfl c_25
          refine lv_iinc (v := (k_d + 1)) (lv' := [(5, .int (k_d + 1)), (6, .int (p_h - z10)), (4, .int k_l), (0, .ref a_k), (1, .int p_c), (2, .int p_h), (3, .int p_b)]) hx hb dX5_lateness_54 hl (k := 2) rfl rfl (by decide +kernel) rfl ?_
          clear hl
          intro ls hl
          have t_26 : (k_d + 1).toInt = k_d.toInt + 1 := g5_iadd (a := k_d.toInt) (b := 1) rfl (by decide +kernel) (by omega) (by omega)
          refine lv_goto (tgt := 6) hx hb dX5_lateness_57 (by decide +kernel) ?_
          exact ih_6_3 ((k_d + 1), k_l, z9, z10, z11, z12, z13, z14, z15, z16, z17, z18, z19, z20, z8) ls H locs (show Int.toNat (4 - (k_d + 1).toInt) < Int.toNat (4 - k_d.toInt) from g_up (show k_d.toInt < (k_d + 1).toInt by omega) (show k_d.toInt < 4 by omega)) ⟨lv_sub hl [2, 0, 3, 4, 5, 6] rfl, hP, hD, hS, ⟨by omega, by omega⟩, i_6⟩
        ·
          have i_25 : (p_h - z10).toInt < k_l.toInt := g5_geN (a := (p_h - z10).toInt) (b := k_l.toInt) rfl rfl c_25
          refine lv_iload hx hb dX5_lateness_50 (lv_at hl 0 rfl) ?_
          refine lv_istore (lv' := [(4, .int (p_h - z10)), (6, .int (p_h - z10)), (5, .int k_d), (0, .ref a_k), (1, .int p_c), (2, .int p_h), (3, .int p_b)]) hx hb dX5_lateness_52 hl (by decide +kernel) rfl ?_
          clear hl
          intro ls hl
          refine lv_iinc (v := (k_d + 1)) (lv' := [(5, .int (k_d + 1)), (4, .int (p_h - z10)), (6, .int (p_h - z10)), (0, .ref a_k), (1, .int p_c), (2, .int p_h), (3, .int p_b)]) hx hb dX5_lateness_54 hl (k := 2) rfl rfl (by decide +kernel) rfl ?_
          clear hl
          intro ls hl
          have t_27 : (k_d + 1).toInt = k_d.toInt + 1 := g5_iadd (a := k_d.toInt) (b := 1) rfl (by decide +kernel) (by omega) (by omega)
          refine lv_goto (tgt := 6) hx hb dX5_lateness_57 (by decide +kernel) ?_
          exact ih_6_3 ((k_d + 1), (p_h - z10), z9, z10, z11, z12, z13, z14, z15, z16, z17, z18, z19, z20, z8) ls H locs (show Int.toNat (4 - (k_d + 1).toInt) < Int.toNat (4 - k_d.toInt) from g_up (show k_d.toInt < (k_d + 1).toInt by omega) (show k_d.toInt < 4 by omega)) ⟨lv_sub hl [1, 0, 3, 4, 5, 6] rfl, hP, hD, hS, ⟨by omega, by omega⟩, i_6⟩
theorem dgX5_hasPoint_0 : ∀ r ∈ ([(0, (.iconst 0, 1)), (1, (.istore_n 2, 1)), (2, (.iload_n 2, 1)), (3, (.aload_n 0, 1)), (4, (.getfield 36, 3)), (7, (.if_icmp .ge 21, 3)), (10, (.aload_n 0, 1)), (11, (.getfield 18, 3)), (14, (.iload_n 2, 1)), (15, (.iaload, 1)), (16, (.iload_n 1, 1)), (17, (.if_icmp .ne 5, 3)), (20, (.iconst 1, 1)), (21, (.ireturn, 1)), (22, (.iinc 2 1, 3)), (25, (.goto (-23), 3)), (28, (.iconst 0, 1)), (29, (.ireturn, 1))] : List (Nat × (Instr × Nat))), decode cX5_hasPoint r.1 = .ok r.2 := by decide +kernel
theorem dX5_hasPoint_0 : decode cX5_hasPoint 0 = .ok (.iconst 0, 1) := dgX5_hasPoint_0 (0, (.iconst 0, 1)) (List.mem_of_getElem? (i := 0) rfl)
theorem dX5_hasPoint_1 : decode cX5_hasPoint 1 = .ok (.istore_n 2, 1) := dgX5_hasPoint_0 (1, (.istore_n 2, 1)) (List.mem_of_getElem? (i := 1) rfl)
theorem dX5_hasPoint_2 : decode cX5_hasPoint 2 = .ok (.iload_n 2, 1) := dgX5_hasPoint_0 (2, (.iload_n 2, 1)) (List.mem_of_getElem? (i := 2) rfl)
theorem dX5_hasPoint_3 : decode cX5_hasPoint 3 = .ok (.aload_n 0, 1) := dgX5_hasPoint_0 (3, (.aload_n 0, 1)) (List.mem_of_getElem? (i := 3) rfl)
theorem dX5_hasPoint_4 : decode cX5_hasPoint 4 = .ok (.getfield 36, 3) := dgX5_hasPoint_0 (4, (.getfield 36, 3)) (List.mem_of_getElem? (i := 4) rfl)
theorem dX5_hasPoint_7 : decode cX5_hasPoint 7 = .ok (.if_icmp .ge 21, 3) := dgX5_hasPoint_0 (7, (.if_icmp .ge 21, 3)) (List.mem_of_getElem? (i := 5) rfl)
theorem dX5_hasPoint_10 : decode cX5_hasPoint 10 = .ok (.aload_n 0, 1) := dgX5_hasPoint_0 (10, (.aload_n 0, 1)) (List.mem_of_getElem? (i := 6) rfl)
theorem dX5_hasPoint_11 : decode cX5_hasPoint 11 = .ok (.getfield 18, 3) := dgX5_hasPoint_0 (11, (.getfield 18, 3)) (List.mem_of_getElem? (i := 7) rfl)
theorem dX5_hasPoint_14 : decode cX5_hasPoint 14 = .ok (.iload_n 2, 1) := dgX5_hasPoint_0 (14, (.iload_n 2, 1)) (List.mem_of_getElem? (i := 8) rfl)
theorem dX5_hasPoint_15 : decode cX5_hasPoint 15 = .ok (.iaload, 1) := dgX5_hasPoint_0 (15, (.iaload, 1)) (List.mem_of_getElem? (i := 9) rfl)
theorem dX5_hasPoint_16 : decode cX5_hasPoint 16 = .ok (.iload_n 1, 1) := dgX5_hasPoint_0 (16, (.iload_n 1, 1)) (List.mem_of_getElem? (i := 10) rfl)
theorem dX5_hasPoint_17 : decode cX5_hasPoint 17 = .ok (.if_icmp .ne 5, 3) := dgX5_hasPoint_0 (17, (.if_icmp .ne 5, 3)) (List.mem_of_getElem? (i := 11) rfl)
theorem dX5_hasPoint_20 : decode cX5_hasPoint 20 = .ok (.iconst 1, 1) := dgX5_hasPoint_0 (20, (.iconst 1, 1)) (List.mem_of_getElem? (i := 12) rfl)
theorem dX5_hasPoint_21 : decode cX5_hasPoint 21 = .ok (.ireturn, 1) := dgX5_hasPoint_0 (21, (.ireturn, 1)) (List.mem_of_getElem? (i := 13) rfl)
theorem dX5_hasPoint_22 : decode cX5_hasPoint 22 = .ok (.iinc 2 1, 3) := dgX5_hasPoint_0 (22, (.iinc 2 1, 3)) (List.mem_of_getElem? (i := 14) rfl)
theorem dX5_hasPoint_25 : decode cX5_hasPoint 25 = .ok (.goto (-23), 3) := dgX5_hasPoint_0 (25, (.goto (-23), 3)) (List.mem_of_getElem? (i := 15) rfl)
theorem dX5_hasPoint_28 : decode cX5_hasPoint 28 = .ok (.iconst 0, 1) := dgX5_hasPoint_0 (28, (.iconst 0, 1)) (List.mem_of_getElem? (i := 16) rfl)
theorem dX5_hasPoint_29 : decode cX5_hasPoint 29 = .ok (.ireturn, 1) := dgX5_hasPoint_0 (29, (.ireturn, 1)) (List.mem_of_getElem? (i := 17) rfl)
set_option maxHeartbeats 4000000 in
set_option maxRecDepth 100000 in
theorem s_hasPoint (l : Launch) (G : g5_G) (a_k a_pt a_h a_j : Nat) (sz : Nat) (e_ln : Int32) (e_se : Int32) (e_lh : Int32) (e_br : Int32) (e_we : Int32) (e_me : Int32) (e_ce : Int32) (e_wy : Int32) (e_ho : Int32) (e_ov : Int32) (p_p : Int32) (f_pt : Nat → Int32) (h_e_ln : 0 ≤ e_ln.toInt ∧ e_ln.toInt ≤ 200) (h_e_ov : 0 ≤ e_ov.toInt ∧ e_ov.toInt ≤ 1) : Met l yX5_hasPoint (wsG yX5_hasPoint cX5_hasPoint 3 (some .boolean)) ({ frames := 0, cells := 0, slots := 0, locals := 0 }) (va_Pc [.ref a_k, .int p_p] (g5_P G [(a_k, (oc5 a_h a_j a_pt e_ln e_se e_lh e_br e_we e_me e_ce e_wy e_ho e_ov)), (a_pt, (arI G 200 f_pt))] sz)) (va_Qi (fun (r : Int32) (u : va_W) => (∃ (o_r : Int32), (0 ≤ o_r.toInt ∧ o_r.toInt ≤ 1) ∧ (r = o_r) ∧ (u = [(a_k, (oc5 a_h a_j a_pt e_ln e_se e_lh e_br e_we e_me e_ce e_wy e_ho e_ov)), (a_pt, (arI G 200 f_pt))]))) (g5_B G (va_A [(a_k, (oc5 a_h a_j a_pt e_ln e_se e_lh e_br e_we e_me e_ce e_wy e_ho e_ov)), (a_pt, (arI G 200 f_pt))] sz)) (va_A [(a_k, (oc5 a_h a_j a_pt e_ln e_se e_lh e_br e_we e_me e_ce e_wy e_ho e_ov)), (a_pt, (arI G 200 f_pt))] sz)) 0 0 (va_A [(a_k, (oc5 a_h a_j a_pt e_ln e_se e_lh e_br e_we e_me e_ce e_wy e_ho e_ov)), (a_pt, (arI G 200 f_pt))] sz) := by
  refine Met.ofW (cc := cX5_hasPoint) (maxL := 3) (ret := (some .boolean)) (by decide +kernel) rfl ?_
  intro p e s m args below meth c s₁ B hml hv
  obtain ⟨rfl, hsz, hP, hK, hD0, hN, hT⟩ := hv
  have hx := B.exec
  have hb := B.bytes
  have hr := B.returns
  have hts : ∀ w ∈ tblG, w.before _ s = true := fun w h => atoms_spec (ws := (wsG yX5_hasPoint cX5_hasPoint 3 (some .boolean))) B.pre w (List.mem_cons_of_mem _ h)
  have hown : s.vm.findClass RX5 = some m.cls := findClass_of_methodNamed B.named
  have hlocks := B.notSynchronized
  subst hsz
  have hD := hD0.self (sz := s.heap.size)
  generalize hAe : va_A [(a_k, (oc5 a_h a_j a_pt e_ln e_se e_lh e_br e_we e_me e_ce e_wy e_ho e_ov)), (a_pt, (arI G 200 f_pt))] s.heap.size = A at hD hT ⊢
  have hA : ∀ q : Nat, s.heap.size ≤ q → A q := fun q h => by rw [← hAe]; exact Or.inr h
  have hS : va_S A s.heap s.heap [] := va_S.rf
  replace hP : va_P G.1 vwCl [(a_k, (oc5 a_h a_j a_pt e_ln e_se e_lh e_br e_we e_me e_ce e_wy e_ho e_ov)), (a_pt, (arI G 200 f_pt))] s.heap := hP
  have hl := lv_entry ([.ref a_k, .int p_p]) (n := 3) (Nat.le_of_ble_eq_true rfl)
  rw [lg_entry_eq]
  generalize (lg_sl ([.ref a_k, .int p_p]) ++ List.replicate (3 - (lg_sl ([.ref a_k, .int p_p])).length) Slot.unset).toArray = ls at hl ⊢
  replace hl : lv_has ls 3 [(0, .ref a_k), (1, .int p_p)] := hl
  refine lv_iconst (v := 0) hx hb dX5_hasPoint_0 (by decide +kernel) ?_
  refine lv_istore_n (lv' := [(2, .int 0), (0, .ref a_k), (1, .int p_p)]) hx hb dX5_hasPoint_1 rfl hl (by decide +kernel) rfl ?_
  clear hl
  intro ls hl
  refine g5_loop (α := (Int32)) (fun (k_i : (Int32)) (ls : Array Slot) (H : Heap) (locs : List Loc) => lv_has ls 3 [(2, .int k_i), (0, .ref a_k), (1, .int p_p)] ∧ va_P G.1 vwCl [(a_k, (oc5 a_h a_j a_pt e_ln e_se e_lh e_br e_we e_me e_ce e_wy e_ho e_ov)), (a_pt, (arI G 200 f_pt))] H ∧ va_D A [(a_k, (oc5 a_h a_j a_pt e_ln e_se e_lh e_br e_we e_me e_ce e_wy e_ho e_ov)), (a_pt, (arI G 200 f_pt))] ∧ va_S A s.heap H locs ∧ (0 ≤ k_i.toInt ∧ k_i.toInt ≤ 200)) (fun (k_i : (Int32)) => Int.toNat (200 - k_i.toInt)) 0 ⟨lv_sub hl [0, 1, 2] rfl, hP, hD, hS, ⟨by decide, by decide⟩⟩ ?_
  rintro k_i ls H locs ⟨hl, hP, hD, hS, (i_1 : 0 ≤ k_i.toInt ∧ k_i.toInt ≤ 200)⟩ ih_2_2
  replace hl : lv_has ls 3 [(2, .int k_i), (0, .ref a_k), (1, .int p_p)] := hl
  refine g5_rs [(a_k, (oc5 a_h a_j a_pt e_ln e_se e_lh e_br e_we e_me e_ce e_wy e_ho e_ov)), (a_pt, (arI G 200 f_pt))] hP hD ?_
  clear hP hD
  intro hP hD
  refine lv_iload_n hx hb dX5_hasPoint_2 rfl (lv_at hl 0 rfl) ?_
  refine lv_aload_n hx hb dX5_hasPoint_3 rfl (lv_at hl 1 rfl) ?_
  refine va_get (D := G.1) (ci := 5) (v := .int e_ln) (C := RX5) (T := TX5) (N := 13) hx hb hts inG_X5 hown hK hP 0 rfl rfl 3 (by decide +kernel) (hts _ fl_X5_36) (fun _ h9 => h9) rfl dX5_hasPoint_4 ?_
  refine lv_icmp_ge (tgt := 28) hx hb dX5_hasPoint_7 (by decide +kernel) (fun c_3 => ?_) (fun c_3 => ?_)
  ·
    have i_3 : k_i.toInt ≥ e_ln.toInt := g5_ge (a := k_i.toInt) (b := e_ln.toInt) rfl rfl c_3
    refine lv_iconst (v := 0) hx hb dX5_hasPoint_28 (by decide +kernel) ?_
    exact W.zret (v := 0) hx hb hr rfl (fun t ht hW => ⟨⟨0, [(a_k, (oc5 a_h a_j a_pt e_ln e_se e_lh e_br e_we e_me e_ce e_wy e_ho e_ov)), (a_pt, (arI G 200 f_pt))], rfl, ⟨0, ⟨by have zc_o_r : (0 : Int32).toInt = 0 := (by decide +kernel); omega, by have zc_o_r : (0 : Int32).toInt = 0 := (by decide +kernel); omega⟩, rfl, rfl⟩, by rw [ht]; exact hP.sub [0, 1] rfl, hD.sub [0, 1] (by decide +kernel) rfl⟩, hS.F ht⟩) hS.2.2 dX5_hasPoint_29
  ·
    have i_3 : k_i.toInt < e_ln.toInt := g5_geN (a := k_i.toInt) (b := e_ln.toInt) rfl rfl c_3
    refine lv_aload_n hx hb dX5_hasPoint_10 rfl (lv_at hl 1 rfl) ?_
    refine va_get (D := G.1) (ci := 5) (v := .ref a_pt) (C := RX5) (T := TX5) (N := 13) hx hb hts inG_X5 hown hK hP 0 rfl rfl 2 (by decide +kernel) (hts _ fl_X5_18) (fun _ h9 => h9) rfl dX5_hasPoint_11 ?_
    refine lv_iload_n hx hb dX5_hasPoint_14 rfl (lv_at hl 0 rfl) ?_
    refine va_iald hx hb hK hP 1 0 rfl rfl (i := k_i) (vp_in_iff.mpr ⟨by omega, by omega⟩) dX5_hasPoint_15 ?_
    refine W.eq (g2 := F0 m 16 ls [.int (f_pt k_i.toNatClampNeg)]) rfl ?_
    refine lv_iload_n hx hb dX5_hasPoint_16 rfl (lv_at hl 2 rfl) ?_
    refine lv_icmp_ne (tgt := 22) hx hb dX5_hasPoint_17 (by decide +kernel) (fun c_4 => ?_) (fun c_4 => ?_)
    ·
      have n_4 : gNe ((f_pt k_i.toNatClampNeg).toInt) (p_p.toInt) := g5_ne (a := (f_pt k_i.toNatClampNeg).toInt) (b := p_p.toInt) rfl rfl c_4
      refine lv_iinc (v := (k_i + 1)) (lv' := [(2, .int (k_i + 1)), (0, .ref a_k), (1, .int p_p)]) hx hb dX5_hasPoint_22 hl (k := 0) rfl rfl (by decide +kernel) rfl ?_
      clear hl
      intro ls hl
      have t_5 : (k_i + 1).toInt = k_i.toInt + 1 := g5_iadd (a := k_i.toInt) (b := 1) rfl (by decide +kernel) (by omega) (by omega)
      refine lv_goto (tgt := 2) hx hb dX5_hasPoint_25 (by decide +kernel) ?_
      exact ih_2_2 (k_i + 1) ls H locs (show Int.toNat (200 - (k_i + 1).toInt) < Int.toNat (200 - k_i.toInt) from g_up (show k_i.toInt < (k_i + 1).toInt by omega) (show k_i.toInt < 200 by omega)) ⟨lv_sub hl [0, 1, 2] rfl, hP, hD, hS, ⟨by omega, by omega⟩⟩
    ·
      have i_4 : (f_pt k_i.toNatClampNeg).toInt = p_p.toInt := g5_neN (a := (f_pt k_i.toNatClampNeg).toInt) (b := p_p.toInt) rfl rfl c_4
      refine lv_iconst (v := 1) hx hb dX5_hasPoint_20 (by decide +kernel) ?_
      exact W.zret (v := 1) hx hb hr rfl (fun t ht hW => ⟨⟨1, [(a_k, (oc5 a_h a_j a_pt e_ln e_se e_lh e_br e_we e_me e_ce e_wy e_ho e_ov)), (a_pt, (arI G 200 f_pt))], rfl, ⟨1, ⟨by have zc_o_r : (1 : Int32).toInt = 1 := (by decide +kernel); omega, by have zc_o_r : (1 : Int32).toInt = 1 := (by decide +kernel); omega⟩, rfl, rfl⟩, by rw [ht]; exact hP.sub [0, 1] rfl, hD.sub [0, 1] (by decide +kernel) rfl⟩, hS.F ht⟩) hS.2.2 dX5_hasPoint_21
