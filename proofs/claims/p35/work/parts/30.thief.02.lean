set_option maxHeartbeats 4000000 in
set_option maxRecDepth 100000 in
theorem th_loadL (l : Launch) (G : g5_G) (a_k a_h a_g a_gn a_b a_bn a_p a_pn a_s a_sn a_bb a_j a_as a_sk a_l a_lo a_sr a_cd a_hd a_pt a_th a_ba a_ad a_w a_cn a_nx a_hp a_hl a_lv : Nat) (sz : Nat) (e_le : Int32) (e_st : Int32) (e_fo : Int32) (e_lc : Int32) (e_g : Int32) (e_b : Int32) (e_p : Int32) (e_s : Int32) (e_cl : Int32) (e_ln : Int32) (e_se : Int32) (e_lh : Int32) (e_br : Int32) (e_we : Int32) (e_me : Int32) (e_ce : Int32) (e_wy : Int32) (e_ho : Int32) (e_ov : Int32) (e_fu : Int32) (p_s : Int32) (e_wa : Int64) (e_gb : Int64) (f_g : Nat → Int32) (f_b : Nat → Int32) (f_p : Nat → Int32) (f_s : Nat → Int32) (f_bb : Nat → Int64) (f_as : Nat → Int32) (f_sk : Nat → Int64) (f_l : Nat → Option Nat) (f_sr : Nat → Int32) (f_cd : Nat → Int32) (f_hd : Nat → Int32) (f_pt : Nat → Int32) (f_ba : Nat → Int64) (f_ad : Nat → Int32) (n_sr : Nat) (n_cd : Nat) (n_hd : Nat) (h_e_g : 0 ≤ e_g.toInt ∧ e_g.toInt ≤ 6) (h_e_b : 0 ≤ e_b.toInt ∧ e_b.toInt ≤ 5) (h_e_p : 0 ≤ e_p.toInt ∧ e_p.toInt ≤ 8) (h_e_s : 0 ≤ e_s.toInt ∧ e_s.toInt ≤ 10) (h_e_cl : 0 ≤ e_cl.toInt ∧ e_cl.toInt ≤ 12) (h_e_ov : 0 ≤ e_ov.toInt ∧ e_ov.toInt ≤ 1) (e_gk : gOK f_g e_g.toInt) (e_pk : gOK f_p e_p.toInt) (e_gi : inT e_gb f_g e_g.toInt) (e_sh : ∀ r : Int, 0 ≤ r → r < e_s.toInt → 0 ≤ (tget f_s e_s.toInt 4 r (3 : Int32).toInt).toInt ∧ (tget f_s e_s.toInt 4 r (3 : Int32).toInt).toInt ≤ 1) (e_s5 : snS f_s e_s.toInt e_s.toInt.toNat ≤ 5) (e_f : 0 ≤ e_fo.toInt ∧ e_fo.toInt < e_lc.toInt ∧ e_lc.toInt ≤ 6) (e_a : f_l e_fo.toNatClampNeg = some a_lo) (e_hn : n_cd ≤ 400) (e_hs : ∀ j : Nat, j < n_sr → 0 ≤ (f_sr j).toInt ∧ (f_sr j).toInt ≤ (n_cd : Int)) (e_hk : ∀ j : Nat, j < n_cd → (f_cd j >>> (12 &&& 31)).toInt = 1 → (f_cd j &&& 4095).toInt < 8) (e_c : (e_cl.toInt : Int) ≤ (n_hd : Int) ∧ (e_cl.toInt + 1 : Int) ≤ (n_sr : Int)) : Met l yX7_load (wsG yX7_load cX7_load 5 none) ({ frames := 14, cells := 0, slots := 0, locals := 556 }) (va_Pc [.ref a_th, .int p_s] (g5_P G [(a_k, (oc5 a_h a_j a_pt e_ln e_se e_lh e_br e_we e_me e_ce e_wy e_ho e_ov)), (a_h, (oc1 e_wa e_le e_st e_fo e_lc a_l a_g a_b a_s a_p a_w e_gb a_bb)), (a_g, (oc6 6 5 a_gn e_g)), (a_gn, (arI G 30 f_g)), (a_b, (oc6 5 24 a_bn e_b)), (a_bn, (arI G 120 f_b)), (a_p, (oc6 8 5 a_pn e_p)), (a_pn, (arI G 40 f_p)), (a_s, (oc6 10 4 a_sn e_s)), (a_sn, (arI G 40 f_s)), (a_bb, (arJ G 24 f_bb)), (a_j, (oc2 a_as a_sk)), (a_as, (arI G 8 f_as)), (a_sk, (arJ G 50 f_sk)), (a_l, (arW G 6 f_l)), (a_lo, (oc3 e_cl a_hd a_sr a_cd)), (a_sr, (arI G n_sr f_sr)), (a_cd, (arI G n_cd f_cd)), (a_hd, (arI G n_hd f_hd)), (a_pt, (arI G 200 f_pt)), (a_th, (oc7 a_h a_k a_ba a_ad e_fu a_cn a_nx a_hp a_hl a_lv)), (a_ba, (arJ G 24 f_ba)), (a_ad, (arI G 1536 f_ad))] sz)) (va_Qv (fun (u : va_W) => (∃ (o_ln : Int32) (o_se : Int32) (o_lh : Int32) (o_br : Int32) (o_we : Int32) (o_me : Int32) (o_ce : Int32) (o_wy : Int32) (o_ho : Int32) (o_ov : Int32) (o_pt : Nat → Int32) (o_as : Nat → Int32) (o_sk : Nat → Int64) (o_fu : Int32) (o_ba : Nat → Int64) (o_ad : Nat → Int32), (0 ≤ o_ov.toInt ∧ o_ov.toInt ≤ 1) ∧ (TOK o_fu o_ad) ∧ (u = [(a_k, (oc5 a_h a_j a_pt o_ln o_se o_lh o_br o_we o_me o_ce o_wy o_ho o_ov)), (a_h, (oc1 e_wa e_le e_st e_fo e_lc a_l a_g a_b a_s a_p a_w e_gb a_bb)), (a_g, (oc6 6 5 a_gn e_g)), (a_gn, (arI G 30 f_g)), (a_b, (oc6 5 24 a_bn e_b)), (a_bn, (arI G 120 f_b)), (a_p, (oc6 8 5 a_pn e_p)), (a_pn, (arI G 40 f_p)), (a_s, (oc6 10 4 a_sn e_s)), (a_sn, (arI G 40 f_s)), (a_bb, (arJ G 24 f_bb)), (a_j, (oc2 a_as a_sk)), (a_as, (arI G 8 o_as)), (a_sk, (arJ G 50 o_sk)), (a_l, (arW G 6 f_l)), (a_lo, (oc3 e_cl a_hd a_sr a_cd)), (a_sr, (arI G n_sr f_sr)), (a_cd, (arI G n_cd f_cd)), (a_hd, (arI G n_hd f_hd)), (a_pt, (arI G 200 o_pt)), (a_th, (oc7 a_h a_k a_ba a_ad o_fu a_cn a_nx a_hp a_hl a_lv)), (a_ba, (arJ G 24 o_ba)), (a_ad, (arI G 1536 o_ad))]))) (g5_B G (va_A [(a_k, (oc5 a_h a_j a_pt e_ln e_se e_lh e_br e_we e_me e_ce e_wy e_ho e_ov)), (a_h, (oc1 e_wa e_le e_st e_fo e_lc a_l a_g a_b a_s a_p a_w e_gb a_bb)), (a_g, (oc6 6 5 a_gn e_g)), (a_gn, (arI G 30 f_g)), (a_b, (oc6 5 24 a_bn e_b)), (a_bn, (arI G 120 f_b)), (a_p, (oc6 8 5 a_pn e_p)), (a_pn, (arI G 40 f_p)), (a_s, (oc6 10 4 a_sn e_s)), (a_sn, (arI G 40 f_s)), (a_bb, (arJ G 24 f_bb)), (a_j, (oc2 a_as a_sk)), (a_as, (arI G 8 f_as)), (a_sk, (arJ G 50 f_sk)), (a_l, (arW G 6 f_l)), (a_lo, (oc3 e_cl a_hd a_sr a_cd)), (a_sr, (arI G n_sr f_sr)), (a_cd, (arI G n_cd f_cd)), (a_hd, (arI G n_hd f_hd)), (a_pt, (arI G 200 f_pt)), (a_th, (oc7 a_h a_k a_ba a_ad e_fu a_cn a_nx a_hp a_hl a_lv)), (a_ba, (arJ G 24 f_ba)), (a_ad, (arI G 1536 f_ad))] sz)) (va_A [(a_k, (oc5 a_h a_j a_pt e_ln e_se e_lh e_br e_we e_me e_ce e_wy e_ho e_ov)), (a_h, (oc1 e_wa e_le e_st e_fo e_lc a_l a_g a_b a_s a_p a_w e_gb a_bb)), (a_g, (oc6 6 5 a_gn e_g)), (a_gn, (arI G 30 f_g)), (a_b, (oc6 5 24 a_bn e_b)), (a_bn, (arI G 120 f_b)), (a_p, (oc6 8 5 a_pn e_p)), (a_pn, (arI G 40 f_p)), (a_s, (oc6 10 4 a_sn e_s)), (a_sn, (arI G 40 f_s)), (a_bb, (arJ G 24 f_bb)), (a_j, (oc2 a_as a_sk)), (a_as, (arI G 8 f_as)), (a_sk, (arJ G 50 f_sk)), (a_l, (arW G 6 f_l)), (a_lo, (oc3 e_cl a_hd a_sr a_cd)), (a_sr, (arI G n_sr f_sr)), (a_cd, (arI G n_cd f_cd)), (a_hd, (arI G n_hd f_hd)), (a_pt, (arI G 200 f_pt)), (a_th, (oc7 a_h a_k a_ba a_ad e_fu a_cn a_nx a_hp a_hl a_lv)), (a_ba, (arJ G 24 f_ba)), (a_ad, (arI G 1536 f_ad))] sz)) 0 0 (va_A [(a_k, (oc5 a_h a_j a_pt e_ln e_se e_lh e_br e_we e_me e_ce e_wy e_ho e_ov)), (a_h, (oc1 e_wa e_le e_st e_fo e_lc a_l a_g a_b a_s a_p a_w e_gb a_bb)), (a_g, (oc6 6 5 a_gn e_g)), (a_gn, (arI G 30 f_g)), (a_b, (oc6 5 24 a_bn e_b)), (a_bn, (arI G 120 f_b)), (a_p, (oc6 8 5 a_pn e_p)), (a_pn, (arI G 40 f_p)), (a_s, (oc6 10 4 a_sn e_s)), (a_sn, (arI G 40 f_s)), (a_bb, (arJ G 24 f_bb)), (a_j, (oc2 a_as a_sk)), (a_as, (arI G 8 f_as)), (a_sk, (arJ G 50 f_sk)), (a_l, (arW G 6 f_l)), (a_lo, (oc3 e_cl a_hd a_sr a_cd)), (a_sr, (arI G n_sr f_sr)), (a_cd, (arI G n_cd f_cd)), (a_hd, (arI G n_hd f_hd)), (a_pt, (arI G 200 f_pt)), (a_th, (oc7 a_h a_k a_ba a_ad e_fu a_cn a_nx a_hp a_hl a_lv)), (a_ba, (arJ G 24 f_ba)), (a_ad, (arI G 1536 f_ad))] sz) := by
  refine Met.ofW (cc := cX7_load) (maxL := 5) (ret := none) (by decide +kernel) rfl ?_
  intro p e s m args below meth c s₁ B hml hv
  obtain ⟨rfl, hsz, hP, hK, hD0, hN, hT⟩ := hv
  have hx := B.exec
  have hb := B.bytes
  have hr := B.returns
  have hts : ∀ w ∈ tblG, w.before _ s = true := fun w h => atoms_spec (ws := (wsG yX7_load cX7_load 5 none)) B.pre w (List.mem_cons_of_mem _ h)
  have hown : s.vm.findClass RX7 = some m.cls := findClass_of_methodNamed B.named
  have hlocks := B.notSynchronized
  subst hsz
  have hD := hD0.self (sz := s.heap.size)
  generalize hAe : va_A [(a_k, (oc5 a_h a_j a_pt e_ln e_se e_lh e_br e_we e_me e_ce e_wy e_ho e_ov)), (a_h, (oc1 e_wa e_le e_st e_fo e_lc a_l a_g a_b a_s a_p a_w e_gb a_bb)), (a_g, (oc6 6 5 a_gn e_g)), (a_gn, (arI G 30 f_g)), (a_b, (oc6 5 24 a_bn e_b)), (a_bn, (arI G 120 f_b)), (a_p, (oc6 8 5 a_pn e_p)), (a_pn, (arI G 40 f_p)), (a_s, (oc6 10 4 a_sn e_s)), (a_sn, (arI G 40 f_s)), (a_bb, (arJ G 24 f_bb)), (a_j, (oc2 a_as a_sk)), (a_as, (arI G 8 f_as)), (a_sk, (arJ G 50 f_sk)), (a_l, (arW G 6 f_l)), (a_lo, (oc3 e_cl a_hd a_sr a_cd)), (a_sr, (arI G n_sr f_sr)), (a_cd, (arI G n_cd f_cd)), (a_hd, (arI G n_hd f_hd)), (a_pt, (arI G 200 f_pt)), (a_th, (oc7 a_h a_k a_ba a_ad e_fu a_cn a_nx a_hp a_hl a_lv)), (a_ba, (arJ G 24 f_ba)), (a_ad, (arI G 1536 f_ad))] s.heap.size = A at hD hT ⊢
  have hA : ∀ q : Nat, s.heap.size ≤ q → A q := fun q h => by rw [← hAe]; exact Or.inr h
  have hS : va_S A s.heap s.heap [] := va_S.rf
  replace hP : va_P G.1 vwCl [(a_k, (oc5 a_h a_j a_pt e_ln e_se e_lh e_br e_we e_me e_ce e_wy e_ho e_ov)), (a_h, (oc1 e_wa e_le e_st e_fo e_lc a_l a_g a_b a_s a_p a_w e_gb a_bb)), (a_g, (oc6 6 5 a_gn e_g)), (a_gn, (arI G 30 f_g)), (a_b, (oc6 5 24 a_bn e_b)), (a_bn, (arI G 120 f_b)), (a_p, (oc6 8 5 a_pn e_p)), (a_pn, (arI G 40 f_p)), (a_s, (oc6 10 4 a_sn e_s)), (a_sn, (arI G 40 f_s)), (a_bb, (arJ G 24 f_bb)), (a_j, (oc2 a_as a_sk)), (a_as, (arI G 8 f_as)), (a_sk, (arJ G 50 f_sk)), (a_l, (arW G 6 f_l)), (a_lo, (oc3 e_cl a_hd a_sr a_cd)), (a_sr, (arI G n_sr f_sr)), (a_cd, (arI G n_cd f_cd)), (a_hd, (arI G n_hd f_hd)), (a_pt, (arI G 200 f_pt)), (a_th, (oc7 a_h a_k a_ba a_ad e_fu a_cn a_nx a_hp a_hl a_lv)), (a_ba, (arJ G 24 f_ba)), (a_ad, (arI G 1536 f_ad))] s.heap := hP
  have hl := lv_entry ([.ref a_th, .int p_s]) (n := 5) (Nat.le_of_ble_eq_true rfl)
  rw [lg_entry_eq]
  generalize (lg_sl ([.ref a_th, .int p_s]) ++ List.replicate (5 - (lg_sl ([.ref a_th, .int p_s])).length) Slot.unset).toArray = ls at hl ⊢
  replace hl : lv_has ls 5 [(0, .ref a_th), (1, .int p_s)] := hl
  refine lv_aload_n hx hb dX7_load_0 rfl (lv_at hl 0 rfl) ?_
  refine va_get (D := G.1) (ci := 7) (v := .ref a_ba) (C := RX7) (T := TX7) (N := 10) hx hb hts inG_X7 hown hK hP 20 rfl rfl 2 (by decide +kernel) (hts _ fl_X7_9) (fun _ h9 => h9) rfl dX7_load_1 ?_
  refine lv_aload_n hx hb dX7_load_4 rfl (lv_at hl 0 rfl) ?_
  refine va_get (D := G.1) (ci := 7) (v := .ref a_h) (C := RX7) (T := TX7) (N := 10) hx hb hts inG_X7 hown hK hP 20 rfl rfl 0 (by decide +kernel) (hts _ fl_X7_34) (fun _ h9 => h9) rfl dX7_load_5 ?_
  refine W.eq (g2 := F0 m 8 ls [.ref a_h, .ref a_ba]) rfl ?_
  refine va_get (D := G.1) (ci := 1) (v := .long e_wa) (C := RX1) (T := TX1) (N := 13) hx hb hts inG_X1 hown hK hP 1 rfl rfl 0 (by decide +kernel) (hts _ fl_X7_54) (fun _ h9 => h9) rfl dX7_load_8 ?_
  obtain ⟨hPc, hDc, hFc⟩ := g5_sub3 (wc := [(a_ba, (arJ G 24 f_ba))]) hP hD hS hA [21] (by decide +kernel) rfl
  refine va_callv (va_runS (As := [.ref a_ba, .long e_wa]) (rest := []) ⟨hx, hb, hml, hown, hts⟩ (k_fillJ24 l G a_ba s.heap.size e_wa f_ba) (va_cwS 2 hts gS_X7_58 rfl rfl rfl hs_J7_fill_d0a16 ⟨Nat.le_of_ble_eq_true rfl, Nat.le_of_ble_eq_true rfl⟩) (g5_preS hPc hK hDc hN hT hS hFc) rfl rfl hl.1 rfl (lv_room (Nat.le_of_ble_eq_true rfl)) dX7_load_11 ⟨Nat.le_of_ble_eq_true rfl, Nat.le_of_ble_eq_true rfl⟩) hS (fun q _ h => hFc q h) hFc (fun u t H locs ht hvm hw hB hz1 hk1 hS => ?_)
  obtain ⟨hP1, hD1⟩ := hB
  have hP1 := g5_ht ht hP1
  obtain rfl := hw
  have hJ9 := va_join (wr := [(a_k, (oc5 a_h a_j a_pt e_ln e_se e_lh e_br e_we e_me e_ce e_wy e_ho e_ov)), (a_h, (oc1 e_wa e_le e_st e_fo e_lc a_l a_g a_b a_s a_p a_w e_gb a_bb)), (a_g, (oc6 6 5 a_gn e_g)), (a_gn, (arI G 30 f_g)), (a_b, (oc6 5 24 a_bn e_b)), (a_bn, (arI G 120 f_b)), (a_p, (oc6 8 5 a_pn e_p)), (a_pn, (arI G 40 f_p)), (a_s, (oc6 10 4 a_sn e_s)), (a_sn, (arI G 40 f_s)), (a_bb, (arJ G 24 f_bb)), (a_j, (oc2 a_as a_sk)), (a_as, (arI G 8 f_as)), (a_sk, (arJ G 50 f_sk)), (a_l, (arW G 6 f_l)), (a_lo, (oc3 e_cl a_hd a_sr a_cd)), (a_sr, (arI G n_sr f_sr)), (a_cd, (arI G n_cd f_cd)), (a_hd, (arI G n_hd f_hd)), (a_pt, (arI G 200 f_pt)), (a_th, (oc7 a_h a_k a_ba a_ad e_fu a_cn a_nx a_hp a_hl a_lv)), (a_ad, (arI G 1536 f_ad))]) hP hD [21] [0, 1, 2, 3, 4, 5, 6, 7, 8, 9, 10, 11, 12, 13, 14, 15, 16, 17, 18, 19, 20, 22] rfl rfl (by decide +kernel) (by decide +kernel) hk1 hFc hP1 hD1
  clear hP hD hPc hDc hFc ht hvm hz1 hk1 hP1 hD1
  obtain ⟨hP, hD⟩ := hJ9
  refine g5_rs [(a_k, (oc5 a_h a_j a_pt e_ln e_se e_lh e_br e_we e_me e_ce e_wy e_ho e_ov)), (a_h, (oc1 e_wa e_le e_st e_fo e_lc a_l a_g a_b a_s a_p a_w e_gb a_bb)), (a_g, (oc6 6 5 a_gn e_g)), (a_gn, (arI G 30 f_g)), (a_b, (oc6 5 24 a_bn e_b)), (a_bn, (arI G 120 f_b)), (a_p, (oc6 8 5 a_pn e_p)), (a_pn, (arI G 40 f_p)), (a_s, (oc6 10 4 a_sn e_s)), (a_sn, (arI G 40 f_s)), (a_bb, (arJ G 24 f_bb)), (a_j, (oc2 a_as a_sk)), (a_as, (arI G 8 f_as)), (a_sk, (arJ G 50 f_sk)), (a_l, (arW G 6 f_l)), (a_lo, (oc3 e_cl a_hd a_sr a_cd)), (a_sr, (arI G n_sr f_sr)), (a_cd, (arI G n_cd f_cd)), (a_hd, (arI G n_hd f_hd)), (a_pt, (arI G 200 f_pt)), (a_th, (oc7 a_h a_k a_ba a_ad e_fu a_cn a_nx a_hp a_hl a_lv)), (a_ad, (arI G 1536 f_ad)), (a_ba, (arJ G 24 (fun _ => e_wa)))] hP hD ?_
  clear hP hD
  intro hP hD
  refine lv_aload_n hx hb dX7_load_14 rfl (lv_at hl 0 rfl) ?_
  refine va_get (D := G.1) (ci := 7) (v := .ref a_ad) (C := RX7) (T := TX7) (N := 10) hx hb hts inG_X7 hown hK hP 20 rfl rfl 3 (by decide +kernel) (hts _ fl_X7_15) (fun _ h9 => h9) rfl dX7_load_15 ?_
  refine lv_iconst (v := 0) hx hb dX7_load_18 (by decide +kernel) ?_
  refine W.eq (g2 := F0 m 19 ls [.int 0, .ref a_ad]) rfl ?_
  obtain ⟨hPc, hDc, hFc⟩ := g5_sub3 (wc := [(a_ad, (arI G 1536 f_ad))]) hP hD hS hA [21] (by decide +kernel) rfl
  refine va_callv (va_runS (As := [.ref a_ad, .int 0]) (rest := []) ⟨hx, hb, hml, hown, hts⟩ (k_fillI1536 l G a_ad H.size 0 f_ad) (va_cwS 2 hts gS_X7_64 rfl rfl rfl hs_J7_fill_53178 ⟨Nat.le_of_ble_eq_true rfl, Nat.le_of_ble_eq_true rfl⟩) (g5_preS hPc hK hDc hN hT hS hFc) rfl rfl hl.1 rfl (lv_room (Nat.le_of_ble_eq_true rfl)) dX7_load_19 ⟨Nat.le_of_ble_eq_true rfl, Nat.le_of_ble_eq_true rfl⟩) hS (fun q _ h => hFc q h) hFc (fun u t H locs ht hvm hw hB hz1 hk1 hS => ?_)
  obtain ⟨hP1, hD1⟩ := hB
  have hP1 := g5_ht ht hP1
  obtain rfl := hw
  have hJ9 := va_join (wr := [(a_k, (oc5 a_h a_j a_pt e_ln e_se e_lh e_br e_we e_me e_ce e_wy e_ho e_ov)), (a_h, (oc1 e_wa e_le e_st e_fo e_lc a_l a_g a_b a_s a_p a_w e_gb a_bb)), (a_g, (oc6 6 5 a_gn e_g)), (a_gn, (arI G 30 f_g)), (a_b, (oc6 5 24 a_bn e_b)), (a_bn, (arI G 120 f_b)), (a_p, (oc6 8 5 a_pn e_p)), (a_pn, (arI G 40 f_p)), (a_s, (oc6 10 4 a_sn e_s)), (a_sn, (arI G 40 f_s)), (a_bb, (arJ G 24 f_bb)), (a_j, (oc2 a_as a_sk)), (a_as, (arI G 8 f_as)), (a_sk, (arJ G 50 f_sk)), (a_l, (arW G 6 f_l)), (a_lo, (oc3 e_cl a_hd a_sr a_cd)), (a_sr, (arI G n_sr f_sr)), (a_cd, (arI G n_cd f_cd)), (a_hd, (arI G n_hd f_hd)), (a_pt, (arI G 200 f_pt)), (a_th, (oc7 a_h a_k a_ba a_ad e_fu a_cn a_nx a_hp a_hl a_lv)), (a_ba, (arJ G 24 (fun _ => e_wa)))]) hP hD [21] [0, 1, 2, 3, 4, 5, 6, 7, 8, 9, 10, 11, 12, 13, 14, 15, 16, 17, 18, 19, 20, 22] rfl rfl (by decide +kernel) (by decide +kernel) hk1 hFc hP1 hD1
  clear hP hD hPc hDc hFc ht hvm hz1 hk1 hP1 hD1
  obtain ⟨hP, hD⟩ := hJ9
  refine g5_rs [(a_k, (oc5 a_h a_j a_pt e_ln e_se e_lh e_br e_we e_me e_ce e_wy e_ho e_ov)), (a_h, (oc1 e_wa e_le e_st e_fo e_lc a_l a_g a_b a_s a_p a_w e_gb a_bb)), (a_g, (oc6 6 5 a_gn e_g)), (a_gn, (arI G 30 f_g)), (a_b, (oc6 5 24 a_bn e_b)), (a_bn, (arI G 120 f_b)), (a_p, (oc6 8 5 a_pn e_p)), (a_pn, (arI G 40 f_p)), (a_s, (oc6 10 4 a_sn e_s)), (a_sn, (arI G 40 f_s)), (a_bb, (arJ G 24 f_bb)), (a_j, (oc2 a_as a_sk)), (a_as, (arI G 8 f_as)), (a_sk, (arJ G 50 f_sk)), (a_l, (arW G 6 f_l)), (a_lo, (oc3 e_cl a_hd a_sr a_cd)), (a_sr, (arI G n_sr f_sr)), (a_cd, (arI G n_cd f_cd)), (a_hd, (arI G n_hd f_hd)), (a_pt, (arI G 200 f_pt)), (a_th, (oc7 a_h a_k a_ba a_ad e_fu a_cn a_nx a_hp a_hl a_lv)), (a_ba, (arJ G 24 (fun _ => e_wa))), (a_ad, (arI G 1536 (fun _ => (0 : Int32))))] hP hD ?_
  clear hP hD
  intro hP hD
  refine lv_aload_n hx hb dX7_load_22 rfl (lv_at hl 0 rfl) ?_
  refine va_get (D := G.1) (ci := 7) (v := .ref a_h) (C := RX7) (T := TX7) (N := 10) hx hb hts inG_X7 hown hK hP 20 rfl rfl 0 (by decide +kernel) (hts _ fl_X7_34) (fun _ h9 => h9) rfl dX7_load_23 ?_
  refine va_get (D := G.1) (ci := 1) (v := .int e_st) (C := RX1) (T := TX1) (N := 13) hx hb hts inG_X1 hown hK hP 1 rfl rfl 2 (by decide +kernel) (hts _ fl_X7_67) (fun _ h9 => h9) rfl dX7_load_26 ?_
  refine lv_iconst (v := (-1)) hx hb dX7_load_29 (by decide +kernel) ?_
  refine W.eq (g2 := F0 m 30 ls [.int (-1), .int e_st]) rfl ?_
  refine lv_icmp_eq (tgt := 55) hx hb dX7_load_30 (by decide +kernel) (fun c_1 => ?_) (fun c_1 => ?_)
  ·
    have i_1 : e_st.toInt = (-1) := g5_eq (a := e_st.toInt) (b := (-1)) rfl (by decide +kernel) c_1
    refine lv_iconst (v := 1) hx hb dX7_load_55 (by decide +kernel) ?_
    refine lv_istore_n (lv' := [(2, .int 1), (0, .ref a_th), (1, .int p_s)]) hx hb dX7_load_56 rfl hl (by decide +kernel) rfl ?_
    clear hl
    intro ls hl
    refine lv_aload_n hx hb dX7_load_57 rfl (lv_at hl 1 rfl) ?_
    refine va_get (D := G.1) (ci := 7) (v := .ref a_h) (C := RX7) (T := TX7) (N := 10) hx hb hts inG_X7 hown hK hP 20 rfl rfl 0 (by decide +kernel) (hts _ fl_X7_34) (fun _ h9 => h9) rfl dX7_load_58 ?_
    refine W.eq (g2 := F0 m 61 ls [.ref a_h]) rfl ?_
    refine va_get (D := G.1) (ci := 1) (v := .ref a_s) (C := RX1) (T := TX1) (N := 13) hx hb hts inG_X1 hown hK hP 1 rfl rfl 8 (by decide +kernel) (hts _ fl_X7_42) (fun _ h9 => h9) rfl dX7_load_61 ?_
    refine lv_astore_n (lv' := [(3, .ref a_s), (2, .int 1), (0, .ref a_th), (1, .int p_s)]) hx hb dX7_load_64 rfl hl (by decide +kernel) rfl ?_
    clear hl
    intro ls hl
    refine lv_iconst (v := 0) hx hb dX7_load_65 (by decide +kernel) ?_
    refine lv_istore (lv' := [(4, .int 0), (3, .ref a_s), (2, .int 1), (0, .ref a_th), (1, .int p_s)]) hx hb dX7_load_66 hl (by decide +kernel) rfl ?_
    clear hl
    intro ls hl
    refine g5_loop (α := (Int32) × (Int32) × (Int32) × (Int32) × (Int32) × (Int32) × (Int32) × (Int32) × (Int32) × (Int32) × (Int32) × (Nat → Int32) × (Nat → Int32) × (Nat → Int64) × (Int32) × (Nat → Int64) × (Nat → Int32)) (fun (q : (Int32) × (Int32) × (Int32) × (Int32) × (Int32) × (Int32) × (Int32) × (Int32) × (Int32) × (Int32) × (Int32) × (Nat → Int32) × (Nat → Int32) × (Nat → Int64) × (Int32) × (Nat → Int64) × (Nat → Int32)) (ls : Array Slot) (H : Heap) (locs : List Loc) => match q with | (k_b, k_i, k_se, k_lh, k_br, k_we, k_me, k_ce, k_wy, k_ho, k_ov, k_pt, k_as, k_sk, k_ln, k_ba, k_ad) => lv_has ls 5 [(2, .int k_b), (4, .int k_i), (3, .ref a_s), (0, .ref a_th), (1, .int p_s)] ∧ va_P G.1 vwCl [(a_k, (oc5 a_h a_j a_pt k_ln k_se k_lh k_br k_we k_me k_ce k_wy k_ho k_ov)), (a_h, (oc1 e_wa e_le e_st e_fo e_lc a_l a_g a_b a_s a_p a_w e_gb a_bb)), (a_g, (oc6 6 5 a_gn e_g)), (a_gn, (arI G 30 f_g)), (a_b, (oc6 5 24 a_bn e_b)), (a_bn, (arI G 120 f_b)), (a_p, (oc6 8 5 a_pn e_p)), (a_pn, (arI G 40 f_p)), (a_s, (oc6 10 4 a_sn e_s)), (a_sn, (arI G 40 f_s)), (a_bb, (arJ G 24 f_bb)), (a_j, (oc2 a_as a_sk)), (a_as, (arI G 8 k_as)), (a_sk, (arJ G 50 k_sk)), (a_l, (arW G 6 f_l)), (a_lo, (oc3 e_cl a_hd a_sr a_cd)), (a_sr, (arI G n_sr f_sr)), (a_cd, (arI G n_cd f_cd)), (a_hd, (arI G n_hd f_hd)), (a_pt, (arI G 200 k_pt)), (a_th, (oc7 a_h a_k a_ba a_ad e_fu a_cn a_nx a_hp a_hl a_lv)), (a_ba, (arJ G 24 k_ba)), (a_ad, (arI G 1536 k_ad))] H ∧ va_D A [(a_k, (oc5 a_h a_j a_pt k_ln k_se k_lh k_br k_we k_me k_ce k_wy k_ho k_ov)), (a_h, (oc1 e_wa e_le e_st e_fo e_lc a_l a_g a_b a_s a_p a_w e_gb a_bb)), (a_g, (oc6 6 5 a_gn e_g)), (a_gn, (arI G 30 f_g)), (a_b, (oc6 5 24 a_bn e_b)), (a_bn, (arI G 120 f_b)), (a_p, (oc6 8 5 a_pn e_p)), (a_pn, (arI G 40 f_p)), (a_s, (oc6 10 4 a_sn e_s)), (a_sn, (arI G 40 f_s)), (a_bb, (arJ G 24 f_bb)), (a_j, (oc2 a_as a_sk)), (a_as, (arI G 8 k_as)), (a_sk, (arJ G 50 k_sk)), (a_l, (arW G 6 f_l)), (a_lo, (oc3 e_cl a_hd a_sr a_cd)), (a_sr, (arI G n_sr f_sr)), (a_cd, (arI G n_cd f_cd)), (a_hd, (arI G n_hd f_hd)), (a_pt, (arI G 200 k_pt)), (a_th, (oc7 a_h a_k a_ba a_ad e_fu a_cn a_nx a_hp a_hl a_lv)), (a_ba, (arJ G 24 k_ba)), (a_ad, (arI G 1536 k_ad))] ∧ va_S A s.heap H locs ∧ (0 ≤ k_i.toInt ∧ k_i.toInt ≤ 10) ∧ (0 ≤ k_ov.toInt ∧ k_ov.toInt ≤ 1) ∧ (k_i.toInt ≤ e_s.toInt) ∧ (LDI f_s e_s.toInt k_i.toInt k_b k_ad)) (fun (q : (Int32) × (Int32) × (Int32) × (Int32) × (Int32) × (Int32) × (Int32) × (Int32) × (Int32) × (Int32) × (Int32) × (Nat → Int32) × (Nat → Int32) × (Nat → Int64) × (Int32) × (Nat → Int64) × (Nat → Int32)) => match q with | (k_b, k_i, k_se, k_lh, k_br, k_we, k_me, k_ce, k_wy, k_ho, k_ov, k_pt, k_as, k_sk, k_ln, k_ba, k_ad) => Int.toNat (10 - k_i.toInt)) (1, 0, e_se, e_lh, e_br, e_we, e_me, e_ce, e_wy, e_ho, e_ov, f_pt, f_as, f_sk, e_ln, (fun _ => e_wa), (fun _ => (0 : Int32))) ⟨lv_sub hl [2, 0, 1, 3, 4] rfl, hP, hD, hS, ⟨by decide, by decide⟩, h_e_ov, by have z0 : (0 : Int32).toInt = 0 := (by decide +kernel); omega, ld_0⟩ ?_
    rintro ⟨k_b, k_i, k_se, k_lh, k_br, k_we, k_me, k_ce, k_wy, k_ho, k_ov, k_pt, k_as, k_sk, k_ln, k_ba, k_ad⟩ ls H locs ⟨hl, hP, hD, hS, (i_2 : 0 ≤ k_i.toInt ∧ k_i.toInt ≤ 10), (i_3 : 0 ≤ k_ov.toInt ∧ k_ov.toInt ≤ 1), (i_4 : k_i.toInt ≤ e_s.toInt), (i_5 : LDI f_s e_s.toInt k_i.toInt k_b k_ad)⟩ ih_68_6
    replace hl : lv_has ls 5 [(2, .int k_b), (4, .int k_i), (3, .ref a_s), (0, .ref a_th), (1, .int p_s)] := hl
    refine g5_rs [(a_k, (oc5 a_h a_j a_pt k_ln k_se k_lh k_br k_we k_me k_ce k_wy k_ho k_ov)), (a_h, (oc1 e_wa e_le e_st e_fo e_lc a_l a_g a_b a_s a_p a_w e_gb a_bb)), (a_g, (oc6 6 5 a_gn e_g)), (a_gn, (arI G 30 f_g)), (a_b, (oc6 5 24 a_bn e_b)), (a_bn, (arI G 120 f_b)), (a_p, (oc6 8 5 a_pn e_p)), (a_pn, (arI G 40 f_p)), (a_s, (oc6 10 4 a_sn e_s)), (a_sn, (arI G 40 f_s)), (a_bb, (arJ G 24 f_bb)), (a_j, (oc2 a_as a_sk)), (a_as, (arI G 8 k_as)), (a_sk, (arJ G 50 k_sk)), (a_l, (arW G 6 f_l)), (a_lo, (oc3 e_cl a_hd a_sr a_cd)), (a_sr, (arI G n_sr f_sr)), (a_cd, (arI G n_cd f_cd)), (a_hd, (arI G n_hd f_hd)), (a_pt, (arI G 200 k_pt)), (a_th, (oc7 a_h a_k a_ba a_ad e_fu a_cn a_nx a_hp a_hl a_lv)), (a_ba, (arJ G 24 k_ba)), (a_ad, (arI G 1536 k_ad))] hP hD ?_
    clear hP hD
    intro hP hD
    refine lv_iload hx hb dX7_load_68 (lv_at hl 1 rfl) ?_
    refine lv_aload_n hx hb dX7_load_70 rfl (lv_at hl 2 rfl) ?_
    refine va_get (D := G.1) (ci := 6) (v := .int e_s) (C := RX6) (T := TX6) (N := 4) hx hb hts inG_X6 hown hK hP 8 rfl rfl 3 (by decide +kernel) (hts _ fl_X7_48) (fun _ h9 => h9) rfl dX7_load_71 ?_
    refine lv_icmp_ge (tgt := 148) hx hb dX7_load_74 (by decide +kernel) (fun c_7 => ?_) (fun c_7 => ?_)
    ·
      have i_7 : k_i.toInt ≥ e_s.toInt := g5_ge (a := k_i.toInt) (b := e_s.toInt) rfl rfl c_7
      refine lv_aload_n hx hb dX7_load_148 rfl (lv_at hl 3 rfl) ?_
      refine lv_iload_n hx hb dX7_load_149 rfl (lv_at hl 0 rfl) ?_
      refine lv_iconst (v := 1) hx hb dX7_load_150 (by decide +kernel) ?_
      refine lv_isub hx hb dX7_load_151 ?_
      refine W.eq (g2 := F0 m 152 ls [.int (k_b - 1), .ref a_th]) rfl ?_
      refine va_put (D := G.1) (ci := 7) (v := .int (k_b - 1)) (ty := .int) (C := RX7) (T := TX7) (N := 10) hx hb hts inG_X7 tyX7 tyX7_ok nmX7 hown hK hP hD hS 20 rfl rfl 4 (by decide +kernel) (hts _ fl_X7_89) (fun _ h9 => h9) rfl (by decide +kernel) rfl rfl (Nat.le_of_ble_eq_true rfl) dX7_load_152 ?_
      clear hP hD hS
      intro H locs hP hD hS
      refine g5_rs [(a_k, (oc5 a_h a_j a_pt k_ln k_se k_lh k_br k_we k_me k_ce k_wy k_ho k_ov)), (a_h, (oc1 e_wa e_le e_st e_fo e_lc a_l a_g a_b a_s a_p a_w e_gb a_bb)), (a_g, (oc6 6 5 a_gn e_g)), (a_gn, (arI G 30 f_g)), (a_b, (oc6 5 24 a_bn e_b)), (a_bn, (arI G 120 f_b)), (a_p, (oc6 8 5 a_pn e_p)), (a_pn, (arI G 40 f_p)), (a_s, (oc6 10 4 a_sn e_s)), (a_sn, (arI G 40 f_s)), (a_bb, (arJ G 24 f_bb)), (a_j, (oc2 a_as a_sk)), (a_as, (arI G 8 k_as)), (a_sk, (arJ G 50 k_sk)), (a_l, (arW G 6 f_l)), (a_lo, (oc3 e_cl a_hd a_sr a_cd)), (a_sr, (arI G n_sr f_sr)), (a_cd, (arI G n_cd f_cd)), (a_hd, (arI G n_hd f_hd)), (a_pt, (arI G 200 k_pt)), (a_th, (oc7 a_h a_k a_ba a_ad (k_b - 1) a_cn a_nx a_hp a_hl a_lv)), (a_ba, (arJ G 24 k_ba)), (a_ad, (arI G 1536 k_ad))] hP hD ?_
      clear hP hD
      intro hP hD
      exact W.vret hx hb hr (fun t ht hW => ⟨⟨[(a_k, (oc5 a_h a_j a_pt k_ln k_se k_lh k_br k_we k_me k_ce k_wy k_ho k_ov)), (a_h, (oc1 e_wa e_le e_st e_fo e_lc a_l a_g a_b a_s a_p a_w e_gb a_bb)), (a_g, (oc6 6 5 a_gn e_g)), (a_gn, (arI G 30 f_g)), (a_b, (oc6 5 24 a_bn e_b)), (a_bn, (arI G 120 f_b)), (a_p, (oc6 8 5 a_pn e_p)), (a_pn, (arI G 40 f_p)), (a_s, (oc6 10 4 a_sn e_s)), (a_sn, (arI G 40 f_s)), (a_bb, (arJ G 24 f_bb)), (a_j, (oc2 a_as a_sk)), (a_as, (arI G 8 k_as)), (a_sk, (arJ G 50 k_sk)), (a_l, (arW G 6 f_l)), (a_lo, (oc3 e_cl a_hd a_sr a_cd)), (a_sr, (arI G n_sr f_sr)), (a_cd, (arI G n_cd f_cd)), (a_hd, (arI G n_hd f_hd)), (a_pt, (arI G 200 k_pt)), (a_th, (oc7 a_h a_k a_ba a_ad (k_b - 1) a_cn a_nx a_hp a_hl a_lv)), (a_ba, (arJ G 24 k_ba)), (a_ad, (arI G 1536 k_ad))], rfl, ⟨k_ln, k_se, k_lh, k_br, k_we, k_me, k_ce, k_wy, k_ho, k_ov, k_pt, k_as, k_sk, (k_b - 1), k_ba, k_ad, i_3, ld_end i_5 e_sh e_s5 (by omega) (by omega), rfl⟩, by rw [ht]; exact hP.sub [0, 1, 2, 3, 4, 5, 6, 7, 8, 9, 10, 11, 12, 13, 14, 15, 16, 17, 18, 19, 20, 21, 22] rfl, hD.sub [0, 1, 2, 3, 4, 5, 6, 7, 8, 9, 10, 11, 12, 13, 14, 15, 16, 17, 18, 19, 20, 21, 22] (by decide +kernel) rfl⟩, hS.F ht⟩) hS.2.2 dX7_load_155
    ·
      have i_7 : k_i.toInt < e_s.toInt := g5_geN (a := k_i.toInt) (b := e_s.toInt) rfl rfl c_7
      refine lv_iload_n hx hb dX7_load_77 rfl (lv_at hl 4 rfl) ?_
      refine lv_iload hx hb dX7_load_78 (lv_at hl 1 rfl) ?_
      refine lv_ishr hx hb dX7_load_80 ?_
      refine lv_iconst (v := 1) hx hb dX7_load_81 (by decide +kernel) ?_
      refine W.eq (g2 := F0 m 82 ls [.int 1, .int (p_s >>> (k_i &&& 31))]) rfl ?_
      refine lv_iand hx hb dX7_load_82 ?_
      refine lv_if_eq (tgt := 142) hx hb dX7_load_83 (by decide +kernel) (fun c_8 => ?_) (fun c_8 => ?_)
      ·
        have i_8 : ((p_s >>> (k_i &&& 31)) &&& 1).toInt = 0 := g5_eq (a := ((p_s >>> (k_i &&& 31)) &&& 1).toInt) (b := 0) rfl (by decide +kernel) c_8
        refine lv_iinc (v := (k_i + 1)) (lv' := [(4, .int (k_i + 1)), (2, .int k_b), (3, .ref a_s), (0, .ref a_th), (1, .int p_s)]) hx hb dX7_load_142 hl (k := 1) rfl rfl (by decide +kernel) rfl ?_
        clear hl
        intro ls hl
        have t_9 : (k_i + 1).toInt = k_i.toInt + 1 := g5_iadd (a := k_i.toInt) (b := 1) rfl (by decide +kernel) (by omega) (by omega)
        refine lv_goto (tgt := 68) hx hb dX7_load_145 (by decide +kernel) ?_
        exact ih_68_6 (k_b, (k_i + 1), k_se, k_lh, k_br, k_we, k_me, k_ce, k_wy, k_ho, k_ov, k_pt, k_as, k_sk, k_ln, k_ba, k_ad) ls H locs (show Int.toNat (10 - (k_i + 1).toInt) < Int.toNat (10 - k_i.toInt) from g_up (show k_i.toInt < (k_i + 1).toInt by omega) (show k_i.toInt < 10 by omega)) ⟨lv_sub hl [1, 0, 2, 3, 4] rfl, hP, hD, hS, ⟨by omega, by omega⟩, i_3, by omega, ld_stay i_5 e_sh (by omega) (by omega) (by omega)⟩
      ·
        have n_8 : gNe (((p_s >>> (k_i &&& 31)) &&& 1).toInt) (0) := g5_eqN (a := ((p_s >>> (k_i &&& 31)) &&& 1).toInt) (b := 0) rfl (by decide +kernel) c_8
        refine lv_aload_n hx hb dX7_load_86 rfl (lv_at hl 3 rfl) ?_
        refine va_get (D := G.1) (ci := 7) (v := .ref a_k) (C := RX7) (T := TX7) (N := 10) hx hb hts inG_X7 hown hK hP 20 rfl rfl 1 (by decide +kernel) (hts _ fl_X7_38) (fun _ h9 => h9) rfl dX7_load_87 ?_
        refine lv_aload_n hx hb dX7_load_90 rfl (lv_at hl 2 rfl) ?_
        refine lv_iload hx hb dX7_load_91 (lv_at hl 1 rfl) ?_
        refine W.eq (g2 := F0 m 93 ls [.int k_i, .ref a_s, .ref a_k]) rfl ?_
        refine lv_iconst (v := 0) hx hb dX7_load_93 (by decide +kernel) ?_
        obtain ⟨hPc, hDc, hFc⟩ := g5_sub3 (wc := [(a_s, (oc6 10 4 a_sn e_s)), (a_sn, (arI G 40 f_s))]) hP hD hS hA [8, 9] (by decide +kernel) rfl
        refine va_calli (va_runV (As := [.int k_i, .int 0]) (rest := [.ref a_k]) ⟨hx, hb, hml, hown, hts⟩ (t_get_S l G a_s a_sn H.size e_s k_i 0 f_s h_e_s) (cwV 2 hts gV_X7_72 rfl rfl rfl hv_X6_get ⟨Nat.le_of_ble_eq_true rfl, Nat.le_of_ble_eq_true rfl⟩) (g5_preV hPc hK hDc hN hT hS hFc (ci := 6) (q0 := 0) rfl rfl) rfl rfl hl.1 rfl (lv_room (Nat.le_of_ble_eq_true rfl)) dX7_load_94 ⟨Nat.le_of_ble_eq_true rfl, Nat.le_of_ble_eq_true rfl⟩) hS (fun q _ h => hFc q h) hFc (fun r u t H locs ht hvm hw hB hz1 hk1 hS => ?_)
        obtain ⟨hP1, hD1⟩ := hB
        have hP1 := g5_ht ht hP1
        obtain ⟨z11, (i_10 : z11 = tget f_s e_s.toInt 4 k_i.toInt (0 : Int32).toInt), y12, rfl⟩ := hw
        have hJ9 := va_join (wr := [(a_k, (oc5 a_h a_j a_pt k_ln k_se k_lh k_br k_we k_me k_ce k_wy k_ho k_ov)), (a_h, (oc1 e_wa e_le e_st e_fo e_lc a_l a_g a_b a_s a_p a_w e_gb a_bb)), (a_g, (oc6 6 5 a_gn e_g)), (a_gn, (arI G 30 f_g)), (a_b, (oc6 5 24 a_bn e_b)), (a_bn, (arI G 120 f_b)), (a_p, (oc6 8 5 a_pn e_p)), (a_pn, (arI G 40 f_p)), (a_bb, (arJ G 24 f_bb)), (a_j, (oc2 a_as a_sk)), (a_as, (arI G 8 k_as)), (a_sk, (arJ G 50 k_sk)), (a_l, (arW G 6 f_l)), (a_lo, (oc3 e_cl a_hd a_sr a_cd)), (a_sr, (arI G n_sr f_sr)), (a_cd, (arI G n_cd f_cd)), (a_hd, (arI G n_hd f_hd)), (a_pt, (arI G 200 k_pt)), (a_th, (oc7 a_h a_k a_ba a_ad e_fu a_cn a_nx a_hp a_hl a_lv)), (a_ba, (arJ G 24 k_ba)), (a_ad, (arI G 1536 k_ad))]) hP hD [8, 9] [0, 1, 2, 3, 4, 5, 6, 7, 10, 11, 12, 13, 14, 15, 16, 17, 18, 19, 20, 21, 22] rfl rfl (by decide +kernel) (by decide +kernel) hk1 hFc hP1 hD1
        clear hP hD hPc hDc hFc ht hvm hz1 hk1 hP1 hD1
        obtain ⟨hP, hD⟩ := hJ9
        refine g5_rs [(a_k, (oc5 a_h a_j a_pt k_ln k_se k_lh k_br k_we k_me k_ce k_wy k_ho k_ov)), (a_h, (oc1 e_wa e_le e_st e_fo e_lc a_l a_g a_b a_s a_p a_w e_gb a_bb)), (a_g, (oc6 6 5 a_gn e_g)), (a_gn, (arI G 30 f_g)), (a_b, (oc6 5 24 a_bn e_b)), (a_bn, (arI G 120 f_b)), (a_p, (oc6 8 5 a_pn e_p)), (a_pn, (arI G 40 f_p)), (a_bb, (arJ G 24 f_bb)), (a_j, (oc2 a_as a_sk)), (a_as, (arI G 8 k_as)), (a_sk, (arJ G 50 k_sk)), (a_l, (arW G 6 f_l)), (a_lo, (oc3 e_cl a_hd a_sr a_cd)), (a_sr, (arI G n_sr f_sr)), (a_cd, (arI G n_cd f_cd)), (a_hd, (arI G n_hd f_hd)), (a_pt, (arI G 200 k_pt)), (a_th, (oc7 a_h a_k a_ba a_ad e_fu a_cn a_nx a_hp a_hl a_lv)), (a_ba, (arJ G 24 k_ba)), (a_ad, (arI G 1536 k_ad)), (a_s, (oc6 10 4 a_sn e_s)), (a_sn, (arI G 40 f_s))] hP hD ?_
        clear hP hD
        intro hP hD
        refine g5_ti (v := z11) y12 ?_
        refine lv_aload_n hx hb dX7_load_97 rfl (lv_at hl 2 rfl) ?_
        refine lv_iload hx hb dX7_load_98 (lv_at hl 1 rfl) ?_
        refine lv_iconst (v := 1) hx hb dX7_load_100 (by decide +kernel) ?_
        refine W.eq (g2 := F0 m 101 ls [.int 1, .int k_i, .ref a_s, .int z11, .ref a_k]) rfl ?_
        obtain ⟨hPc, hDc, hFc⟩ := g5_sub3 (wc := [(a_s, (oc6 10 4 a_sn e_s)), (a_sn, (arI G 40 f_s))]) hP hD hS hA [21, 22] (by decide +kernel) rfl
        refine va_calli (va_runV (As := [.int k_i, .int 1]) (rest := [.int z11, .ref a_k]) ⟨hx, hb, hml, hown, hts⟩ (t_get_S l G a_s a_sn H.size e_s k_i 1 f_s h_e_s) (cwV 2 hts gV_X7_72 rfl rfl rfl hv_X6_get ⟨Nat.le_of_ble_eq_true rfl, Nat.le_of_ble_eq_true rfl⟩) (g5_preV hPc hK hDc hN hT hS hFc (ci := 6) (q0 := 0) rfl rfl) rfl rfl hl.1 rfl (lv_room (Nat.le_of_ble_eq_true rfl)) dX7_load_101 ⟨Nat.le_of_ble_eq_true rfl, Nat.le_of_ble_eq_true rfl⟩) hS (fun q _ h => hFc q h) hFc (fun r u t H locs ht hvm hw hB hz1 hk1 hS => ?_)
        obtain ⟨hP1, hD1⟩ := hB
        have hP1 := g5_ht ht hP1
        obtain ⟨z14, (i_13 : z14 = tget f_s e_s.toInt 4 k_i.toInt (1 : Int32).toInt), y15, rfl⟩ := hw
        have hJ9 := va_join (wr := [(a_k, (oc5 a_h a_j a_pt k_ln k_se k_lh k_br k_we k_me k_ce k_wy k_ho k_ov)), (a_h, (oc1 e_wa e_le e_st e_fo e_lc a_l a_g a_b a_s a_p a_w e_gb a_bb)), (a_g, (oc6 6 5 a_gn e_g)), (a_gn, (arI G 30 f_g)), (a_b, (oc6 5 24 a_bn e_b)), (a_bn, (arI G 120 f_b)), (a_p, (oc6 8 5 a_pn e_p)), (a_pn, (arI G 40 f_p)), (a_bb, (arJ G 24 f_bb)), (a_j, (oc2 a_as a_sk)), (a_as, (arI G 8 k_as)), (a_sk, (arJ G 50 k_sk)), (a_l, (arW G 6 f_l)), (a_lo, (oc3 e_cl a_hd a_sr a_cd)), (a_sr, (arI G n_sr f_sr)), (a_cd, (arI G n_cd f_cd)), (a_hd, (arI G n_hd f_hd)), (a_pt, (arI G 200 k_pt)), (a_th, (oc7 a_h a_k a_ba a_ad e_fu a_cn a_nx a_hp a_hl a_lv)), (a_ba, (arJ G 24 k_ba)), (a_ad, (arI G 1536 k_ad))]) hP hD [21, 22] [0, 1, 2, 3, 4, 5, 6, 7, 8, 9, 10, 11, 12, 13, 14, 15, 16, 17, 18, 19, 20] rfl rfl (by decide +kernel) (by decide +kernel) hk1 hFc hP1 hD1
        clear hP hD hPc hDc hFc ht hvm hz1 hk1 hP1 hD1
        obtain ⟨hP, hD⟩ := hJ9
        refine g5_rs [(a_k, (oc5 a_h a_j a_pt k_ln k_se k_lh k_br k_we k_me k_ce k_wy k_ho k_ov)), (a_h, (oc1 e_wa e_le e_st e_fo e_lc a_l a_g a_b a_s a_p a_w e_gb a_bb)), (a_g, (oc6 6 5 a_gn e_g)), (a_gn, (arI G 30 f_g)), (a_b, (oc6 5 24 a_bn e_b)), (a_bn, (arI G 120 f_b)), (a_p, (oc6 8 5 a_pn e_p)), (a_pn, (arI G 40 f_p)), (a_bb, (arJ G 24 f_bb)), (a_j, (oc2 a_as a_sk)), (a_as, (arI G 8 k_as)), (a_sk, (arJ G 50 k_sk)), (a_l, (arW G 6 f_l)), (a_lo, (oc3 e_cl a_hd a_sr a_cd)), (a_sr, (arI G n_sr f_sr)), (a_cd, (arI G n_cd f_cd)), (a_hd, (arI G n_hd f_hd)), (a_pt, (arI G 200 k_pt)), (a_th, (oc7 a_h a_k a_ba a_ad e_fu a_cn a_nx a_hp a_hl a_lv)), (a_ba, (arJ G 24 k_ba)), (a_ad, (arI G 1536 k_ad)), (a_s, (oc6 10 4 a_sn e_s)), (a_sn, (arI G 40 f_s))] hP hD ?_
        clear hP hD
        intro hP hD
        refine g5_ti (v := z14) y15 ?_
        refine lv_aload_n hx hb dX7_load_104 rfl (lv_at hl 2 rfl) ?_
        refine lv_iload hx hb dX7_load_105 (lv_at hl 1 rfl) ?_
        refine lv_iconst (v := 2) hx hb dX7_load_107 (by decide +kernel) ?_
        obtain ⟨hPc, hDc, hFc⟩ := g5_sub3 (wc := [(a_s, (oc6 10 4 a_sn e_s)), (a_sn, (arI G 40 f_s))]) hP hD hS hA [21, 22] (by decide +kernel) rfl
        refine va_calli (va_runV (As := [.int k_i, .int 2]) (rest := [.int z14, .int z11, .ref a_k]) ⟨hx, hb, hml, hown, hts⟩ (t_get_S l G a_s a_sn H.size e_s k_i 2 f_s h_e_s) (cwV 2 hts gV_X7_72 rfl rfl rfl hv_X6_get ⟨Nat.le_of_ble_eq_true rfl, Nat.le_of_ble_eq_true rfl⟩) (g5_preV hPc hK hDc hN hT hS hFc (ci := 6) (q0 := 0) rfl rfl) rfl rfl hl.1 rfl (lv_room (Nat.le_of_ble_eq_true rfl)) dX7_load_108 ⟨Nat.le_of_ble_eq_true rfl, Nat.le_of_ble_eq_true rfl⟩) hS (fun q _ h => hFc q h) hFc (fun r u t H locs ht hvm hw hB hz1 hk1 hS => ?_)
        obtain ⟨hP1, hD1⟩ := hB
        have hP1 := g5_ht ht hP1
        obtain ⟨z17, (i_16 : z17 = tget f_s e_s.toInt 4 k_i.toInt (2 : Int32).toInt), y18, rfl⟩ := hw
        have hJ9 := va_join (wr := [(a_k, (oc5 a_h a_j a_pt k_ln k_se k_lh k_br k_we k_me k_ce k_wy k_ho k_ov)), (a_h, (oc1 e_wa e_le e_st e_fo e_lc a_l a_g a_b a_s a_p a_w e_gb a_bb)), (a_g, (oc6 6 5 a_gn e_g)), (a_gn, (arI G 30 f_g)), (a_b, (oc6 5 24 a_bn e_b)), (a_bn, (arI G 120 f_b)), (a_p, (oc6 8 5 a_pn e_p)), (a_pn, (arI G 40 f_p)), (a_bb, (arJ G 24 f_bb)), (a_j, (oc2 a_as a_sk)), (a_as, (arI G 8 k_as)), (a_sk, (arJ G 50 k_sk)), (a_l, (arW G 6 f_l)), (a_lo, (oc3 e_cl a_hd a_sr a_cd)), (a_sr, (arI G n_sr f_sr)), (a_cd, (arI G n_cd f_cd)), (a_hd, (arI G n_hd f_hd)), (a_pt, (arI G 200 k_pt)), (a_th, (oc7 a_h a_k a_ba a_ad e_fu a_cn a_nx a_hp a_hl a_lv)), (a_ba, (arJ G 24 k_ba)), (a_ad, (arI G 1536 k_ad))]) hP hD [21, 22] [0, 1, 2, 3, 4, 5, 6, 7, 8, 9, 10, 11, 12, 13, 14, 15, 16, 17, 18, 19, 20] rfl rfl (by decide +kernel) (by decide +kernel) hk1 hFc hP1 hD1
        clear hP hD hPc hDc hFc ht hvm hz1 hk1 hP1 hD1
        obtain ⟨hP, hD⟩ := hJ9
        refine g5_rs [(a_k, (oc5 a_h a_j a_pt k_ln k_se k_lh k_br k_we k_me k_ce k_wy k_ho k_ov)), (a_h, (oc1 e_wa e_le e_st e_fo e_lc a_l a_g a_b a_s a_p a_w e_gb a_bb)), (a_g, (oc6 6 5 a_gn e_g)), (a_gn, (arI G 30 f_g)), (a_b, (oc6 5 24 a_bn e_b)), (a_bn, (arI G 120 f_b)), (a_p, (oc6 8 5 a_pn e_p)), (a_pn, (arI G 40 f_p)), (a_bb, (arJ G 24 f_bb)), (a_j, (oc2 a_as a_sk)), (a_as, (arI G 8 k_as)), (a_sk, (arJ G 50 k_sk)), (a_l, (arW G 6 f_l)), (a_lo, (oc3 e_cl a_hd a_sr a_cd)), (a_sr, (arI G n_sr f_sr)), (a_cd, (arI G n_cd f_cd)), (a_hd, (arI G n_hd f_hd)), (a_pt, (arI G 200 k_pt)), (a_th, (oc7 a_h a_k a_ba a_ad e_fu a_cn a_nx a_hp a_hl a_lv)), (a_ba, (arJ G 24 k_ba)), (a_ad, (arI G 1536 k_ad)), (a_s, (oc6 10 4 a_sn e_s)), (a_sn, (arI G 40 f_s))] hP hD ?_
        clear hP hD
        intro hP hD
        refine g5_ti (v := z17) y18 ?_
        refine W.eq (g2 := F0 m 111 ls [.int z17, .int z14, .int z11, .ref a_k]) rfl ?_
        refine lv_iconst (v := 0) hx hb dX7_load_111 (by decide +kernel) ?_
        obtain ⟨hPc, hDc, hFc⟩ := g5_sub3 (wc := [(a_k, (oc5 a_h a_j a_pt k_ln k_se k_lh k_br k_we k_me k_ce k_wy k_ho k_ov)), (a_h, (oc1 e_wa e_le e_st e_fo e_lc a_l a_g a_b a_s a_p a_w e_gb a_bb)), (a_g, (oc6 6 5 a_gn e_g)), (a_gn, (arI G 30 f_g)), (a_b, (oc6 5 24 a_bn e_b)), (a_bn, (arI G 120 f_b)), (a_p, (oc6 8 5 a_pn e_p)), (a_pn, (arI G 40 f_p)), (a_bb, (arJ G 24 f_bb)), (a_j, (oc2 a_as a_sk)), (a_as, (arI G 8 k_as)), (a_sk, (arJ G 50 k_sk)), (a_l, (arW G 6 f_l)), (a_lo, (oc3 e_cl a_hd a_sr a_cd)), (a_sr, (arI G n_sr f_sr)), (a_cd, (arI G n_cd f_cd)), (a_hd, (arI G n_hd f_hd)), (a_pt, (arI G 200 k_pt))]) hP hD hS hA [0, 1, 2, 3, 4, 5, 6, 7, 8, 9, 10, 11, 12, 13, 14, 15, 16, 17] (by decide +kernel) rfl
        refine va_callv (va_runV (As := [.int z11, .int z14, .int z17, .int 0]) (rest := []) ⟨hx, hb, hml, hown, hts⟩ (k_runL l G a_k a_h a_g a_gn a_b a_bn a_p a_pn a_bb a_j a_as a_sk a_l a_lo a_sr a_cd a_hd a_pt a_s a_w H.size e_le e_st e_fo e_lc e_g e_b e_p e_cl k_ln k_se k_lh k_br k_we k_me k_ce k_wy k_ho k_ov z11 z14 z17 0 e_wa e_gb f_g f_b f_p f_bb k_as k_sk f_l f_sr f_cd f_hd k_pt n_sr n_cd n_hd h_e_g h_e_b h_e_p h_e_cl i_3 (e_gk) (e_pk) (e_gi) (e_f) (e_a) (e_hn) (e_hs) (e_hk) (e_c)) (cwV 4 hts gV_X7_76 rfl rfl rfl hv_X5_run ⟨Nat.le_of_ble_eq_true rfl, Nat.le_of_ble_eq_true rfl⟩) (g5_preV hPc hK hDc hN hT hS hFc (ci := 5) (q0 := 0) rfl rfl) rfl rfl hl.1 rfl (lv_room (Nat.le_of_ble_eq_true rfl)) dX7_load_112 ⟨Nat.le_of_ble_eq_true rfl, Nat.le_of_ble_eq_true rfl⟩) hS (fun q _ h => hFc q h) hFc (fun u t H locs ht hvm hw hB hz1 hk1 hS => ?_)
        obtain ⟨hP1, hD1⟩ := hB
        have hP1 := g5_ht ht hP1
        obtain ⟨z22, z23, z24, z25, z26, z27, z28, z29, z30, z31, z32, z33, z34, (i_19 : 0 ≤ z22.toInt ∧ z22.toInt ≤ 200), (i_20 : 0 ≤ z31.toInt ∧ z31.toInt ≤ 1), (i_21 : ∀ j : Nat, (j : Int) < z22.toInt → 0 ≤ (z32 j).toInt ∧ (z32 j).toInt ≤ 1535), rfl⟩ := hw
        have hJ9 := va_join (wr := [(a_th, (oc7 a_h a_k a_ba a_ad e_fu a_cn a_nx a_hp a_hl a_lv)), (a_ba, (arJ G 24 k_ba)), (a_ad, (arI G 1536 k_ad)), (a_s, (oc6 10 4 a_sn e_s)), (a_sn, (arI G 40 f_s))]) hP hD [0, 1, 2, 3, 4, 5, 6, 7, 8, 9, 10, 11, 12, 13, 14, 15, 16, 17] [18, 19, 20, 21, 22] rfl rfl (by decide +kernel) (by decide +kernel) hk1 hFc hP1 hD1
        clear hP hD hPc hDc hFc ht hvm hz1 hk1 hP1 hD1
        obtain ⟨hP, hD⟩ := hJ9
        refine g5_rs [(a_th, (oc7 a_h a_k a_ba a_ad e_fu a_cn a_nx a_hp a_hl a_lv)), (a_ba, (arJ G 24 k_ba)), (a_ad, (arI G 1536 k_ad)), (a_s, (oc6 10 4 a_sn e_s)), (a_sn, (arI G 40 f_s)), (a_k, (oc5 a_h a_j a_pt z22 z23 z24 z25 z26 z27 z28 z29 z30 z31)), (a_h, (oc1 e_wa e_le e_st e_fo e_lc a_l a_g a_b a_s a_p a_w e_gb a_bb)), (a_g, (oc6 6 5 a_gn e_g)), (a_gn, (arI G 30 f_g)), (a_b, (oc6 5 24 a_bn e_b)), (a_bn, (arI G 120 f_b)), (a_p, (oc6 8 5 a_pn e_p)), (a_pn, (arI G 40 f_p)), (a_bb, (arJ G 24 f_bb)), (a_j, (oc2 a_as a_sk)), (a_as, (arI G 8 z33)), (a_sk, (arJ G 50 z34)), (a_l, (arW G 6 f_l)), (a_lo, (oc3 e_cl a_hd a_sr a_cd)), (a_sr, (arI G n_sr f_sr)), (a_cd, (arI G n_cd f_cd)), (a_hd, (arI G n_hd f_hd)), (a_pt, (arI G 200 z32))] hP hD ?_
        clear hP hD
        intro hP hD
        refine lv_aload_n hx hb dX7_load_115 rfl (lv_at hl 2 rfl) ?_
        refine lv_iload hx hb dX7_load_116 (lv_at hl 1 rfl) ?_
        refine lv_iconst (v := 3) hx hb dX7_load_118 (by decide +kernel) ?_
        refine W.eq (g2 := F0 m 119 ls [.int 3, .int k_i, .ref a_s]) rfl ?_
        obtain ⟨hPc, hDc, hFc⟩ := g5_sub3 (wc := [(a_s, (oc6 10 4 a_sn e_s)), (a_sn, (arI G 40 f_s))]) hP hD hS hA [3, 4] (by decide +kernel) rfl
        refine va_calli (va_runV (As := [.int k_i, .int 3]) (rest := []) ⟨hx, hb, hml, hown, hts⟩ (t_get_S l G a_s a_sn H.size e_s k_i 3 f_s h_e_s) (cwV 2 hts gV_X7_72 rfl rfl rfl hv_X6_get ⟨Nat.le_of_ble_eq_true rfl, Nat.le_of_ble_eq_true rfl⟩) (g5_preV hPc hK hDc hN hT hS hFc (ci := 6) (q0 := 0) rfl rfl) rfl rfl hl.1 rfl (lv_room (Nat.le_of_ble_eq_true rfl)) dX7_load_119 ⟨Nat.le_of_ble_eq_true rfl, Nat.le_of_ble_eq_true rfl⟩) hS (fun q _ h => hFc q h) hFc (fun r u t H locs ht hvm hw hB hz1 hk1 hS => ?_)
        obtain ⟨hP1, hD1⟩ := hB
        have hP1 := g5_ht ht hP1
        obtain ⟨z36, (i_35 : z36 = tget f_s e_s.toInt 4 k_i.toInt (3 : Int32).toInt), y37, rfl⟩ := hw
        have hJ9 := va_join (wr := [(a_th, (oc7 a_h a_k a_ba a_ad e_fu a_cn a_nx a_hp a_hl a_lv)), (a_ba, (arJ G 24 k_ba)), (a_ad, (arI G 1536 k_ad)), (a_k, (oc5 a_h a_j a_pt z22 z23 z24 z25 z26 z27 z28 z29 z30 z31)), (a_h, (oc1 e_wa e_le e_st e_fo e_lc a_l a_g a_b a_s a_p a_w e_gb a_bb)), (a_g, (oc6 6 5 a_gn e_g)), (a_gn, (arI G 30 f_g)), (a_b, (oc6 5 24 a_bn e_b)), (a_bn, (arI G 120 f_b)), (a_p, (oc6 8 5 a_pn e_p)), (a_pn, (arI G 40 f_p)), (a_bb, (arJ G 24 f_bb)), (a_j, (oc2 a_as a_sk)), (a_as, (arI G 8 z33)), (a_sk, (arJ G 50 z34)), (a_l, (arW G 6 f_l)), (a_lo, (oc3 e_cl a_hd a_sr a_cd)), (a_sr, (arI G n_sr f_sr)), (a_cd, (arI G n_cd f_cd)), (a_hd, (arI G n_hd f_hd)), (a_pt, (arI G 200 z32))]) hP hD [3, 4] [0, 1, 2, 5, 6, 7, 8, 9, 10, 11, 12, 13, 14, 15, 16, 17, 18, 19, 20, 21, 22] rfl rfl (by decide +kernel) (by decide +kernel) hk1 hFc hP1 hD1
        clear hP hD hPc hDc hFc ht hvm hz1 hk1 hP1 hD1
        obtain ⟨hP, hD⟩ := hJ9
        refine g5_rs [(a_th, (oc7 a_h a_k a_ba a_ad e_fu a_cn a_nx a_hp a_hl a_lv)), (a_ba, (arJ G 24 k_ba)), (a_ad, (arI G 1536 k_ad)), (a_k, (oc5 a_h a_j a_pt z22 z23 z24 z25 z26 z27 z28 z29 z30 z31)), (a_h, (oc1 e_wa e_le e_st e_fo e_lc a_l a_g a_b a_s a_p a_w e_gb a_bb)), (a_g, (oc6 6 5 a_gn e_g)), (a_gn, (arI G 30 f_g)), (a_b, (oc6 5 24 a_bn e_b)), (a_bn, (arI G 120 f_b)), (a_p, (oc6 8 5 a_pn e_p)), (a_pn, (arI G 40 f_p)), (a_bb, (arJ G 24 f_bb)), (a_j, (oc2 a_as a_sk)), (a_as, (arI G 8 z33)), (a_sk, (arJ G 50 z34)), (a_l, (arW G 6 f_l)), (a_lo, (oc3 e_cl a_hd a_sr a_cd)), (a_sr, (arI G n_sr f_sr)), (a_cd, (arI G n_cd f_cd)), (a_hd, (arI G n_hd f_hd)), (a_pt, (arI G 200 z32)), (a_s, (oc6 10 4 a_sn e_s)), (a_sn, (arI G 40 f_s))] hP hD ?_
        clear hP hD
        intro hP hD
        refine g5_ti (v := z36) y37 ?_
        refine lv_iconst (v := 1) hx hb dX7_load_122 (by decide +kernel) ?_
        refine lv_icmp_ne (tgt := 138) hx hb dX7_load_123 (by decide +kernel) (fun c_38 => ?_) (fun c_38 => ?_)
        ·
          have n_38 : gNe (z36.toInt) (1) := g5_ne (a := z36.toInt) (b := 1) rfl (by decide +kernel) c_38
          refine lv_aload_n hx hb dX7_load_138 rfl (lv_at hl 3 rfl) ?_
          obtain ⟨hPc, hDc, hFc⟩ := g5_sub3 (wc := [(a_th, (oc7 a_h a_k a_ba a_ad e_fu a_cn a_nx a_hp a_hl a_lv)), (a_k, (oc5 a_h a_j a_pt z22 z23 z24 z25 z26 z27 z28 z29 z30 z31)), (a_pt, (arI G 200 z32)), (a_ba, (arJ G 24 k_ba))]) hP hD hS hA [0, 3, 20, 1] (by decide +kernel) rfl
          refine va_callv (va_runV (As := []) (rest := []) ⟨hx, hb, hml, hown, hts⟩ (th_bar l G a_th a_k a_pt a_ba a_h a_ad a_cn a_nx a_hp a_hl a_lv a_j H.size e_fu z22 z23 z24 z25 z26 z27 z28 z29 z30 z31 z32 k_ba i_19 i_20 (i_21)) (cwV 0 hts gV_X7_86 rfl rfl rfl hv_X7_barPoints ⟨Nat.le_of_ble_eq_true rfl, Nat.le_of_ble_eq_true rfl⟩) (g5_preV hPc hK hDc hN hT hS hFc (ci := 7) (q0 := 0) rfl rfl) rfl rfl hl.1 rfl (lv_room (Nat.le_of_ble_eq_true rfl)) dX7_load_139 ⟨Nat.le_of_ble_eq_true rfl, Nat.le_of_ble_eq_true rfl⟩) hS (fun q _ h => hFc q h) hFc (fun u t H locs ht hvm hw hB hz1 hk1 hS => ?_)
          obtain ⟨hP1, hD1⟩ := hB
          have hP1 := g5_ht ht hP1
          obtain ⟨z39, rfl⟩ := hw
          have hJ9 := va_join (wr := [(a_ad, (arI G 1536 k_ad)), (a_h, (oc1 e_wa e_le e_st e_fo e_lc a_l a_g a_b a_s a_p a_w e_gb a_bb)), (a_g, (oc6 6 5 a_gn e_g)), (a_gn, (arI G 30 f_g)), (a_b, (oc6 5 24 a_bn e_b)), (a_bn, (arI G 120 f_b)), (a_p, (oc6 8 5 a_pn e_p)), (a_pn, (arI G 40 f_p)), (a_bb, (arJ G 24 f_bb)), (a_j, (oc2 a_as a_sk)), (a_as, (arI G 8 z33)), (a_sk, (arJ G 50 z34)), (a_l, (arW G 6 f_l)), (a_lo, (oc3 e_cl a_hd a_sr a_cd)), (a_sr, (arI G n_sr f_sr)), (a_cd, (arI G n_cd f_cd)), (a_hd, (arI G n_hd f_hd)), (a_s, (oc6 10 4 a_sn e_s)), (a_sn, (arI G 40 f_s))]) hP hD [0, 3, 20, 1] [2, 4, 5, 6, 7, 8, 9, 10, 11, 12, 13, 14, 15, 16, 17, 18, 19, 21, 22] rfl rfl (by decide +kernel) (by decide +kernel) hk1 hFc hP1 hD1
          clear hP hD hPc hDc hFc ht hvm hz1 hk1 hP1 hD1
          obtain ⟨hP, hD⟩ := hJ9
          refine g5_rs [(a_ad, (arI G 1536 k_ad)), (a_h, (oc1 e_wa e_le e_st e_fo e_lc a_l a_g a_b a_s a_p a_w e_gb a_bb)), (a_g, (oc6 6 5 a_gn e_g)), (a_gn, (arI G 30 f_g)), (a_b, (oc6 5 24 a_bn e_b)), (a_bn, (arI G 120 f_b)), (a_p, (oc6 8 5 a_pn e_p)), (a_pn, (arI G 40 f_p)), (a_bb, (arJ G 24 f_bb)), (a_j, (oc2 a_as a_sk)), (a_as, (arI G 8 z33)), (a_sk, (arJ G 50 z34)), (a_l, (arW G 6 f_l)), (a_lo, (oc3 e_cl a_hd a_sr a_cd)), (a_sr, (arI G n_sr f_sr)), (a_cd, (arI G n_cd f_cd)), (a_hd, (arI G n_hd f_hd)), (a_s, (oc6 10 4 a_sn e_s)), (a_sn, (arI G 40 f_s)), (a_th, (oc7 a_h a_k a_ba a_ad e_fu a_cn a_nx a_hp a_hl a_lv)), (a_k, (oc5 a_h a_j a_pt z22 z23 z24 z25 z26 z27 z28 z29 z30 z31)), (a_pt, (arI G 200 z32)), (a_ba, (arJ G 24 z39))] hP hD ?_
          clear hP hD
          intro hP hD
          refine lv_iinc (v := (k_i + 1)) (lv' := [(4, .int (k_i + 1)), (2, .int k_b), (3, .ref a_s), (0, .ref a_th), (1, .int p_s)]) hx hb dX7_load_142 hl (k := 1) rfl rfl (by decide +kernel) rfl ?_
          clear hl
          intro ls hl
          have t_40 : (k_i + 1).toInt = k_i.toInt + 1 := g5_iadd (a := k_i.toInt) (b := 1) rfl (by decide +kernel) (by omega) (by omega)
          refine lv_goto (tgt := 68) hx hb dX7_load_145 (by decide +kernel) ?_
          exact ih_68_6 (k_b, (k_i + 1), z23, z24, z25, z26, z27, z28, z29, z30, z31, z32, z33, z34, z22, z39, k_ad) ls H locs (show Int.toNat (10 - (k_i + 1).toInt) < Int.toNat (10 - k_i.toInt) from g_up (show k_i.toInt < (k_i + 1).toInt by omega) (show k_i.toInt < 10 by omega)) ⟨lv_sub hl [1, 0, 2, 3, 4] rfl, hP.sub [20, 1, 2, 3, 4, 5, 6, 7, 17, 18, 8, 9, 10, 11, 12, 13, 14, 15, 16, 21, 19, 22, 0] rfl, hD.sub [20, 1, 2, 3, 4, 5, 6, 7, 17, 18, 8, 9, 10, 11, 12, 13, 14, 15, 16, 21, 19, 22, 0] (by decide +kernel) rfl, hS, ⟨by omega, by omega⟩, i_20, by omega, ld_stay i_5 e_sh (by omega) (by omega) (by omega)⟩
        ·
          have i_38 : z36.toInt = 1 := g5_neN (a := z36.toInt) (b := 1) rfl (by decide +kernel) c_38
          obtain ⟨gs_41, hg1_41, hg2_41, hg3_41⟩ := id i_5
          have hg4_41 : gs_41 < 5 := ld_lt hg1_41 e_sh e_s5 i_35 (by omega) (by omega) (by omega)
          have hg5_41 : mOK k_ad (gs_41 + 1) := mOK_up hg3_41
          refine lv_aload_n hx hb dX7_load_126 rfl (lv_at hl 3 rfl) ?_
          refine lv_iload_n hx hb dX7_load_127 rfl (lv_at hl 0 rfl) ?_
          obtain ⟨hPc, hDc, hFc⟩ := g5_sub3 (wc := [(a_th, (oc7 a_h a_k a_ba a_ad e_fu a_cn a_nx a_hp a_hl a_lv)), (a_k, (oc5 a_h a_j a_pt z22 z23 z24 z25 z26 z27 z28 z29 z30 z31)), (a_pt, (arI G 200 z32)), (a_ad, (arI G 1536 k_ad))]) hP hD hS hA [0, 3, 20, 2] (by decide +kernel) rfl
          refine va_callv (va_runV (As := [.int k_b]) (rest := []) ⟨hx, hb, hml, hown, hts⟩ (th_add l G a_th a_k a_pt a_ad a_h a_ba a_cn a_nx a_hp a_hl a_lv a_j H.size e_fu z22 z23 z24 z25 z26 z27 z28 z29 z30 z31 k_b z32 k_ad gs_41 i_19 i_20 (i_21) (hg4_41) (hg2_41) (hg5_41)) (cwV 1 hts gV_X7_82 rfl rfl rfl hv_X7_addPoints ⟨Nat.le_of_ble_eq_true rfl, Nat.le_of_ble_eq_true rfl⟩) (g5_preV hPc hK hDc hN hT hS hFc (ci := 7) (q0 := 0) rfl rfl) rfl rfl hl.1 rfl (lv_room (Nat.le_of_ble_eq_true rfl)) dX7_load_128 ⟨Nat.le_of_ble_eq_true rfl, Nat.le_of_ble_eq_true rfl⟩) hS (fun q _ h => hFc q h) hFc (fun u t H locs ht hvm hw hB hz1 hk1 hS => ?_)
          obtain ⟨hP1, hD1⟩ := hB
          have hP1 := g5_ht ht hP1
          obtain ⟨z43, (i_42 : mOK z43 (gs_41 + 1)), rfl⟩ := hw
          have hJ9 := va_join (wr := [(a_ba, (arJ G 24 k_ba)), (a_h, (oc1 e_wa e_le e_st e_fo e_lc a_l a_g a_b a_s a_p a_w e_gb a_bb)), (a_g, (oc6 6 5 a_gn e_g)), (a_gn, (arI G 30 f_g)), (a_b, (oc6 5 24 a_bn e_b)), (a_bn, (arI G 120 f_b)), (a_p, (oc6 8 5 a_pn e_p)), (a_pn, (arI G 40 f_p)), (a_bb, (arJ G 24 f_bb)), (a_j, (oc2 a_as a_sk)), (a_as, (arI G 8 z33)), (a_sk, (arJ G 50 z34)), (a_l, (arW G 6 f_l)), (a_lo, (oc3 e_cl a_hd a_sr a_cd)), (a_sr, (arI G n_sr f_sr)), (a_cd, (arI G n_cd f_cd)), (a_hd, (arI G n_hd f_hd)), (a_s, (oc6 10 4 a_sn e_s)), (a_sn, (arI G 40 f_s))]) hP hD [0, 3, 20, 2] [1, 4, 5, 6, 7, 8, 9, 10, 11, 12, 13, 14, 15, 16, 17, 18, 19, 21, 22] rfl rfl (by decide +kernel) (by decide +kernel) hk1 hFc hP1 hD1
          clear hP hD hPc hDc hFc ht hvm hz1 hk1 hP1 hD1
          obtain ⟨hP, hD⟩ := hJ9
          refine g5_rs [(a_ba, (arJ G 24 k_ba)), (a_h, (oc1 e_wa e_le e_st e_fo e_lc a_l a_g a_b a_s a_p a_w e_gb a_bb)), (a_g, (oc6 6 5 a_gn e_g)), (a_gn, (arI G 30 f_g)), (a_b, (oc6 5 24 a_bn e_b)), (a_bn, (arI G 120 f_b)), (a_p, (oc6 8 5 a_pn e_p)), (a_pn, (arI G 40 f_p)), (a_bb, (arJ G 24 f_bb)), (a_j, (oc2 a_as a_sk)), (a_as, (arI G 8 z33)), (a_sk, (arJ G 50 z34)), (a_l, (arW G 6 f_l)), (a_lo, (oc3 e_cl a_hd a_sr a_cd)), (a_sr, (arI G n_sr f_sr)), (a_cd, (arI G n_cd f_cd)), (a_hd, (arI G n_hd f_hd)), (a_s, (oc6 10 4 a_sn e_s)), (a_sn, (arI G 40 f_s)), (a_th, (oc7 a_h a_k a_ba a_ad e_fu a_cn a_nx a_hp a_hl a_lv)), (a_k, (oc5 a_h a_j a_pt z22 z23 z24 z25 z26 z27 z28 z29 z30 z31)), (a_pt, (arI G 200 z32)), (a_ad, (arI G 1536 z43))] hP hD ?_
          clear hP hD
          intro hP hD
          refine lv_iload_n hx hb dX7_load_131 rfl (lv_at hl 0 rfl) ?_
          refine W.eq (g2 := F0 m 132 ls [.int k_b]) rfl ?_
          refine lv_iconst (v := 1) hx hb dX7_load_132 (by decide +kernel) ?_
          refine lv_ishl hx hb dX7_load_133 ?_
          refine lv_istore_n (lv' := [(2, .int (k_b <<< (1 &&& 31))), (4, .int k_i), (3, .ref a_s), (0, .ref a_th), (1, .int p_s)]) hx hb dX7_load_134 rfl hl (by decide +kernel) rfl ?_
          clear hl
          intro ls hl
          refine lv_goto (tgt := 142) hx hb dX7_load_135 (by decide +kernel) ?_
          refine lv_iinc (v := (k_i + 1)) (lv' := [(4, .int (k_i + 1)), (2, .int (k_b <<< (1 &&& 31))), (3, .ref a_s), (0, .ref a_th), (1, .int p_s)]) hx hb dX7_load_142 hl (k := 1) rfl rfl (by decide +kernel) rfl ?_
          clear hl
          intro ls hl
          have t_44 : (k_i + 1).toInt = k_i.toInt + 1 := g5_iadd (a := k_i.toInt) (b := 1) rfl (by decide +kernel) (by omega) (by omega)
          refine W.eq (g2 := F0 m 145 ls []) rfl ?_
          refine lv_goto (tgt := 68) hx hb dX7_load_145 (by decide +kernel) ?_
          exact ih_68_6 ((k_b <<< (1 &&& 31)), (k_i + 1), z23, z24, z25, z26, z27, z28, z29, z30, z31, z32, z33, z34, z22, k_ba, z43) ls H locs (show Int.toNat (10 - (k_i + 1).toInt) < Int.toNat (10 - k_i.toInt) from g_up (show k_i.toInt < (k_i + 1).toInt by omega) (show k_i.toInt < 10 by omega)) ⟨lv_sub hl [1, 0, 2, 3, 4] rfl, hP.sub [20, 1, 2, 3, 4, 5, 6, 7, 17, 18, 8, 9, 10, 11, 12, 13, 14, 15, 16, 21, 19, 0, 22] rfl, hD.sub [20, 1, 2, 3, 4, 5, 6, 7, 17, 18, 8, 9, 10, 11, 12, 13, 14, 15, 16, 21, 19, 0, 22] (by decide +kernel) rfl, hS, ⟨by omega, by omega⟩, i_20, by omega, ld_go hg1_41 hg2_41 hg4_41 i_42 i_35 (by omega) (by omega) (by omega)⟩
  ·
    have n_1 : gNe (e_st.toInt) ((-1)) := g5_eqN (a := e_st.toInt) (b := (-1)) rfl (by decide +kernel) c_1
    refine lv_aload_n hx hb dX7_load_33 rfl (lv_at hl 0 rfl) ?_
    refine va_get (D := G.1) (ci := 7) (v := .ref a_ba) (C := RX7) (T := TX7) (N := 10) hx hb hts inG_X7 hown hK hP 20 rfl rfl 2 (by decide +kernel) (hts _ fl_X7_9) (fun _ h9 => h9) rfl dX7_load_34 ?_
    refine lv_iconst (v := 0) hx hb dX7_load_37 (by decide +kernel) ?_
    refine lv_dup2_11 hx hb dX7_load_38 rfl rfl ?_
    refine W.eq (g2 := F0 m 39 ls [.int 0, .ref a_ba, .int 0, .ref a_ba]) rfl ?_
    refine va_lald hx hb hK hP 21 1 rfl rfl (i := 0) (by unfold vp_in; decide) dX7_load_39 ?_
    refine g5_tl (v := ((fun _ => e_wa) 0)) rfl ?_
    refine lv_lconst (v := 1) hx hb dX7_load_40 (by decide +kernel) ?_
    refine lv_aload_n hx hb dX7_load_41 rfl (lv_at hl 0 rfl) ?_
    refine va_get (D := G.1) (ci := 7) (v := .ref a_h) (C := RX7) (T := TX7) (N := 10) hx hb hts inG_X7 hown hK hP 20 rfl rfl 0 (by decide +kernel) (hts _ fl_X7_34) (fun _ h9 => h9) rfl dX7_load_42 ?_
    refine va_get (D := G.1) (ci := 1) (v := .int e_st) (C := RX1) (T := TX1) (N := 13) hx hb hts inG_X1 hown hK hP 1 rfl rfl 2 (by decide +kernel) (hts _ fl_X7_67) (fun _ h9 => h9) rfl dX7_load_45 ?_
    refine W.eq (g2 := F0 m 48 ls [.int e_st, .long 1, .long ((fun _ => e_wa) 0), .int 0, .ref a_ba]) rfl ?_
    refine lv_lshl (v := ((1 : Int64) <<< (e_st.toInt64 &&& 63))) hx hb dX7_load_48 rfl ?_
    refine lv_ldc2 (v := (-1)) hx hb hown (hts _ kl_X7_70) dX7_load_49 ?_
    refine lv_lxor hx hb dX7_load_52 ?_
    refine lv_lor hx hb dX7_load_53 ?_
    refine va_last hx hb hK hP hD hS 21 1 rfl rfl (i := 0) (x := (((fun _ => e_wa) 0) ||| (((1 : Int64) <<< (e_st.toInt64 &&& 63)) ^^^ (-1)))) (by unfold vp_in; decide) dX7_load_54 ?_
    clear hP hD hS
    intro H locs hP hD hS
    refine g5_rs [(a_k, (oc5 a_h a_j a_pt e_ln e_se e_lh e_br e_we e_me e_ce e_wy e_ho e_ov)), (a_h, (oc1 e_wa e_le e_st e_fo e_lc a_l a_g a_b a_s a_p a_w e_gb a_bb)), (a_g, (oc6 6 5 a_gn e_g)), (a_gn, (arI G 30 f_g)), (a_b, (oc6 5 24 a_bn e_b)), (a_bn, (arI G 120 f_b)), (a_p, (oc6 8 5 a_pn e_p)), (a_pn, (arI G 40 f_p)), (a_s, (oc6 10 4 a_sn e_s)), (a_sn, (arI G 40 f_s)), (a_bb, (arJ G 24 f_bb)), (a_j, (oc2 a_as a_sk)), (a_as, (arI G 8 f_as)), (a_sk, (arJ G 50 f_sk)), (a_l, (arW G 6 f_l)), (a_lo, (oc3 e_cl a_hd a_sr a_cd)), (a_sr, (arI G n_sr f_sr)), (a_cd, (arI G n_cd f_cd)), (a_hd, (arI G n_hd f_hd)), (a_pt, (arI G 200 f_pt)), (a_th, (oc7 a_h a_k a_ba a_ad e_fu a_cn a_nx a_hp a_hl a_lv)), (a_ba, (arJ G 24 (vp_updL (fun _ => e_wa) 0 (((fun _ => e_wa) 0) ||| (((1 : Int64) <<< (e_st.toInt64 &&& 63)) ^^^ (-1)))))), (a_ad, (arI G 1536 (fun _ => (0 : Int32))))] hP hD ?_
    clear hP hD
    intro hP hD
    refine W.eq (g2 := F0 m 55 ls []) rfl ?_
    refine lv_iconst (v := 1) hx hb dX7_load_55 (by decide +kernel) ?_
    refine lv_istore_n (lv' := [(2, .int 1), (0, .ref a_th), (1, .int p_s)]) hx hb dX7_load_56 rfl hl (by decide +kernel) rfl ?_
    clear hl
    intro ls hl
    refine lv_aload_n hx hb dX7_load_57 rfl (lv_at hl 1 rfl) ?_
    refine va_get (D := G.1) (ci := 7) (v := .ref a_h) (C := RX7) (T := TX7) (N := 10) hx hb hts inG_X7 hown hK hP 20 rfl rfl 0 (by decide +kernel) (hts _ fl_X7_34) (fun _ h9 => h9) rfl dX7_load_58 ?_
    refine va_get (D := G.1) (ci := 1) (v := .ref a_s) (C := RX1) (T := TX1) (N := 13) hx hb hts inG_X1 hown hK hP 1 rfl rfl 8 (by decide +kernel) (hts _ fl_X7_42) (fun _ h9 => h9) rfl dX7_load_61 ?_
    refine W.eq (g2 := F0 m 64 ls [.ref a_s]) rfl ?_
    refine lv_astore_n (lv' := [(3, .ref a_s), (2, .int 1), (0, .ref a_th), (1, .int p_s)]) hx hb dX7_load_64 rfl hl (by decide +kernel) rfl ?_
    clear hl
    intro ls hl
    refine lv_iconst (v := 0) hx hb dX7_load_65 (by decide +kernel) ?_
    refine lv_istore (lv' := [(4, .int 0), (3, .ref a_s), (2, .int 1), (0, .ref a_th), (1, .int p_s)]) hx hb dX7_load_66 hl (by decide +kernel) rfl ?_
    clear hl
    intro ls hl
    refine g5_loop (α := (Int32) × (Int32) × (Int32) × (Int32) × (Int32) × (Int32) × (Int32) × (Int32) × (Int32) × (Int32) × (Int32) × (Nat → Int32) × (Nat → Int32) × (Nat → Int64) × (Int32) × (Nat → Int64) × (Nat → Int32)) (fun (q : (Int32) × (Int32) × (Int32) × (Int32) × (Int32) × (Int32) × (Int32) × (Int32) × (Int32) × (Int32) × (Int32) × (Nat → Int32) × (Nat → Int32) × (Nat → Int64) × (Int32) × (Nat → Int64) × (Nat → Int32)) (ls : Array Slot) (H : Heap) (locs : List Loc) => match q with | (k_b, k_i, k_se, k_lh, k_br, k_we, k_me, k_ce, k_wy, k_ho, k_ov, k_pt, k_as, k_sk, k_ln, k_ba, k_ad) => lv_has ls 5 [(2, .int k_b), (4, .int k_i), (3, .ref a_s), (0, .ref a_th), (1, .int p_s)] ∧ va_P G.1 vwCl [(a_k, (oc5 a_h a_j a_pt k_ln k_se k_lh k_br k_we k_me k_ce k_wy k_ho k_ov)), (a_h, (oc1 e_wa e_le e_st e_fo e_lc a_l a_g a_b a_s a_p a_w e_gb a_bb)), (a_g, (oc6 6 5 a_gn e_g)), (a_gn, (arI G 30 f_g)), (a_b, (oc6 5 24 a_bn e_b)), (a_bn, (arI G 120 f_b)), (a_p, (oc6 8 5 a_pn e_p)), (a_pn, (arI G 40 f_p)), (a_s, (oc6 10 4 a_sn e_s)), (a_sn, (arI G 40 f_s)), (a_bb, (arJ G 24 f_bb)), (a_j, (oc2 a_as a_sk)), (a_as, (arI G 8 k_as)), (a_sk, (arJ G 50 k_sk)), (a_l, (arW G 6 f_l)), (a_lo, (oc3 e_cl a_hd a_sr a_cd)), (a_sr, (arI G n_sr f_sr)), (a_cd, (arI G n_cd f_cd)), (a_hd, (arI G n_hd f_hd)), (a_pt, (arI G 200 k_pt)), (a_th, (oc7 a_h a_k a_ba a_ad e_fu a_cn a_nx a_hp a_hl a_lv)), (a_ba, (arJ G 24 k_ba)), (a_ad, (arI G 1536 k_ad))] H ∧ va_D A [(a_k, (oc5 a_h a_j a_pt k_ln k_se k_lh k_br k_we k_me k_ce k_wy k_ho k_ov)), (a_h, (oc1 e_wa e_le e_st e_fo e_lc a_l a_g a_b a_s a_p a_w e_gb a_bb)), (a_g, (oc6 6 5 a_gn e_g)), (a_gn, (arI G 30 f_g)), (a_b, (oc6 5 24 a_bn e_b)), (a_bn, (arI G 120 f_b)), (a_p, (oc6 8 5 a_pn e_p)), (a_pn, (arI G 40 f_p)), (a_s, (oc6 10 4 a_sn e_s)), (a_sn, (arI G 40 f_s)), (a_bb, (arJ G 24 f_bb)), (a_j, (oc2 a_as a_sk)), (a_as, (arI G 8 k_as)), (a_sk, (arJ G 50 k_sk)), (a_l, (arW G 6 f_l)), (a_lo, (oc3 e_cl a_hd a_sr a_cd)), (a_sr, (arI G n_sr f_sr)), (a_cd, (arI G n_cd f_cd)), (a_hd, (arI G n_hd f_hd)), (a_pt, (arI G 200 k_pt)), (a_th, (oc7 a_h a_k a_ba a_ad e_fu a_cn a_nx a_hp a_hl a_lv)), (a_ba, (arJ G 24 k_ba)), (a_ad, (arI G 1536 k_ad))] ∧ va_S A s.heap H locs ∧ (0 ≤ k_i.toInt ∧ k_i.toInt ≤ 10) ∧ (0 ≤ k_ov.toInt ∧ k_ov.toInt ≤ 1) ∧ (k_i.toInt ≤ e_s.toInt) ∧ (LDI f_s e_s.toInt k_i.toInt k_b k_ad)) (fun (q : (Int32) × (Int32) × (Int32) × (Int32) × (Int32) × (Int32) × (Int32) × (Int32) × (Int32) × (Int32) × (Int32) × (Nat → Int32) × (Nat → Int32) × (Nat → Int64) × (Int32) × (Nat → Int64) × (Nat → Int32)) => match q with | (k_b, k_i, k_se, k_lh, k_br, k_we, k_me, k_ce, k_wy, k_ho, k_ov, k_pt, k_as, k_sk, k_ln, k_ba, k_ad) => Int.toNat (10 - k_i.toInt)) (1, 0, e_se, e_lh, e_br, e_we, e_me, e_ce, e_wy, e_ho, e_ov, f_pt, f_as, f_sk, e_ln, (vp_updL (fun _ => e_wa) 0 (((fun _ => e_wa) 0) ||| (((1 : Int64) <<< (e_st.toInt64 &&& 63)) ^^^ (-1)))), (fun _ => (0 : Int32))) ⟨lv_sub hl [2, 0, 1, 3, 4] rfl, hP, hD, hS, ⟨by decide, by decide⟩, h_e_ov, by have z0 : (0 : Int32).toInt = 0 := (by decide +kernel); omega, ld_0⟩ ?_
    rintro ⟨k_b, k_i, k_se, k_lh, k_br, k_we, k_me, k_ce, k_wy, k_ho, k_ov, k_pt, k_as, k_sk, k_ln, k_ba, k_ad⟩ ls H locs ⟨hl, hP, hD, hS, (i_45 : 0 ≤ k_i.toInt ∧ k_i.toInt ≤ 10), (i_46 : 0 ≤ k_ov.toInt ∧ k_ov.toInt ≤ 1), (i_47 : k_i.toInt ≤ e_s.toInt), (i_48 : LDI f_s e_s.toInt k_i.toInt k_b k_ad)⟩ ih_68_49
    replace hl : lv_has ls 5 [(2, .int k_b), (4, .int k_i), (3, .ref a_s), (0, .ref a_th), (1, .int p_s)] := hl
    refine g5_rs [(a_k, (oc5 a_h a_j a_pt k_ln k_se k_lh k_br k_we k_me k_ce k_wy k_ho k_ov)), (a_h, (oc1 e_wa e_le e_st e_fo e_lc a_l a_g a_b a_s a_p a_w e_gb a_bb)), (a_g, (oc6 6 5 a_gn e_g)), (a_gn, (arI G 30 f_g)), (a_b, (oc6 5 24 a_bn e_b)), (a_bn, (arI G 120 f_b)), (a_p, (oc6 8 5 a_pn e_p)), (a_pn, (arI G 40 f_p)), (a_s, (oc6 10 4 a_sn e_s)), (a_sn, (arI G 40 f_s)), (a_bb, (arJ G 24 f_bb)), (a_j, (oc2 a_as a_sk)), (a_as, (arI G 8 k_as)), (a_sk, (arJ G 50 k_sk)), (a_l, (arW G 6 f_l)), (a_lo, (oc3 e_cl a_hd a_sr a_cd)), (a_sr, (arI G n_sr f_sr)), (a_cd, (arI G n_cd f_cd)), (a_hd, (arI G n_hd f_hd)), (a_pt, (arI G 200 k_pt)), (a_th, (oc7 a_h a_k a_ba a_ad e_fu a_cn a_nx a_hp a_hl a_lv)), (a_ba, (arJ G 24 k_ba)), (a_ad, (arI G 1536 k_ad))] hP hD ?_
    clear hP hD
    intro hP hD
    refine lv_iload hx hb dX7_load_68 (lv_at hl 1 rfl) ?_
    refine lv_aload_n hx hb dX7_load_70 rfl (lv_at hl 2 rfl) ?_
    refine va_get (D := G.1) (ci := 6) (v := .int e_s) (C := RX6) (T := TX6) (N := 4) hx hb hts inG_X6 hown hK hP 8 rfl rfl 3 (by decide +kernel) (hts _ fl_X7_48) (fun _ h9 => h9) rfl dX7_load_71 ?_
    refine lv_icmp_ge (tgt := 148) hx hb dX7_load_74 (by decide +kernel) (fun c_50 => ?_) (fun c_50 => ?_)
    ·
      have i_50 : k_i.toInt ≥ e_s.toInt := g5_ge (a := k_i.toInt) (b := e_s.toInt) rfl rfl c_50
      refine lv_aload_n hx hb dX7_load_148 rfl (lv_at hl 3 rfl) ?_
      refine lv_iload_n hx hb dX7_load_149 rfl (lv_at hl 0 rfl) ?_
      refine lv_iconst (v := 1) hx hb dX7_load_150 (by decide +kernel) ?_
      refine lv_isub hx hb dX7_load_151 ?_
      refine W.eq (g2 := F0 m 152 ls [.int (k_b - 1), .ref a_th]) rfl ?_
      refine va_put (D := G.1) (ci := 7) (v := .int (k_b - 1)) (ty := .int) (C := RX7) (T := TX7) (N := 10) hx hb hts inG_X7 tyX7 tyX7_ok nmX7 hown hK hP hD hS 20 rfl rfl 4 (by decide +kernel) (hts _ fl_X7_89) (fun _ h9 => h9) rfl (by decide +kernel) rfl rfl (Nat.le_of_ble_eq_true rfl) dX7_load_152 ?_
      clear hP hD hS
      intro H locs hP hD hS
      refine g5_rs [(a_k, (oc5 a_h a_j a_pt k_ln k_se k_lh k_br k_we k_me k_ce k_wy k_ho k_ov)), (a_h, (oc1 e_wa e_le e_st e_fo e_lc a_l a_g a_b a_s a_p a_w e_gb a_bb)), (a_g, (oc6 6 5 a_gn e_g)), (a_gn, (arI G 30 f_g)), (a_b, (oc6 5 24 a_bn e_b)), (a_bn, (arI G 120 f_b)), (a_p, (oc6 8 5 a_pn e_p)), (a_pn, (arI G 40 f_p)), (a_s, (oc6 10 4 a_sn e_s)), (a_sn, (arI G 40 f_s)), (a_bb, (arJ G 24 f_bb)), (a_j, (oc2 a_as a_sk)), (a_as, (arI G 8 k_as)), (a_sk, (arJ G 50 k_sk)), (a_l, (arW G 6 f_l)), (a_lo, (oc3 e_cl a_hd a_sr a_cd)), (a_sr, (arI G n_sr f_sr)), (a_cd, (arI G n_cd f_cd)), (a_hd, (arI G n_hd f_hd)), (a_pt, (arI G 200 k_pt)), (a_th, (oc7 a_h a_k a_ba a_ad (k_b - 1) a_cn a_nx a_hp a_hl a_lv)), (a_ba, (arJ G 24 k_ba)), (a_ad, (arI G 1536 k_ad))] hP hD ?_
      clear hP hD
      intro hP hD
      exact W.vret hx hb hr (fun t ht hW => ⟨⟨[(a_k, (oc5 a_h a_j a_pt k_ln k_se k_lh k_br k_we k_me k_ce k_wy k_ho k_ov)), (a_h, (oc1 e_wa e_le e_st e_fo e_lc a_l a_g a_b a_s a_p a_w e_gb a_bb)), (a_g, (oc6 6 5 a_gn e_g)), (a_gn, (arI G 30 f_g)), (a_b, (oc6 5 24 a_bn e_b)), (a_bn, (arI G 120 f_b)), (a_p, (oc6 8 5 a_pn e_p)), (a_pn, (arI G 40 f_p)), (a_s, (oc6 10 4 a_sn e_s)), (a_sn, (arI G 40 f_s)), (a_bb, (arJ G 24 f_bb)), (a_j, (oc2 a_as a_sk)), (a_as, (arI G 8 k_as)), (a_sk, (arJ G 50 k_sk)), (a_l, (arW G 6 f_l)), (a_lo, (oc3 e_cl a_hd a_sr a_cd)), (a_sr, (arI G n_sr f_sr)), (a_cd, (arI G n_cd f_cd)), (a_hd, (arI G n_hd f_hd)), (a_pt, (arI G 200 k_pt)), (a_th, (oc7 a_h a_k a_ba a_ad (k_b - 1) a_cn a_nx a_hp a_hl a_lv)), (a_ba, (arJ G 24 k_ba)), (a_ad, (arI G 1536 k_ad))], rfl, ⟨k_ln, k_se, k_lh, k_br, k_we, k_me, k_ce, k_wy, k_ho, k_ov, k_pt, k_as, k_sk, (k_b - 1), k_ba, k_ad, i_46, ld_end i_48 e_sh e_s5 (by omega) (by omega), rfl⟩, by rw [ht]; exact hP.sub [0, 1, 2, 3, 4, 5, 6, 7, 8, 9, 10, 11, 12, 13, 14, 15, 16, 17, 18, 19, 20, 21, 22] rfl, hD.sub [0, 1, 2, 3, 4, 5, 6, 7, 8, 9, 10, 11, 12, 13, 14, 15, 16, 17, 18, 19, 20, 21, 22] (by decide +kernel) rfl⟩, hS.F ht⟩) hS.2.2 dX7_load_155
    ·
      have i_50 : k_i.toInt < e_s.toInt := g5_geN (a := k_i.toInt) (b := e_s.toInt) rfl rfl c_50
      refine lv_iload_n hx hb dX7_load_77 rfl (lv_at hl 4 rfl) ?_
      refine lv_iload hx hb dX7_load_78 (lv_at hl 1 rfl) ?_
      refine lv_ishr hx hb dX7_load_80 ?_
      refine lv_iconst (v := 1) hx hb dX7_load_81 (by decide +kernel) ?_
      refine W.eq (g2 := F0 m 82 ls [.int 1, .int (p_s >>> (k_i &&& 31))]) rfl ?_
      refine lv_iand hx hb dX7_load_82 ?_
      refine lv_if_eq (tgt := 142) hx hb dX7_load_83 (by decide +kernel) (fun c_51 => ?_) (fun c_51 => ?_)
      ·
        have i_51 : ((p_s >>> (k_i &&& 31)) &&& 1).toInt = 0 := g5_eq (a := ((p_s >>> (k_i &&& 31)) &&& 1).toInt) (b := 0) rfl (by decide +kernel) c_51
        refine lv_iinc (v := (k_i + 1)) (lv' := [(4, .int (k_i + 1)), (2, .int k_b), (3, .ref a_s), (0, .ref a_th), (1, .int p_s)]) hx hb dX7_load_142 hl (k := 1) rfl rfl (by decide +kernel) rfl ?_
        clear hl
        intro ls hl
        have t_52 : (k_i + 1).toInt = k_i.toInt + 1 := g5_iadd (a := k_i.toInt) (b := 1) rfl (by decide +kernel) (by omega) (by omega)
        refine lv_goto (tgt := 68) hx hb dX7_load_145 (by decide +kernel) ?_
        exact ih_68_49 (k_b, (k_i + 1), k_se, k_lh, k_br, k_we, k_me, k_ce, k_wy, k_ho, k_ov, k_pt, k_as, k_sk, k_ln, k_ba, k_ad) ls H locs (show Int.toNat (10 - (k_i + 1).toInt) < Int.toNat (10 - k_i.toInt) from g_up (show k_i.toInt < (k_i + 1).toInt by omega) (show k_i.toInt < 10 by omega)) ⟨lv_sub hl [1, 0, 2, 3, 4] rfl, hP, hD, hS, ⟨by omega, by omega⟩, i_46, by omega, ld_stay i_48 e_sh (by omega) (by omega) (by omega)⟩
      ·
        have n_51 : gNe (((p_s >>> (k_i &&& 31)) &&& 1).toInt) (0) := g5_eqN (a := ((p_s >>> (k_i &&& 31)) &&& 1).toInt) (b := 0) rfl (by decide +kernel) c_51
        refine lv_aload_n hx hb dX7_load_86 rfl (lv_at hl 3 rfl) ?_
        refine va_get (D := G.1) (ci := 7) (v := .ref a_k) (C := RX7) (T := TX7) (N := 10) hx hb hts inG_X7 hown hK hP 20 rfl rfl 1 (by decide +kernel) (hts _ fl_X7_38) (fun _ h9 => h9) rfl dX7_load_87 ?_
        refine lv_aload_n hx hb dX7_load_90 rfl (lv_at hl 2 rfl) ?_
        refine lv_iload hx hb dX7_load_91 (lv_at hl 1 rfl) ?_
        refine W.eq (g2 := F0 m 93 ls [.int k_i, .ref a_s, .ref a_k]) rfl ?_
        refine lv_iconst (v := 0) hx hb dX7_load_93 (by decide +kernel) ?_
        obtain ⟨hPc, hDc, hFc⟩ := g5_sub3 (wc := [(a_s, (oc6 10 4 a_sn e_s)), (a_sn, (arI G 40 f_s))]) hP hD hS hA [8, 9] (by decide +kernel) rfl
        refine va_calli (va_runV (As := [.int k_i, .int 0]) (rest := [.ref a_k]) ⟨hx, hb, hml, hown, hts⟩ (t_get_S l G a_s a_sn H.size e_s k_i 0 f_s h_e_s) (cwV 2 hts gV_X7_72 rfl rfl rfl hv_X6_get ⟨Nat.le_of_ble_eq_true rfl, Nat.le_of_ble_eq_true rfl⟩) (g5_preV hPc hK hDc hN hT hS hFc (ci := 6) (q0 := 0) rfl rfl) rfl rfl hl.1 rfl (lv_room (Nat.le_of_ble_eq_true rfl)) dX7_load_94 ⟨Nat.le_of_ble_eq_true rfl, Nat.le_of_ble_eq_true rfl⟩) hS (fun q _ h => hFc q h) hFc (fun r u t H locs ht hvm hw hB hz1 hk1 hS => ?_)
        obtain ⟨hP1, hD1⟩ := hB
        have hP1 := g5_ht ht hP1
        obtain ⟨z54, (i_53 : z54 = tget f_s e_s.toInt 4 k_i.toInt (0 : Int32).toInt), y55, rfl⟩ := hw
        have hJ9 := va_join (wr := [(a_k, (oc5 a_h a_j a_pt k_ln k_se k_lh k_br k_we k_me k_ce k_wy k_ho k_ov)), (a_h, (oc1 e_wa e_le e_st e_fo e_lc a_l a_g a_b a_s a_p a_w e_gb a_bb)), (a_g, (oc6 6 5 a_gn e_g)), (a_gn, (arI G 30 f_g)), (a_b, (oc6 5 24 a_bn e_b)), (a_bn, (arI G 120 f_b)), (a_p, (oc6 8 5 a_pn e_p)), (a_pn, (arI G 40 f_p)), (a_bb, (arJ G 24 f_bb)), (a_j, (oc2 a_as a_sk)), (a_as, (arI G 8 k_as)), (a_sk, (arJ G 50 k_sk)), (a_l, (arW G 6 f_l)), (a_lo, (oc3 e_cl a_hd a_sr a_cd)), (a_sr, (arI G n_sr f_sr)), (a_cd, (arI G n_cd f_cd)), (a_hd, (arI G n_hd f_hd)), (a_pt, (arI G 200 k_pt)), (a_th, (oc7 a_h a_k a_ba a_ad e_fu a_cn a_nx a_hp a_hl a_lv)), (a_ba, (arJ G 24 k_ba)), (a_ad, (arI G 1536 k_ad))]) hP hD [8, 9] [0, 1, 2, 3, 4, 5, 6, 7, 10, 11, 12, 13, 14, 15, 16, 17, 18, 19, 20, 21, 22] rfl rfl (by decide +kernel) (by decide +kernel) hk1 hFc hP1 hD1
        clear hP hD hPc hDc hFc ht hvm hz1 hk1 hP1 hD1
        obtain ⟨hP, hD⟩ := hJ9
        refine g5_rs [(a_k, (oc5 a_h a_j a_pt k_ln k_se k_lh k_br k_we k_me k_ce k_wy k_ho k_ov)), (a_h, (oc1 e_wa e_le e_st e_fo e_lc a_l a_g a_b a_s a_p a_w e_gb a_bb)), (a_g, (oc6 6 5 a_gn e_g)), (a_gn, (arI G 30 f_g)), (a_b, (oc6 5 24 a_bn e_b)), (a_bn, (arI G 120 f_b)), (a_p, (oc6 8 5 a_pn e_p)), (a_pn, (arI G 40 f_p)), (a_bb, (arJ G 24 f_bb)), (a_j, (oc2 a_as a_sk)), (a_as, (arI G 8 k_as)), (a_sk, (arJ G 50 k_sk)), (a_l, (arW G 6 f_l)), (a_lo, (oc3 e_cl a_hd a_sr a_cd)), (a_sr, (arI G n_sr f_sr)), (a_cd, (arI G n_cd f_cd)), (a_hd, (arI G n_hd f_hd)), (a_pt, (arI G 200 k_pt)), (a_th, (oc7 a_h a_k a_ba a_ad e_fu a_cn a_nx a_hp a_hl a_lv)), (a_ba, (arJ G 24 k_ba)), (a_ad, (arI G 1536 k_ad)), (a_s, (oc6 10 4 a_sn e_s)), (a_sn, (arI G 40 f_s))] hP hD ?_
        clear hP hD
        intro hP hD
        refine g5_ti (v := z54) y55 ?_
        refine lv_aload_n hx hb dX7_load_97 rfl (lv_at hl 2 rfl) ?_
        refine lv_iload hx hb dX7_load_98 (lv_at hl 1 rfl) ?_
        refine lv_iconst (v := 1) hx hb dX7_load_100 (by decide +kernel) ?_
        refine W.eq (g2 := F0 m 101 ls [.int 1, .int k_i, .ref a_s, .int z54, .ref a_k]) rfl ?_
        obtain ⟨hPc, hDc, hFc⟩ := g5_sub3 (wc := [(a_s, (oc6 10 4 a_sn e_s)), (a_sn, (arI G 40 f_s))]) hP hD hS hA [21, 22] (by decide +kernel) rfl
        refine va_calli (va_runV (As := [.int k_i, .int 1]) (rest := [.int z54, .ref a_k]) ⟨hx, hb, hml, hown, hts⟩ (t_get_S l G a_s a_sn H.size e_s k_i 1 f_s h_e_s) (cwV 2 hts gV_X7_72 rfl rfl rfl hv_X6_get ⟨Nat.le_of_ble_eq_true rfl, Nat.le_of_ble_eq_true rfl⟩) (g5_preV hPc hK hDc hN hT hS hFc (ci := 6) (q0 := 0) rfl rfl) rfl rfl hl.1 rfl (lv_room (Nat.le_of_ble_eq_true rfl)) dX7_load_101 ⟨Nat.le_of_ble_eq_true rfl, Nat.le_of_ble_eq_true rfl⟩) hS (fun q _ h => hFc q h) hFc (fun r u t H locs ht hvm hw hB hz1 hk1 hS => ?_)
        obtain ⟨hP1, hD1⟩ := hB
        have hP1 := g5_ht ht hP1
        obtain ⟨z57, (i_56 : z57 = tget f_s e_s.toInt 4 k_i.toInt (1 : Int32).toInt), y58, rfl⟩ := hw
        have hJ9 := va_join (wr := [(a_k, (oc5 a_h a_j a_pt k_ln k_se k_lh k_br k_we k_me k_ce k_wy k_ho k_ov)), (a_h, (oc1 e_wa e_le e_st e_fo e_lc a_l a_g a_b a_s a_p a_w e_gb a_bb)), (a_g, (oc6 6 5 a_gn e_g)), (a_gn, (arI G 30 f_g)), (a_b, (oc6 5 24 a_bn e_b)), (a_bn, (arI G 120 f_b)), (a_p, (oc6 8 5 a_pn e_p)), (a_pn, (arI G 40 f_p)), (a_bb, (arJ G 24 f_bb)), (a_j, (oc2 a_as a_sk)), (a_as, (arI G 8 k_as)), (a_sk, (arJ G 50 k_sk)), (a_l, (arW G 6 f_l)), (a_lo, (oc3 e_cl a_hd a_sr a_cd)), (a_sr, (arI G n_sr f_sr)), (a_cd, (arI G n_cd f_cd)), (a_hd, (arI G n_hd f_hd)), (a_pt, (arI G 200 k_pt)), (a_th, (oc7 a_h a_k a_ba a_ad e_fu a_cn a_nx a_hp a_hl a_lv)), (a_ba, (arJ G 24 k_ba)), (a_ad, (arI G 1536 k_ad))]) hP hD [21, 22] [0, 1, 2, 3, 4, 5, 6, 7, 8, 9, 10, 11, 12, 13, 14, 15, 16, 17, 18, 19, 20] rfl rfl (by decide +kernel) (by decide +kernel) hk1 hFc hP1 hD1
        clear hP hD hPc hDc hFc ht hvm hz1 hk1 hP1 hD1
        obtain ⟨hP, hD⟩ := hJ9
        refine g5_rs [(a_k, (oc5 a_h a_j a_pt k_ln k_se k_lh k_br k_we k_me k_ce k_wy k_ho k_ov)), (a_h, (oc1 e_wa e_le e_st e_fo e_lc a_l a_g a_b a_s a_p a_w e_gb a_bb)), (a_g, (oc6 6 5 a_gn e_g)), (a_gn, (arI G 30 f_g)), (a_b, (oc6 5 24 a_bn e_b)), (a_bn, (arI G 120 f_b)), (a_p, (oc6 8 5 a_pn e_p)), (a_pn, (arI G 40 f_p)), (a_bb, (arJ G 24 f_bb)), (a_j, (oc2 a_as a_sk)), (a_as, (arI G 8 k_as)), (a_sk, (arJ G 50 k_sk)), (a_l, (arW G 6 f_l)), (a_lo, (oc3 e_cl a_hd a_sr a_cd)), (a_sr, (arI G n_sr f_sr)), (a_cd, (arI G n_cd f_cd)), (a_hd, (arI G n_hd f_hd)), (a_pt, (arI G 200 k_pt)), (a_th, (oc7 a_h a_k a_ba a_ad e_fu a_cn a_nx a_hp a_hl a_lv)), (a_ba, (arJ G 24 k_ba)), (a_ad, (arI G 1536 k_ad)), (a_s, (oc6 10 4 a_sn e_s)), (a_sn, (arI G 40 f_s))] hP hD ?_
        clear hP hD
        intro hP hD
        refine g5_ti (v := z57) y58 ?_
        refine lv_aload_n hx hb dX7_load_104 rfl (lv_at hl 2 rfl) ?_
        refine lv_iload hx hb dX7_load_105 (lv_at hl 1 rfl) ?_
        refine lv_iconst (v := 2) hx hb dX7_load_107 (by decide +kernel) ?_
        obtain ⟨hPc, hDc, hFc⟩ := g5_sub3 (wc := [(a_s, (oc6 10 4 a_sn e_s)), (a_sn, (arI G 40 f_s))]) hP hD hS hA [21, 22] (by decide +kernel) rfl
        refine va_calli (va_runV (As := [.int k_i, .int 2]) (rest := [.int z57, .int z54, .ref a_k]) ⟨hx, hb, hml, hown, hts⟩ (t_get_S l G a_s a_sn H.size e_s k_i 2 f_s h_e_s) (cwV 2 hts gV_X7_72 rfl rfl rfl hv_X6_get ⟨Nat.le_of_ble_eq_true rfl, Nat.le_of_ble_eq_true rfl⟩) (g5_preV hPc hK hDc hN hT hS hFc (ci := 6) (q0 := 0) rfl rfl) rfl rfl hl.1 rfl (lv_room (Nat.le_of_ble_eq_true rfl)) dX7_load_108 ⟨Nat.le_of_ble_eq_true rfl, Nat.le_of_ble_eq_true rfl⟩) hS (fun q _ h => hFc q h) hFc (fun r u t H locs ht hvm hw hB hz1 hk1 hS => ?_)
        obtain ⟨hP1, hD1⟩ := hB
        have hP1 := g5_ht ht hP1
        obtain ⟨z60, (i_59 : z60 = tget f_s e_s.toInt 4 k_i.toInt (2 : Int32).toInt), y61, rfl⟩ := hw
        have hJ9 := va_join (wr := [(a_k, (oc5 a_h a_j a_pt k_ln k_se k_lh k_br k_we k_me k_ce k_wy k_ho k_ov)), (a_h, (oc1 e_wa e_le e_st e_fo e_lc a_l a_g a_b a_s a_p a_w e_gb a_bb)), (a_g, (oc6 6 5 a_gn e_g)), (a_gn, (arI G 30 f_g)), (a_b, (oc6 5 24 a_bn e_b)), (a_bn, (arI G 120 f_b)), (a_p, (oc6 8 5 a_pn e_p)), (a_pn, (arI G 40 f_p)), (a_bb, (arJ G 24 f_bb)), (a_j, (oc2 a_as a_sk)), (a_as, (arI G 8 k_as)), (a_sk, (arJ G 50 k_sk)), (a_l, (arW G 6 f_l)), (a_lo, (oc3 e_cl a_hd a_sr a_cd)), (a_sr, (arI G n_sr f_sr)), (a_cd, (arI G n_cd f_cd)), (a_hd, (arI G n_hd f_hd)), (a_pt, (arI G 200 k_pt)), (a_th, (oc7 a_h a_k a_ba a_ad e_fu a_cn a_nx a_hp a_hl a_lv)), (a_ba, (arJ G 24 k_ba)), (a_ad, (arI G 1536 k_ad))]) hP hD [21, 22] [0, 1, 2, 3, 4, 5, 6, 7, 8, 9, 10, 11, 12, 13, 14, 15, 16, 17, 18, 19, 20] rfl rfl (by decide +kernel) (by decide +kernel) hk1 hFc hP1 hD1
        clear hP hD hPc hDc hFc ht hvm hz1 hk1 hP1 hD1
        obtain ⟨hP, hD⟩ := hJ9
        refine g5_rs [(a_k, (oc5 a_h a_j a_pt k_ln k_se k_lh k_br k_we k_me k_ce k_wy k_ho k_ov)), (a_h, (oc1 e_wa e_le e_st e_fo e_lc a_l a_g a_b a_s a_p a_w e_gb a_bb)), (a_g, (oc6 6 5 a_gn e_g)), (a_gn, (arI G 30 f_g)), (a_b, (oc6 5 24 a_bn e_b)), (a_bn, (arI G 120 f_b)), (a_p, (oc6 8 5 a_pn e_p)), (a_pn, (arI G 40 f_p)), (a_bb, (arJ G 24 f_bb)), (a_j, (oc2 a_as a_sk)), (a_as, (arI G 8 k_as)), (a_sk, (arJ G 50 k_sk)), (a_l, (arW G 6 f_l)), (a_lo, (oc3 e_cl a_hd a_sr a_cd)), (a_sr, (arI G n_sr f_sr)), (a_cd, (arI G n_cd f_cd)), (a_hd, (arI G n_hd f_hd)), (a_pt, (arI G 200 k_pt)), (a_th, (oc7 a_h a_k a_ba a_ad e_fu a_cn a_nx a_hp a_hl a_lv)), (a_ba, (arJ G 24 k_ba)), (a_ad, (arI G 1536 k_ad)), (a_s, (oc6 10 4 a_sn e_s)), (a_sn, (arI G 40 f_s))] hP hD ?_
        clear hP hD
        intro hP hD
        refine g5_ti (v := z60) y61 ?_
        refine W.eq (g2 := F0 m 111 ls [.int z60, .int z57, .int z54, .ref a_k]) rfl ?_
        refine lv_iconst (v := 0) hx hb dX7_load_111 (by decide +kernel) ?_
        obtain ⟨hPc, hDc, hFc⟩ := g5_sub3 (wc := [(a_k, (oc5 a_h a_j a_pt k_ln k_se k_lh k_br k_we k_me k_ce k_wy k_ho k_ov)), (a_h, (oc1 e_wa e_le e_st e_fo e_lc a_l a_g a_b a_s a_p a_w e_gb a_bb)), (a_g, (oc6 6 5 a_gn e_g)), (a_gn, (arI G 30 f_g)), (a_b, (oc6 5 24 a_bn e_b)), (a_bn, (arI G 120 f_b)), (a_p, (oc6 8 5 a_pn e_p)), (a_pn, (arI G 40 f_p)), (a_bb, (arJ G 24 f_bb)), (a_j, (oc2 a_as a_sk)), (a_as, (arI G 8 k_as)), (a_sk, (arJ G 50 k_sk)), (a_l, (arW G 6 f_l)), (a_lo, (oc3 e_cl a_hd a_sr a_cd)), (a_sr, (arI G n_sr f_sr)), (a_cd, (arI G n_cd f_cd)), (a_hd, (arI G n_hd f_hd)), (a_pt, (arI G 200 k_pt))]) hP hD hS hA [0, 1, 2, 3, 4, 5, 6, 7, 8, 9, 10, 11, 12, 13, 14, 15, 16, 17] (by decide +kernel) rfl
        refine va_callv (va_runV (As := [.int z54, .int z57, .int z60, .int 0]) (rest := []) ⟨hx, hb, hml, hown, hts⟩ (k_runL l G a_k a_h a_g a_gn a_b a_bn a_p a_pn a_bb a_j a_as a_sk a_l a_lo a_sr a_cd a_hd a_pt a_s a_w H.size e_le e_st e_fo e_lc e_g e_b e_p e_cl k_ln k_se k_lh k_br k_we k_me k_ce k_wy k_ho k_ov z54 z57 z60 0 e_wa e_gb f_g f_b f_p f_bb k_as k_sk f_l f_sr f_cd f_hd k_pt n_sr n_cd n_hd h_e_g h_e_b h_e_p h_e_cl i_46 (e_gk) (e_pk) (e_gi) (e_f) (e_a) (e_hn) (e_hs) (e_hk) (e_c)) (cwV 4 hts gV_X7_76 rfl rfl rfl hv_X5_run ⟨Nat.le_of_ble_eq_true rfl, Nat.le_of_ble_eq_true rfl⟩) (g5_preV hPc hK hDc hN hT hS hFc (ci := 5) (q0 := 0) rfl rfl) rfl rfl hl.1 rfl (lv_room (Nat.le_of_ble_eq_true rfl)) dX7_load_112 ⟨Nat.le_of_ble_eq_true rfl, Nat.le_of_ble_eq_true rfl⟩) hS (fun q _ h => hFc q h) hFc (fun u t H locs ht hvm hw hB hz1 hk1 hS => ?_)
        obtain ⟨hP1, hD1⟩ := hB
        have hP1 := g5_ht ht hP1
        obtain ⟨z65, z66, z67, z68, z69, z70, z71, z72, z73, z74, z75, z76, z77, (i_62 : 0 ≤ z65.toInt ∧ z65.toInt ≤ 200), (i_63 : 0 ≤ z74.toInt ∧ z74.toInt ≤ 1), (i_64 : ∀ j : Nat, (j : Int) < z65.toInt → 0 ≤ (z75 j).toInt ∧ (z75 j).toInt ≤ 1535), rfl⟩ := hw
        have hJ9 := va_join (wr := [(a_th, (oc7 a_h a_k a_ba a_ad e_fu a_cn a_nx a_hp a_hl a_lv)), (a_ba, (arJ G 24 k_ba)), (a_ad, (arI G 1536 k_ad)), (a_s, (oc6 10 4 a_sn e_s)), (a_sn, (arI G 40 f_s))]) hP hD [0, 1, 2, 3, 4, 5, 6, 7, 8, 9, 10, 11, 12, 13, 14, 15, 16, 17] [18, 19, 20, 21, 22] rfl rfl (by decide +kernel) (by decide +kernel) hk1 hFc hP1 hD1
        clear hP hD hPc hDc hFc ht hvm hz1 hk1 hP1 hD1
        obtain ⟨hP, hD⟩ := hJ9
        refine g5_rs [(a_th, (oc7 a_h a_k a_ba a_ad e_fu a_cn a_nx a_hp a_hl a_lv)), (a_ba, (arJ G 24 k_ba)), (a_ad, (arI G 1536 k_ad)), (a_s, (oc6 10 4 a_sn e_s)), (a_sn, (arI G 40 f_s)), (a_k, (oc5 a_h a_j a_pt z65 z66 z67 z68 z69 z70 z71 z72 z73 z74)), (a_h, (oc1 e_wa e_le e_st e_fo e_lc a_l a_g a_b a_s a_p a_w e_gb a_bb)), (a_g, (oc6 6 5 a_gn e_g)), (a_gn, (arI G 30 f_g)), (a_b, (oc6 5 24 a_bn e_b)), (a_bn, (arI G 120 f_b)), (a_p, (oc6 8 5 a_pn e_p)), (a_pn, (arI G 40 f_p)), (a_bb, (arJ G 24 f_bb)), (a_j, (oc2 a_as a_sk)), (a_as, (arI G 8 z76)), (a_sk, (arJ G 50 z77)), (a_l, (arW G 6 f_l)), (a_lo, (oc3 e_cl a_hd a_sr a_cd)), (a_sr, (arI G n_sr f_sr)), (a_cd, (arI G n_cd f_cd)), (a_hd, (arI G n_hd f_hd)), (a_pt, (arI G 200 z75))] hP hD ?_
        clear hP hD
        intro hP hD
        refine lv_aload_n hx hb dX7_load_115 rfl (lv_at hl 2 rfl) ?_
        refine lv_iload hx hb dX7_load_116 (lv_at hl 1 rfl) ?_
        refine lv_iconst (v := 3) hx hb dX7_load_118 (by decide +kernel) ?_
        refine W.eq (g2 := F0 m 119 ls [.int 3, .int k_i, .ref a_s]) rfl ?_
        obtain ⟨hPc, hDc, hFc⟩ := g5_sub3 (wc := [(a_s, (oc6 10 4 a_sn e_s)), (a_sn, (arI G 40 f_s))]) hP hD hS hA [3, 4] (by decide +kernel) rfl
        refine va_calli (va_runV (As := [.int k_i, .int 3]) (rest := []) ⟨hx, hb, hml, hown, hts⟩ (t_get_S l G a_s a_sn H.size e_s k_i 3 f_s h_e_s) (cwV 2 hts gV_X7_72 rfl rfl rfl hv_X6_get ⟨Nat.le_of_ble_eq_true rfl, Nat.le_of_ble_eq_true rfl⟩) (g5_preV hPc hK hDc hN hT hS hFc (ci := 6) (q0 := 0) rfl rfl) rfl rfl hl.1 rfl (lv_room (Nat.le_of_ble_eq_true rfl)) dX7_load_119 ⟨Nat.le_of_ble_eq_true rfl, Nat.le_of_ble_eq_true rfl⟩) hS (fun q _ h => hFc q h) hFc (fun r u t H locs ht hvm hw hB hz1 hk1 hS => ?_)
        obtain ⟨hP1, hD1⟩ := hB
        have hP1 := g5_ht ht hP1
        obtain ⟨z79, (i_78 : z79 = tget f_s e_s.toInt 4 k_i.toInt (3 : Int32).toInt), y80, rfl⟩ := hw
        have hJ9 := va_join (wr := [(a_th, (oc7 a_h a_k a_ba a_ad e_fu a_cn a_nx a_hp a_hl a_lv)), (a_ba, (arJ G 24 k_ba)), (a_ad, (arI G 1536 k_ad)), (a_k, (oc5 a_h a_j a_pt z65 z66 z67 z68 z69 z70 z71 z72 z73 z74)), (a_h, (oc1 e_wa e_le e_st e_fo e_lc a_l a_g a_b a_s a_p a_w e_gb a_bb)), (a_g, (oc6 6 5 a_gn e_g)), (a_gn, (arI G 30 f_g)), (a_b, (oc6 5 24 a_bn e_b)), (a_bn, (arI G 120 f_b)), (a_p, (oc6 8 5 a_pn e_p)), (a_pn, (arI G 40 f_p)), (a_bb, (arJ G 24 f_bb)), (a_j, (oc2 a_as a_sk)), (a_as, (arI G 8 z76)), (a_sk, (arJ G 50 z77)), (a_l, (arW G 6 f_l)), (a_lo, (oc3 e_cl a_hd a_sr a_cd)), (a_sr, (arI G n_sr f_sr)), (a_cd, (arI G n_cd f_cd)), (a_hd, (arI G n_hd f_hd)), (a_pt, (arI G 200 z75))]) hP hD [3, 4] [0, 1, 2, 5, 6, 7, 8, 9, 10, 11, 12, 13, 14, 15, 16, 17, 18, 19, 20, 21, 22] rfl rfl (by decide +kernel) (by decide +kernel) hk1 hFc hP1 hD1
        clear hP hD hPc hDc hFc ht hvm hz1 hk1 hP1 hD1
        obtain ⟨hP, hD⟩ := hJ9
        refine g5_rs [(a_th, (oc7 a_h a_k a_ba a_ad e_fu a_cn a_nx a_hp a_hl a_lv)), (a_ba, (arJ G 24 k_ba)), (a_ad, (arI G 1536 k_ad)), (a_k, (oc5 a_h a_j a_pt z65 z66 z67 z68 z69 z70 z71 z72 z73 z74)), (a_h, (oc1 e_wa e_le e_st e_fo e_lc a_l a_g a_b a_s a_p a_w e_gb a_bb)), (a_g, (oc6 6 5 a_gn e_g)), (a_gn, (arI G 30 f_g)), (a_b, (oc6 5 24 a_bn e_b)), (a_bn, (arI G 120 f_b)), (a_p, (oc6 8 5 a_pn e_p)), (a_pn, (arI G 40 f_p)), (a_bb, (arJ G 24 f_bb)), (a_j, (oc2 a_as a_sk)), (a_as, (arI G 8 z76)), (a_sk, (arJ G 50 z77)), (a_l, (arW G 6 f_l)), (a_lo, (oc3 e_cl a_hd a_sr a_cd)), (a_sr, (arI G n_sr f_sr)), (a_cd, (arI G n_cd f_cd)), (a_hd, (arI G n_hd f_hd)), (a_pt, (arI G 200 z75)), (a_s, (oc6 10 4 a_sn e_s)), (a_sn, (arI G 40 f_s))] hP hD ?_
        clear hP hD
        intro hP hD
        refine g5_ti (v := z79) y80 ?_
        refine lv_iconst (v := 1) hx hb dX7_load_122 (by decide +kernel) ?_
        refine lv_icmp_ne (tgt := 138) hx hb dX7_load_123 (by decide +kernel) (fun c_81 => ?_) (fun c_81 => ?_)
        ·
          have n_81 : gNe (z79.toInt) (1) := g5_ne (a := z79.toInt) (b := 1) rfl (by decide +kernel) c_81
          refine lv_aload_n hx hb dX7_load_138 rfl (lv_at hl 3 rfl) ?_
          obtain ⟨hPc, hDc, hFc⟩ := g5_sub3 (wc := [(a_th, (oc7 a_h a_k a_ba a_ad e_fu a_cn a_nx a_hp a_hl a_lv)), (a_k, (oc5 a_h a_j a_pt z65 z66 z67 z68 z69 z70 z71 z72 z73 z74)), (a_pt, (arI G 200 z75)), (a_ba, (arJ G 24 k_ba))]) hP hD hS hA [0, 3, 20, 1] (by decide +kernel) rfl
          refine va_callv (va_runV (As := []) (rest := []) ⟨hx, hb, hml, hown, hts⟩ (th_bar l G a_th a_k a_pt a_ba a_h a_ad a_cn a_nx a_hp a_hl a_lv a_j H.size e_fu z65 z66 z67 z68 z69 z70 z71 z72 z73 z74 z75 k_ba i_62 i_63 (i_64)) (cwV 0 hts gV_X7_86 rfl rfl rfl hv_X7_barPoints ⟨Nat.le_of_ble_eq_true rfl, Nat.le_of_ble_eq_true rfl⟩) (g5_preV hPc hK hDc hN hT hS hFc (ci := 7) (q0 := 0) rfl rfl) rfl rfl hl.1 rfl (lv_room (Nat.le_of_ble_eq_true rfl)) dX7_load_139 ⟨Nat.le_of_ble_eq_true rfl, Nat.le_of_ble_eq_true rfl⟩) hS (fun q _ h => hFc q h) hFc (fun u t H locs ht hvm hw hB hz1 hk1 hS => ?_)
          obtain ⟨hP1, hD1⟩ := hB
          have hP1 := g5_ht ht hP1
          obtain ⟨z82, rfl⟩ := hw
          have hJ9 := va_join (wr := [(a_ad, (arI G 1536 k_ad)), (a_h, (oc1 e_wa e_le e_st e_fo e_lc a_l a_g a_b a_s a_p a_w e_gb a_bb)), (a_g, (oc6 6 5 a_gn e_g)), (a_gn, (arI G 30 f_g)), (a_b, (oc6 5 24 a_bn e_b)), (a_bn, (arI G 120 f_b)), (a_p, (oc6 8 5 a_pn e_p)), (a_pn, (arI G 40 f_p)), (a_bb, (arJ G 24 f_bb)), (a_j, (oc2 a_as a_sk)), (a_as, (arI G 8 z76)), (a_sk, (arJ G 50 z77)), (a_l, (arW G 6 f_l)), (a_lo, (oc3 e_cl a_hd a_sr a_cd)), (a_sr, (arI G n_sr f_sr)), (a_cd, (arI G n_cd f_cd)), (a_hd, (arI G n_hd f_hd)), (a_s, (oc6 10 4 a_sn e_s)), (a_sn, (arI G 40 f_s))]) hP hD [0, 3, 20, 1] [2, 4, 5, 6, 7, 8, 9, 10, 11, 12, 13, 14, 15, 16, 17, 18, 19, 21, 22] rfl rfl (by decide +kernel) (by decide +kernel) hk1 hFc hP1 hD1
          clear hP hD hPc hDc hFc ht hvm hz1 hk1 hP1 hD1
          obtain ⟨hP, hD⟩ := hJ9
          refine g5_rs [(a_ad, (arI G 1536 k_ad)), (a_h, (oc1 e_wa e_le e_st e_fo e_lc a_l a_g a_b a_s a_p a_w e_gb a_bb)), (a_g, (oc6 6 5 a_gn e_g)), (a_gn, (arI G 30 f_g)), (a_b, (oc6 5 24 a_bn e_b)), (a_bn, (arI G 120 f_b)), (a_p, (oc6 8 5 a_pn e_p)), (a_pn, (arI G 40 f_p)), (a_bb, (arJ G 24 f_bb)), (a_j, (oc2 a_as a_sk)), (a_as, (arI G 8 z76)), (a_sk, (arJ G 50 z77)), (a_l, (arW G 6 f_l)), (a_lo, (oc3 e_cl a_hd a_sr a_cd)), (a_sr, (arI G n_sr f_sr)), (a_cd, (arI G n_cd f_cd)), (a_hd, (arI G n_hd f_hd)), (a_s, (oc6 10 4 a_sn e_s)), (a_sn, (arI G 40 f_s)), (a_th, (oc7 a_h a_k a_ba a_ad e_fu a_cn a_nx a_hp a_hl a_lv)), (a_k, (oc5 a_h a_j a_pt z65 z66 z67 z68 z69 z70 z71 z72 z73 z74)), (a_pt, (arI G 200 z75)), (a_ba, (arJ G 24 z82))] hP hD ?_
          clear hP hD
          intro hP hD
          refine lv_iinc (v := (k_i + 1)) (lv' := [(4, .int (k_i + 1)), (2, .int k_b), (3, .ref a_s), (0, .ref a_th), (1, .int p_s)]) hx hb dX7_load_142 hl (k := 1) rfl rfl (by decide +kernel) rfl ?_
          clear hl
          intro ls hl
          have t_83 : (k_i + 1).toInt = k_i.toInt + 1 := g5_iadd (a := k_i.toInt) (b := 1) rfl (by decide +kernel) (by omega) (by omega)
          refine lv_goto (tgt := 68) hx hb dX7_load_145 (by decide +kernel) ?_
          exact ih_68_49 (k_b, (k_i + 1), z66, z67, z68, z69, z70, z71, z72, z73, z74, z75, z76, z77, z65, z82, k_ad) ls H locs (show Int.toNat (10 - (k_i + 1).toInt) < Int.toNat (10 - k_i.toInt) from g_up (show k_i.toInt < (k_i + 1).toInt by omega) (show k_i.toInt < 10 by omega)) ⟨lv_sub hl [1, 0, 2, 3, 4] rfl, hP.sub [20, 1, 2, 3, 4, 5, 6, 7, 17, 18, 8, 9, 10, 11, 12, 13, 14, 15, 16, 21, 19, 22, 0] rfl, hD.sub [20, 1, 2, 3, 4, 5, 6, 7, 17, 18, 8, 9, 10, 11, 12, 13, 14, 15, 16, 21, 19, 22, 0] (by decide +kernel) rfl, hS, ⟨by omega, by omega⟩, i_63, by omega, ld_stay i_48 e_sh (by omega) (by omega) (by omega)⟩
        ·
          have i_81 : z79.toInt = 1 := g5_neN (a := z79.toInt) (b := 1) rfl (by decide +kernel) c_81
          obtain ⟨gs_84, hg1_84, hg2_84, hg3_84⟩ := id i_48
          have hg4_84 : gs_84 < 5 := ld_lt hg1_84 e_sh e_s5 i_78 (by omega) (by omega) (by omega)
          have hg5_84 : mOK k_ad (gs_84 + 1) := mOK_up hg3_84
          refine lv_aload_n hx hb dX7_load_126 rfl (lv_at hl 3 rfl) ?_
          refine lv_iload_n hx hb dX7_load_127 rfl (lv_at hl 0 rfl) ?_
          obtain ⟨hPc, hDc, hFc⟩ := g5_sub3 (wc := [(a_th, (oc7 a_h a_k a_ba a_ad e_fu a_cn a_nx a_hp a_hl a_lv)), (a_k, (oc5 a_h a_j a_pt z65 z66 z67 z68 z69 z70 z71 z72 z73 z74)), (a_pt, (arI G 200 z75)), (a_ad, (arI G 1536 k_ad))]) hP hD hS hA [0, 3, 20, 2] (by decide +kernel) rfl
          refine va_callv (va_runV (As := [.int k_b]) (rest := []) ⟨hx, hb, hml, hown, hts⟩ (th_add l G a_th a_k a_pt a_ad a_h a_ba a_cn a_nx a_hp a_hl a_lv a_j H.size e_fu z65 z66 z67 z68 z69 z70 z71 z72 z73 z74 k_b z75 k_ad gs_84 i_62 i_63 (i_64) (hg4_84) (hg2_84) (hg5_84)) (cwV 1 hts gV_X7_82 rfl rfl rfl hv_X7_addPoints ⟨Nat.le_of_ble_eq_true rfl, Nat.le_of_ble_eq_true rfl⟩) (g5_preV hPc hK hDc hN hT hS hFc (ci := 7) (q0 := 0) rfl rfl) rfl rfl hl.1 rfl (lv_room (Nat.le_of_ble_eq_true rfl)) dX7_load_128 ⟨Nat.le_of_ble_eq_true rfl, Nat.le_of_ble_eq_true rfl⟩) hS (fun q _ h => hFc q h) hFc (fun u t H locs ht hvm hw hB hz1 hk1 hS => ?_)
          obtain ⟨hP1, hD1⟩ := hB
          have hP1 := g5_ht ht hP1
          obtain ⟨z86, (i_85 : mOK z86 (gs_84 + 1)), rfl⟩ := hw
          have hJ9 := va_join (wr := [(a_ba, (arJ G 24 k_ba)), (a_h, (oc1 e_wa e_le e_st e_fo e_lc a_l a_g a_b a_s a_p a_w e_gb a_bb)), (a_g, (oc6 6 5 a_gn e_g)), (a_gn, (arI G 30 f_g)), (a_b, (oc6 5 24 a_bn e_b)), (a_bn, (arI G 120 f_b)), (a_p, (oc6 8 5 a_pn e_p)), (a_pn, (arI G 40 f_p)), (a_bb, (arJ G 24 f_bb)), (a_j, (oc2 a_as a_sk)), (a_as, (arI G 8 z76)), (a_sk, (arJ G 50 z77)), (a_l, (arW G 6 f_l)), (a_lo, (oc3 e_cl a_hd a_sr a_cd)), (a_sr, (arI G n_sr f_sr)), (a_cd, (arI G n_cd f_cd)), (a_hd, (arI G n_hd f_hd)), (a_s, (oc6 10 4 a_sn e_s)), (a_sn, (arI G 40 f_s))]) hP hD [0, 3, 20, 2] [1, 4, 5, 6, 7, 8, 9, 10, 11, 12, 13, 14, 15, 16, 17, 18, 19, 21, 22] rfl rfl (by decide +kernel) (by decide +kernel) hk1 hFc hP1 hD1
          clear hP hD hPc hDc hFc ht hvm hz1 hk1 hP1 hD1
          obtain ⟨hP, hD⟩ := hJ9
          refine g5_rs [(a_ba, (arJ G 24 k_ba)), (a_h, (oc1 e_wa e_le e_st e_fo e_lc a_l a_g a_b a_s a_p a_w e_gb a_bb)), (a_g, (oc6 6 5 a_gn e_g)), (a_gn, (arI G 30 f_g)), (a_b, (oc6 5 24 a_bn e_b)), (a_bn, (arI G 120 f_b)), (a_p, (oc6 8 5 a_pn e_p)), (a_pn, (arI G 40 f_p)), (a_bb, (arJ G 24 f_bb)), (a_j, (oc2 a_as a_sk)), (a_as, (arI G 8 z76)), (a_sk, (arJ G 50 z77)), (a_l, (arW G 6 f_l)), (a_lo, (oc3 e_cl a_hd a_sr a_cd)), (a_sr, (arI G n_sr f_sr)), (a_cd, (arI G n_cd f_cd)), (a_hd, (arI G n_hd f_hd)), (a_s, (oc6 10 4 a_sn e_s)), (a_sn, (arI G 40 f_s)), (a_th, (oc7 a_h a_k a_ba a_ad e_fu a_cn a_nx a_hp a_hl a_lv)), (a_k, (oc5 a_h a_j a_pt z65 z66 z67 z68 z69 z70 z71 z72 z73 z74)), (a_pt, (arI G 200 z75)), (a_ad, (arI G 1536 z86))] hP hD ?_
          clear hP hD
          intro hP hD
          refine lv_iload_n hx hb dX7_load_131 rfl (lv_at hl 0 rfl) ?_
          refine W.eq (g2 := F0 m 132 ls [.int k_b]) rfl ?_
          refine lv_iconst (v := 1) hx hb dX7_load_132 (by decide +kernel) ?_
          refine lv_ishl hx hb dX7_load_133 ?_
          refine lv_istore_n (lv' := [(2, .int (k_b <<< (1 &&& 31))), (4, .int k_i), (3, .ref a_s), (0, .ref a_th), (1, .int p_s)]) hx hb dX7_load_134 rfl hl (by decide +kernel) rfl ?_
          clear hl
          intro ls hl
          refine lv_goto (tgt := 142) hx hb dX7_load_135 (by decide +kernel) ?_
          refine lv_iinc (v := (k_i + 1)) (lv' := [(4, .int (k_i + 1)), (2, .int (k_b <<< (1 &&& 31))), (3, .ref a_s), (0, .ref a_th), (1, .int p_s)]) hx hb dX7_load_142 hl (k := 1) rfl rfl (by decide +kernel) rfl ?_
          clear hl
          intro ls hl
          have t_87 : (k_i + 1).toInt = k_i.toInt + 1 := g5_iadd (a := k_i.toInt) (b := 1) rfl (by decide +kernel) (by omega) (by omega)
          refine W.eq (g2 := F0 m 145 ls []) rfl ?_
          refine lv_goto (tgt := 68) hx hb dX7_load_145 (by decide +kernel) ?_
          exact ih_68_49 ((k_b <<< (1 &&& 31)), (k_i + 1), z66, z67, z68, z69, z70, z71, z72, z73, z74, z75, z76, z77, z65, k_ba, z86) ls H locs (show Int.toNat (10 - (k_i + 1).toInt) < Int.toNat (10 - k_i.toInt) from g_up (show k_i.toInt < (k_i + 1).toInt by omega) (show k_i.toInt < 10 by omega)) ⟨lv_sub hl [1, 0, 2, 3, 4] rfl, hP.sub [20, 1, 2, 3, 4, 5, 6, 7, 17, 18, 8, 9, 10, 11, 12, 13, 14, 15, 16, 21, 19, 0, 22] rfl, hD.sub [20, 1, 2, 3, 4, 5, 6, 7, 17, 18, 8, 9, 10, 11, 12, 13, 14, 15, 16, 21, 19, 0, 22] (by decide +kernel) rfl, hS, ⟨by omega, by omega⟩, i_63, by omega, ld_go hg1_84 hg2_84 hg4_84 i_85 i_78 (by omega) (by omega) (by omega)⟩
theorem dgX7_stepTo_0 : ∀ r ∈ ([(0, (.aload_n 0, 1)), (1, (.getfield 89, 3)), (4, (.iconst 1, 1)), (5, (.iadd, 1)), (6, (.istore_n 2, 1)), (7, (.iconst 0, 1)), (8, (.istore_n 3, 1)), (9, (.iload_n 3, 1)), (10, (.bipush 64, 2)), (12, (.if_icmp .ge 135, 3)), (15, (.iconst 0, 1)), (16, (.istore 4, 2)), (18, (.iload 4, 2)), (20, (.iload_n 2, 1)), (21, (.if_icmp .ge 21, 3)), (24, (.aload_n 0, 1)), (25, (.getfield 22, 3)), (28, (.iload_n 3, 1)), (29, (.iload_n 2, 1)), (30, (.imul, 1)), (31, (.iload 4, 2)), (33, (.iadd, 1)), (34, (.lconst 0, 1)), (35, (.lastore, 1)), (36, (.iinc 4 1, 3)), (39, (.goto (-21), 3)), (42, (.aload_n 0, 1)), (43, (.getfield 15, 3)), (46, (.iload_n 1, 1)), (47, (.bipush 64, 2)), (49, (.imul, 1)), (50, (.iload_n 3, 1)), (51, (.iadd, 1)), (52, (.iaload, 1)), (53, (.istore 4, 2)), (55, (.iconst 0, 1)), (56, (.istore 5, 2)), (58, (.iload 5, 2)), (60, (.iconst 4, 1)), (61, (.if_icmp .gt 80, 3))] : List (Nat × (Instr × Nat))), decode cX7_stepTo r.1 = .ok r.2 := by decide +kernel
theorem dX7_stepTo_0 : decode cX7_stepTo 0 = .ok (.aload_n 0, 1) := dgX7_stepTo_0 (0, (.aload_n 0, 1)) (List.mem_of_getElem? (i := 0) rfl)
theorem dX7_stepTo_1 : decode cX7_stepTo 1 = .ok (.getfield 89, 3) := dgX7_stepTo_0 (1, (.getfield 89, 3)) (List.mem_of_getElem? (i := 1) rfl)
theorem dX7_stepTo_4 : decode cX7_stepTo 4 = .ok (.iconst 1, 1) := dgX7_stepTo_0 (4, (.iconst 1, 1)) (List.mem_of_getElem? (i := 2) rfl)
theorem dX7_stepTo_5 : decode cX7_stepTo 5 = .ok (.iadd, 1) := dgX7_stepTo_0 (5, (.iadd, 1)) (List.mem_of_getElem? (i := 3) rfl)
theorem dX7_stepTo_6 : decode cX7_stepTo 6 = .ok (.istore_n 2, 1) := dgX7_stepTo_0 (6, (.istore_n 2, 1)) (List.mem_of_getElem? (i := 4) rfl)
theorem dX7_stepTo_7 : decode cX7_stepTo 7 = .ok (.iconst 0, 1) := dgX7_stepTo_0 (7, (.iconst 0, 1)) (List.mem_of_getElem? (i := 5) rfl)
theorem dX7_stepTo_8 : decode cX7_stepTo 8 = .ok (.istore_n 3, 1) := dgX7_stepTo_0 (8, (.istore_n 3, 1)) (List.mem_of_getElem? (i := 6) rfl)
theorem dX7_stepTo_9 : decode cX7_stepTo 9 = .ok (.iload_n 3, 1) := dgX7_stepTo_0 (9, (.iload_n 3, 1)) (List.mem_of_getElem? (i := 7) rfl)
theorem dX7_stepTo_10 : decode cX7_stepTo 10 = .ok (.bipush 64, 2) := dgX7_stepTo_0 (10, (.bipush 64, 2)) (List.mem_of_getElem? (i := 8) rfl)
theorem dX7_stepTo_12 : decode cX7_stepTo 12 = .ok (.if_icmp .ge 135, 3) := dgX7_stepTo_0 (12, (.if_icmp .ge 135, 3)) (List.mem_of_getElem? (i := 9) rfl)
theorem dX7_stepTo_15 : decode cX7_stepTo 15 = .ok (.iconst 0, 1) := dgX7_stepTo_0 (15, (.iconst 0, 1)) (List.mem_of_getElem? (i := 10) rfl)
theorem dX7_stepTo_16 : decode cX7_stepTo 16 = .ok (.istore 4, 2) := dgX7_stepTo_0 (16, (.istore 4, 2)) (List.mem_of_getElem? (i := 11) rfl)
theorem dX7_stepTo_18 : decode cX7_stepTo 18 = .ok (.iload 4, 2) := dgX7_stepTo_0 (18, (.iload 4, 2)) (List.mem_of_getElem? (i := 12) rfl)
theorem dX7_stepTo_20 : decode cX7_stepTo 20 = .ok (.iload_n 2, 1) := dgX7_stepTo_0 (20, (.iload_n 2, 1)) (List.mem_of_getElem? (i := 13) rfl)
theorem dX7_stepTo_21 : decode cX7_stepTo 21 = .ok (.if_icmp .ge 21, 3) := dgX7_stepTo_0 (21, (.if_icmp .ge 21, 3)) (List.mem_of_getElem? (i := 14) rfl)
theorem dX7_stepTo_24 : decode cX7_stepTo 24 = .ok (.aload_n 0, 1) := dgX7_stepTo_0 (24, (.aload_n 0, 1)) (List.mem_of_getElem? (i := 15) rfl)
theorem dX7_stepTo_25 : decode cX7_stepTo 25 = .ok (.getfield 22, 3) := dgX7_stepTo_0 (25, (.getfield 22, 3)) (List.mem_of_getElem? (i := 16) rfl)
theorem dX7_stepTo_28 : decode cX7_stepTo 28 = .ok (.iload_n 3, 1) := dgX7_stepTo_0 (28, (.iload_n 3, 1)) (List.mem_of_getElem? (i := 17) rfl)
theorem dX7_stepTo_29 : decode cX7_stepTo 29 = .ok (.iload_n 2, 1) := dgX7_stepTo_0 (29, (.iload_n 2, 1)) (List.mem_of_getElem? (i := 18) rfl)
theorem dX7_stepTo_30 : decode cX7_stepTo 30 = .ok (.imul, 1) := dgX7_stepTo_0 (30, (.imul, 1)) (List.mem_of_getElem? (i := 19) rfl)
theorem dX7_stepTo_31 : decode cX7_stepTo 31 = .ok (.iload 4, 2) := dgX7_stepTo_0 (31, (.iload 4, 2)) (List.mem_of_getElem? (i := 20) rfl)
theorem dX7_stepTo_33 : decode cX7_stepTo 33 = .ok (.iadd, 1) := dgX7_stepTo_0 (33, (.iadd, 1)) (List.mem_of_getElem? (i := 21) rfl)
theorem dX7_stepTo_34 : decode cX7_stepTo 34 = .ok (.lconst 0, 1) := dgX7_stepTo_0 (34, (.lconst 0, 1)) (List.mem_of_getElem? (i := 22) rfl)
theorem dX7_stepTo_35 : decode cX7_stepTo 35 = .ok (.lastore, 1) := dgX7_stepTo_0 (35, (.lastore, 1)) (List.mem_of_getElem? (i := 23) rfl)
theorem dX7_stepTo_36 : decode cX7_stepTo 36 = .ok (.iinc 4 1, 3) := dgX7_stepTo_0 (36, (.iinc 4 1, 3)) (List.mem_of_getElem? (i := 24) rfl)
theorem dX7_stepTo_39 : decode cX7_stepTo 39 = .ok (.goto (-21), 3) := dgX7_stepTo_0 (39, (.goto (-21), 3)) (List.mem_of_getElem? (i := 25) rfl)
theorem dX7_stepTo_42 : decode cX7_stepTo 42 = .ok (.aload_n 0, 1) := dgX7_stepTo_0 (42, (.aload_n 0, 1)) (List.mem_of_getElem? (i := 26) rfl)
theorem dX7_stepTo_43 : decode cX7_stepTo 43 = .ok (.getfield 15, 3) := dgX7_stepTo_0 (43, (.getfield 15, 3)) (List.mem_of_getElem? (i := 27) rfl)
theorem dX7_stepTo_46 : decode cX7_stepTo 46 = .ok (.iload_n 1, 1) := dgX7_stepTo_0 (46, (.iload_n 1, 1)) (List.mem_of_getElem? (i := 28) rfl)
theorem dX7_stepTo_47 : decode cX7_stepTo 47 = .ok (.bipush 64, 2) := dgX7_stepTo_0 (47, (.bipush 64, 2)) (List.mem_of_getElem? (i := 29) rfl)
theorem dX7_stepTo_49 : decode cX7_stepTo 49 = .ok (.imul, 1) := dgX7_stepTo_0 (49, (.imul, 1)) (List.mem_of_getElem? (i := 30) rfl)
theorem dX7_stepTo_50 : decode cX7_stepTo 50 = .ok (.iload_n 3, 1) := dgX7_stepTo_0 (50, (.iload_n 3, 1)) (List.mem_of_getElem? (i := 31) rfl)
theorem dX7_stepTo_51 : decode cX7_stepTo 51 = .ok (.iadd, 1) := dgX7_stepTo_0 (51, (.iadd, 1)) (List.mem_of_getElem? (i := 32) rfl)
theorem dX7_stepTo_52 : decode cX7_stepTo 52 = .ok (.iaload, 1) := dgX7_stepTo_0 (52, (.iaload, 1)) (List.mem_of_getElem? (i := 33) rfl)
theorem dX7_stepTo_53 : decode cX7_stepTo 53 = .ok (.istore 4, 2) := dgX7_stepTo_0 (53, (.istore 4, 2)) (List.mem_of_getElem? (i := 34) rfl)
theorem dX7_stepTo_55 : decode cX7_stepTo 55 = .ok (.iconst 0, 1) := dgX7_stepTo_0 (55, (.iconst 0, 1)) (List.mem_of_getElem? (i := 35) rfl)
theorem dX7_stepTo_56 : decode cX7_stepTo 56 = .ok (.istore 5, 2) := dgX7_stepTo_0 (56, (.istore 5, 2)) (List.mem_of_getElem? (i := 36) rfl)
theorem dX7_stepTo_58 : decode cX7_stepTo 58 = .ok (.iload 5, 2) := dgX7_stepTo_0 (58, (.iload 5, 2)) (List.mem_of_getElem? (i := 37) rfl)
theorem dX7_stepTo_60 : decode cX7_stepTo 60 = .ok (.iconst 4, 1) := dgX7_stepTo_0 (60, (.iconst 4, 1)) (List.mem_of_getElem? (i := 38) rfl)
theorem dX7_stepTo_61 : decode cX7_stepTo 61 = .ok (.if_icmp .gt 80, 3) := dgX7_stepTo_0 (61, (.if_icmp .gt 80, 3)) (List.mem_of_getElem? (i := 39) rfl)
theorem dgX7_stepTo_1 : ∀ r ∈ ([(64, (.aload_n 0, 1)), (65, (.getfield 9, 3)), (68, (.iload_n 1, 1)), (69, (.laload, 1)), (70, (.iload_n 3, 1)), (71, (.invokestatic 98, 3)), (74, (.ifCond .ne 67, 3)), (77, (.iload_n 3, 1)), (78, (.iload 5, 2)), (80, (.invokestatic 105, 3)), (83, (.istore 6, 2)), (85, (.iconst 0, 1)), (86, (.istore 7, 2)), (88, (.iload 7, 2)), (90, (.iload_n 2, 1)), (91, (.if_icmp .ge 44, 3)), (94, (.iload 6, 2)), (96, (.iconst (-1), 1)), (97, (.if_icmp .eq 38, 3)), (100, (.aload_n 0, 1)), (101, (.getfield 22, 3)), (104, (.iload_n 3, 1)), (105, (.iload_n 2, 1)), (106, (.imul, 1)), (107, (.iload 7, 2)), (109, (.iload 4, 2)), (111, (.ior, 1)), (112, (.iadd, 1)), (113, (.dup2, 1)), (114, (.laload, 1)), (115, (.aload_n 0, 1)), (116, (.getfield 19, 3)), (119, (.iload 6, 2)), (121, (.iload_n 2, 1)), (122, (.imul, 1)), (123, (.iload 7, 2)), (125, (.iadd, 1)), (126, (.laload, 1)), (127, (.ladd, 1)), (128, (.lastore, 1))] : List (Nat × (Instr × Nat))), decode cX7_stepTo r.1 = .ok r.2 := by decide +kernel
theorem dX7_stepTo_64 : decode cX7_stepTo 64 = .ok (.aload_n 0, 1) := dgX7_stepTo_1 (64, (.aload_n 0, 1)) (List.mem_of_getElem? (i := 0) rfl)
theorem dX7_stepTo_65 : decode cX7_stepTo 65 = .ok (.getfield 9, 3) := dgX7_stepTo_1 (65, (.getfield 9, 3)) (List.mem_of_getElem? (i := 1) rfl)
theorem dX7_stepTo_68 : decode cX7_stepTo 68 = .ok (.iload_n 1, 1) := dgX7_stepTo_1 (68, (.iload_n 1, 1)) (List.mem_of_getElem? (i := 2) rfl)
theorem dX7_stepTo_69 : decode cX7_stepTo 69 = .ok (.laload, 1) := dgX7_stepTo_1 (69, (.laload, 1)) (List.mem_of_getElem? (i := 3) rfl)
theorem dX7_stepTo_70 : decode cX7_stepTo 70 = .ok (.iload_n 3, 1) := dgX7_stepTo_1 (70, (.iload_n 3, 1)) (List.mem_of_getElem? (i := 4) rfl)
theorem dX7_stepTo_71 : decode cX7_stepTo 71 = .ok (.invokestatic 98, 3) := dgX7_stepTo_1 (71, (.invokestatic 98, 3)) (List.mem_of_getElem? (i := 5) rfl)
theorem dX7_stepTo_74 : decode cX7_stepTo 74 = .ok (.ifCond .ne 67, 3) := dgX7_stepTo_1 (74, (.ifCond .ne 67, 3)) (List.mem_of_getElem? (i := 6) rfl)
theorem dX7_stepTo_77 : decode cX7_stepTo 77 = .ok (.iload_n 3, 1) := dgX7_stepTo_1 (77, (.iload_n 3, 1)) (List.mem_of_getElem? (i := 7) rfl)
theorem dX7_stepTo_78 : decode cX7_stepTo 78 = .ok (.iload 5, 2) := dgX7_stepTo_1 (78, (.iload 5, 2)) (List.mem_of_getElem? (i := 8) rfl)
theorem dX7_stepTo_80 : decode cX7_stepTo 80 = .ok (.invokestatic 105, 3) := dgX7_stepTo_1 (80, (.invokestatic 105, 3)) (List.mem_of_getElem? (i := 9) rfl)
theorem dX7_stepTo_83 : decode cX7_stepTo 83 = .ok (.istore 6, 2) := dgX7_stepTo_1 (83, (.istore 6, 2)) (List.mem_of_getElem? (i := 10) rfl)
theorem dX7_stepTo_85 : decode cX7_stepTo 85 = .ok (.iconst 0, 1) := dgX7_stepTo_1 (85, (.iconst 0, 1)) (List.mem_of_getElem? (i := 11) rfl)
theorem dX7_stepTo_86 : decode cX7_stepTo 86 = .ok (.istore 7, 2) := dgX7_stepTo_1 (86, (.istore 7, 2)) (List.mem_of_getElem? (i := 12) rfl)
theorem dX7_stepTo_88 : decode cX7_stepTo 88 = .ok (.iload 7, 2) := dgX7_stepTo_1 (88, (.iload 7, 2)) (List.mem_of_getElem? (i := 13) rfl)
theorem dX7_stepTo_90 : decode cX7_stepTo 90 = .ok (.iload_n 2, 1) := dgX7_stepTo_1 (90, (.iload_n 2, 1)) (List.mem_of_getElem? (i := 14) rfl)
theorem dX7_stepTo_91 : decode cX7_stepTo 91 = .ok (.if_icmp .ge 44, 3) := dgX7_stepTo_1 (91, (.if_icmp .ge 44, 3)) (List.mem_of_getElem? (i := 15) rfl)
theorem dX7_stepTo_94 : decode cX7_stepTo 94 = .ok (.iload 6, 2) := dgX7_stepTo_1 (94, (.iload 6, 2)) (List.mem_of_getElem? (i := 16) rfl)
theorem dX7_stepTo_96 : decode cX7_stepTo 96 = .ok (.iconst (-1), 1) := dgX7_stepTo_1 (96, (.iconst (-1), 1)) (List.mem_of_getElem? (i := 17) rfl)
theorem dX7_stepTo_97 : decode cX7_stepTo 97 = .ok (.if_icmp .eq 38, 3) := dgX7_stepTo_1 (97, (.if_icmp .eq 38, 3)) (List.mem_of_getElem? (i := 18) rfl)
theorem dX7_stepTo_100 : decode cX7_stepTo 100 = .ok (.aload_n 0, 1) := dgX7_stepTo_1 (100, (.aload_n 0, 1)) (List.mem_of_getElem? (i := 19) rfl)
theorem dX7_stepTo_101 : decode cX7_stepTo 101 = .ok (.getfield 22, 3) := dgX7_stepTo_1 (101, (.getfield 22, 3)) (List.mem_of_getElem? (i := 20) rfl)
theorem dX7_stepTo_104 : decode cX7_stepTo 104 = .ok (.iload_n 3, 1) := dgX7_stepTo_1 (104, (.iload_n 3, 1)) (List.mem_of_getElem? (i := 21) rfl)
theorem dX7_stepTo_105 : decode cX7_stepTo 105 = .ok (.iload_n 2, 1) := dgX7_stepTo_1 (105, (.iload_n 2, 1)) (List.mem_of_getElem? (i := 22) rfl)
theorem dX7_stepTo_106 : decode cX7_stepTo 106 = .ok (.imul, 1) := dgX7_stepTo_1 (106, (.imul, 1)) (List.mem_of_getElem? (i := 23) rfl)
theorem dX7_stepTo_107 : decode cX7_stepTo 107 = .ok (.iload 7, 2) := dgX7_stepTo_1 (107, (.iload 7, 2)) (List.mem_of_getElem? (i := 24) rfl)
theorem dX7_stepTo_109 : decode cX7_stepTo 109 = .ok (.iload 4, 2) := dgX7_stepTo_1 (109, (.iload 4, 2)) (List.mem_of_getElem? (i := 25) rfl)
theorem dX7_stepTo_111 : decode cX7_stepTo 111 = .ok (.ior, 1) := dgX7_stepTo_1 (111, (.ior, 1)) (List.mem_of_getElem? (i := 26) rfl)
theorem dX7_stepTo_112 : decode cX7_stepTo 112 = .ok (.iadd, 1) := dgX7_stepTo_1 (112, (.iadd, 1)) (List.mem_of_getElem? (i := 27) rfl)
theorem dX7_stepTo_113 : decode cX7_stepTo 113 = .ok (.dup2, 1) := dgX7_stepTo_1 (113, (.dup2, 1)) (List.mem_of_getElem? (i := 28) rfl)
theorem dX7_stepTo_114 : decode cX7_stepTo 114 = .ok (.laload, 1) := dgX7_stepTo_1 (114, (.laload, 1)) (List.mem_of_getElem? (i := 29) rfl)
theorem dX7_stepTo_115 : decode cX7_stepTo 115 = .ok (.aload_n 0, 1) := dgX7_stepTo_1 (115, (.aload_n 0, 1)) (List.mem_of_getElem? (i := 30) rfl)
theorem dX7_stepTo_116 : decode cX7_stepTo 116 = .ok (.getfield 19, 3) := dgX7_stepTo_1 (116, (.getfield 19, 3)) (List.mem_of_getElem? (i := 31) rfl)
theorem dX7_stepTo_119 : decode cX7_stepTo 119 = .ok (.iload 6, 2) := dgX7_stepTo_1 (119, (.iload 6, 2)) (List.mem_of_getElem? (i := 32) rfl)
theorem dX7_stepTo_121 : decode cX7_stepTo 121 = .ok (.iload_n 2, 1) := dgX7_stepTo_1 (121, (.iload_n 2, 1)) (List.mem_of_getElem? (i := 33) rfl)
theorem dX7_stepTo_122 : decode cX7_stepTo 122 = .ok (.imul, 1) := dgX7_stepTo_1 (122, (.imul, 1)) (List.mem_of_getElem? (i := 34) rfl)
theorem dX7_stepTo_123 : decode cX7_stepTo 123 = .ok (.iload 7, 2) := dgX7_stepTo_1 (123, (.iload 7, 2)) (List.mem_of_getElem? (i := 35) rfl)
theorem dX7_stepTo_125 : decode cX7_stepTo 125 = .ok (.iadd, 1) := dgX7_stepTo_1 (125, (.iadd, 1)) (List.mem_of_getElem? (i := 36) rfl)
theorem dX7_stepTo_126 : decode cX7_stepTo 126 = .ok (.laload, 1) := dgX7_stepTo_1 (126, (.laload, 1)) (List.mem_of_getElem? (i := 37) rfl)
theorem dX7_stepTo_127 : decode cX7_stepTo 127 = .ok (.ladd, 1) := dgX7_stepTo_1 (127, (.ladd, 1)) (List.mem_of_getElem? (i := 38) rfl)
theorem dX7_stepTo_128 : decode cX7_stepTo 128 = .ok (.lastore, 1) := dgX7_stepTo_1 (128, (.lastore, 1)) (List.mem_of_getElem? (i := 39) rfl)
theorem dgX7_stepTo_2 : ∀ r ∈ ([(129, (.iinc 7 1, 3)), (132, (.goto (-44), 3)), (135, (.iinc 5 1, 3)), (138, (.goto (-80), 3)), (141, (.iinc 3 1, 3)), (144, (.goto (-135), 3)), (147, (.aload_n 0, 1)), (148, (.getfield 19, 3)), (151, (.astore_n 3, 1)), (152, (.aload_n 0, 1)), (153, (.aload_n 0, 1)), (154, (.getfield 22, 3)), (157, (.putfield 19, 3)), (160, (.aload_n 0, 1)), (161, (.aload_n 3, 1)), (162, (.putfield 22, 3)), (165, (.return_, 1))] : List (Nat × (Instr × Nat))), decode cX7_stepTo r.1 = .ok r.2 := by decide +kernel
theorem dX7_stepTo_129 : decode cX7_stepTo 129 = .ok (.iinc 7 1, 3) := dgX7_stepTo_2 (129, (.iinc 7 1, 3)) (List.mem_of_getElem? (i := 0) rfl)
theorem dX7_stepTo_132 : decode cX7_stepTo 132 = .ok (.goto (-44), 3) := dgX7_stepTo_2 (132, (.goto (-44), 3)) (List.mem_of_getElem? (i := 1) rfl)
theorem dX7_stepTo_135 : decode cX7_stepTo 135 = .ok (.iinc 5 1, 3) := dgX7_stepTo_2 (135, (.iinc 5 1, 3)) (List.mem_of_getElem? (i := 2) rfl)
theorem dX7_stepTo_138 : decode cX7_stepTo 138 = .ok (.goto (-80), 3) := dgX7_stepTo_2 (138, (.goto (-80), 3)) (List.mem_of_getElem? (i := 3) rfl)
theorem dX7_stepTo_141 : decode cX7_stepTo 141 = .ok (.iinc 3 1, 3) := dgX7_stepTo_2 (141, (.iinc 3 1, 3)) (List.mem_of_getElem? (i := 4) rfl)
theorem dX7_stepTo_144 : decode cX7_stepTo 144 = .ok (.goto (-135), 3) := dgX7_stepTo_2 (144, (.goto (-135), 3)) (List.mem_of_getElem? (i := 5) rfl)
theorem dX7_stepTo_147 : decode cX7_stepTo 147 = .ok (.aload_n 0, 1) := dgX7_stepTo_2 (147, (.aload_n 0, 1)) (List.mem_of_getElem? (i := 6) rfl)
theorem dX7_stepTo_148 : decode cX7_stepTo 148 = .ok (.getfield 19, 3) := dgX7_stepTo_2 (148, (.getfield 19, 3)) (List.mem_of_getElem? (i := 7) rfl)
theorem dX7_stepTo_151 : decode cX7_stepTo 151 = .ok (.astore_n 3, 1) := dgX7_stepTo_2 (151, (.astore_n 3, 1)) (List.mem_of_getElem? (i := 8) rfl)
theorem dX7_stepTo_152 : decode cX7_stepTo 152 = .ok (.aload_n 0, 1) := dgX7_stepTo_2 (152, (.aload_n 0, 1)) (List.mem_of_getElem? (i := 9) rfl)
theorem dX7_stepTo_153 : decode cX7_stepTo 153 = .ok (.aload_n 0, 1) := dgX7_stepTo_2 (153, (.aload_n 0, 1)) (List.mem_of_getElem? (i := 10) rfl)
theorem dX7_stepTo_154 : decode cX7_stepTo 154 = .ok (.getfield 22, 3) := dgX7_stepTo_2 (154, (.getfield 22, 3)) (List.mem_of_getElem? (i := 11) rfl)
theorem dX7_stepTo_157 : decode cX7_stepTo 157 = .ok (.putfield 19, 3) := dgX7_stepTo_2 (157, (.putfield 19, 3)) (List.mem_of_getElem? (i := 12) rfl)
theorem dX7_stepTo_160 : decode cX7_stepTo 160 = .ok (.aload_n 0, 1) := dgX7_stepTo_2 (160, (.aload_n 0, 1)) (List.mem_of_getElem? (i := 13) rfl)
theorem dX7_stepTo_161 : decode cX7_stepTo 161 = .ok (.aload_n 3, 1) := dgX7_stepTo_2 (161, (.aload_n 3, 1)) (List.mem_of_getElem? (i := 14) rfl)
theorem dX7_stepTo_162 : decode cX7_stepTo 162 = .ok (.putfield 22, 3) := dgX7_stepTo_2 (162, (.putfield 22, 3)) (List.mem_of_getElem? (i := 15) rfl)
theorem dX7_stepTo_165 : decode cX7_stepTo 165 = .ok (.return_, 1) := dgX7_stepTo_2 (165, (.return_, 1)) (List.mem_of_getElem? (i := 16) rfl)
theorem fl_X7_19 : Cond.fieldLink RX7 19 "LateGlass$Thief" "counts" "[J" ∈ tblG := tg 323 (by decide +kernel) (by decide +kernel)
theorem fl_X7_22 : Cond.fieldLink RX7 22 "LateGlass$Thief" "nextCounts" "[J" ∈ tblG := tg 324 (by decide +kernel) (by decide +kernel)
set_option maxHeartbeats 4000000 in
set_option maxRecDepth 100000 in
theorem th_step (l : Launch) (G : g5_G) (a_th a_ba a_ad a_cn a_nx a_h a_k a_hp a_hl a_lv : Nat) (sz : Nat) (e_fu : Int32) (p_h : Int32) (f_ba : Nat → Int64) (f_ad : Nat → Int32) (f_cn : Nat → Int64) (f_nx : Nat → Int64) (h_p_h : 1 ≤ p_h.toInt ∧ p_h.toInt ≤ 23) (e_tk : TOK e_fu f_ad) : Met l yX7_stepTo (wsG yX7_stepTo cX7_stepTo 8 none) ({ frames := 1, cells := 0, slots := 0, locals := 22 }) (va_Pc [.ref a_th, .int p_h] (g5_P G [(a_th, (oc7 a_h a_k a_ba a_ad e_fu a_cn a_nx a_hp a_hl a_lv)), (a_ba, (arJ G 24 f_ba)), (a_ad, (arI G 1536 f_ad)), (a_cn, (arJ G 2048 f_cn)), (a_nx, (arJ G 2048 f_nx))] sz)) (va_Qv (fun (u : va_W) => (∃ (o_f : Nat → Int64), (u = [(a_th, (oc7 a_h a_k a_ba a_ad e_fu a_nx a_cn a_hp a_hl a_lv)), (a_ba, (arJ G 24 f_ba)), (a_ad, (arI G 1536 f_ad)), (a_cn, (arJ G 2048 f_cn)), (a_nx, (arJ G 2048 o_f))]))) (g5_B G (va_A [(a_th, (oc7 a_h a_k a_ba a_ad e_fu a_cn a_nx a_hp a_hl a_lv)), (a_ba, (arJ G 24 f_ba)), (a_ad, (arI G 1536 f_ad)), (a_cn, (arJ G 2048 f_cn)), (a_nx, (arJ G 2048 f_nx))] sz)) (va_A [(a_th, (oc7 a_h a_k a_ba a_ad e_fu a_cn a_nx a_hp a_hl a_lv)), (a_ba, (arJ G 24 f_ba)), (a_ad, (arI G 1536 f_ad)), (a_cn, (arJ G 2048 f_cn)), (a_nx, (arJ G 2048 f_nx))] sz)) 0 0 (va_A [(a_th, (oc7 a_h a_k a_ba a_ad e_fu a_cn a_nx a_hp a_hl a_lv)), (a_ba, (arJ G 24 f_ba)), (a_ad, (arI G 1536 f_ad)), (a_cn, (arJ G 2048 f_cn)), (a_nx, (arJ G 2048 f_nx))] sz) := by
  refine Met.ofW (cc := cX7_stepTo) (maxL := 8) (ret := none) (by decide +kernel) rfl ?_
  intro p e s m args below meth c s₁ B hml hv
  obtain ⟨rfl, hsz, hP, hK, hD0, hN, hT⟩ := hv
  have hx := B.exec
  have hb := B.bytes
  have hr := B.returns
  have hts : ∀ w ∈ tblG, w.before _ s = true := fun w h => atoms_spec (ws := (wsG yX7_stepTo cX7_stepTo 8 none)) B.pre w (List.mem_cons_of_mem _ h)
  have hown : s.vm.findClass RX7 = some m.cls := findClass_of_methodNamed B.named
  have hlocks := B.notSynchronized
  subst hsz
  have hD := hD0.self (sz := s.heap.size)
  generalize hAe : va_A [(a_th, (oc7 a_h a_k a_ba a_ad e_fu a_cn a_nx a_hp a_hl a_lv)), (a_ba, (arJ G 24 f_ba)), (a_ad, (arI G 1536 f_ad)), (a_cn, (arJ G 2048 f_cn)), (a_nx, (arJ G 2048 f_nx))] s.heap.size = A at hD hT ⊢
  have hA : ∀ q : Nat, s.heap.size ≤ q → A q := fun q h => by rw [← hAe]; exact Or.inr h
  have hS : va_S A s.heap s.heap [] := va_S.rf
  replace hP : va_P G.1 vwCl [(a_th, (oc7 a_h a_k a_ba a_ad e_fu a_cn a_nx a_hp a_hl a_lv)), (a_ba, (arJ G 24 f_ba)), (a_ad, (arI G 1536 f_ad)), (a_cn, (arJ G 2048 f_cn)), (a_nx, (arJ G 2048 f_nx))] s.heap := hP
  have hl := lv_entry ([.ref a_th, .int p_h]) (n := 8) (Nat.le_of_ble_eq_true rfl)
  rw [lg_entry_eq]
  generalize (lg_sl ([.ref a_th, .int p_h]) ++ List.replicate (8 - (lg_sl ([.ref a_th, .int p_h])).length) Slot.unset).toArray = ls at hl ⊢
  replace hl : lv_has ls 8 [(0, .ref a_th), (1, .int p_h)] := hl
  have hfu := tk_fu e_tk
  refine lv_aload_n hx hb dX7_stepTo_0 rfl (lv_at hl 0 rfl) ?_
  refine va_get (D := G.1) (ci := 7) (v := .int e_fu) (C := RX7) (T := TX7) (N := 10) hx hb hts inG_X7 hown hK hP 0 rfl rfl 4 (by decide +kernel) (hts _ fl_X7_89) (fun _ h9 => h9) rfl dX7_stepTo_1 ?_
  refine lv_iconst (v := 1) hx hb dX7_stepTo_4 (by decide +kernel) ?_
  refine lv_iadd hx hb dX7_stepTo_5 ?_
  have t_1 : (e_fu + 1).toInt = e_fu.toInt + 1 := g5_iadd (a := e_fu.toInt) (b := 1) (by rfl) (by decide +kernel) (by omega) (by omega)
  refine W.eq (g2 := F0 m 6 ls [.int (e_fu + 1)]) rfl ?_
  refine lv_istore_n (lv' := [(2, .int (e_fu + 1)), (0, .ref a_th), (1, .int p_h)]) hx hb dX7_stepTo_6 rfl hl (by decide +kernel) rfl ?_
  clear hl
  intro ls hl
  refine lv_iconst (v := 0) hx hb dX7_stepTo_7 (by decide +kernel) ?_
  refine lv_istore_n (lv' := [(3, .int 0), (2, .int (e_fu + 1)), (0, .ref a_th), (1, .int p_h)]) hx hb dX7_stepTo_8 rfl hl (by decide +kernel) rfl ?_
  clear hl
  intro ls hl
  refine g5_loop (α := (Int32) × (Nat → Int64)) (fun (q : (Int32) × (Nat → Int64)) (ls : Array Slot) (H : Heap) (locs : List Loc) => match q with | (k_c, k_f) => lv_has ls 8 [(3, .int k_c), (2, .int (e_fu + 1)), (0, .ref a_th), (1, .int p_h)] ∧ va_P G.1 vwCl [(a_th, (oc7 a_h a_k a_ba a_ad e_fu a_cn a_nx a_hp a_hl a_lv)), (a_ba, (arJ G 24 f_ba)), (a_ad, (arI G 1536 f_ad)), (a_cn, (arJ G 2048 f_cn)), (a_nx, (arJ G 2048 k_f))] H ∧ va_D A [(a_th, (oc7 a_h a_k a_ba a_ad e_fu a_cn a_nx a_hp a_hl a_lv)), (a_ba, (arJ G 24 f_ba)), (a_ad, (arI G 1536 f_ad)), (a_cn, (arJ G 2048 f_cn)), (a_nx, (arJ G 2048 k_f))] ∧ va_S A s.heap H locs ∧ (0 ≤ k_c.toInt ∧ k_c.toInt ≤ 64)) (fun (q : (Int32) × (Nat → Int64)) => match q with | (k_c, k_f) => Int.toNat (64 - k_c.toInt)) (0, f_nx) ⟨lv_sub hl [0, 1, 2, 3] rfl, hP, hD, hS, ⟨by decide, by decide⟩⟩ ?_
  rintro ⟨k_c, k_f⟩ ls H locs ⟨hl, hP, hD, hS, (i_2 : 0 ≤ k_c.toInt ∧ k_c.toInt ≤ 64)⟩ ih_9_3
  replace hl : lv_has ls 8 [(3, .int k_c), (2, .int (e_fu + 1)), (0, .ref a_th), (1, .int p_h)] := hl
  refine g5_rs [(a_th, (oc7 a_h a_k a_ba a_ad e_fu a_cn a_nx a_hp a_hl a_lv)), (a_ba, (arJ G 24 f_ba)), (a_ad, (arI G 1536 f_ad)), (a_cn, (arJ G 2048 f_cn)), (a_nx, (arJ G 2048 k_f))] hP hD ?_
  clear hP hD
  intro hP hD
  refine lv_iload_n hx hb dX7_stepTo_9 rfl (lv_at hl 0 rfl) ?_
  refine lv_bipush (v := 64) hx hb dX7_stepTo_10 (by decide +kernel) ?_
  refine lv_icmp_ge (tgt := 147) hx hb dX7_stepTo_12 (by decide +kernel) (fun c_4 => ?_) (fun c_4 => ?_)
  ·
    have i_4 : k_c.toInt ≥ 64 := g5_ge (a := k_c.toInt) (b := 64) rfl (by decide +kernel) c_4
    refine lv_aload_n hx hb dX7_stepTo_147 rfl (lv_at hl 2 rfl) ?_
    refine va_get (D := G.1) (ci := 7) (v := .ref a_cn) (C := RX7) (T := TX7) (N := 10) hx hb hts inG_X7 hown hK hP 0 rfl rfl 5 (by decide +kernel) (hts _ fl_X7_19) (fun _ h9 => h9) rfl dX7_stepTo_148 ?_
    refine lv_astore_n (lv' := [(3, .ref a_cn), (2, .int (e_fu + 1)), (0, .ref a_th), (1, .int p_h)]) hx hb dX7_stepTo_151 rfl hl (by decide +kernel) rfl ?_
    clear hl
    intro ls hl
    refine lv_aload_n hx hb dX7_stepTo_152 rfl (lv_at hl 2 rfl) ?_
    refine W.eq (g2 := F0 m 153 ls [.ref a_th]) rfl ?_
    refine lv_aload_n hx hb dX7_stepTo_153 rfl (lv_at hl 2 rfl) ?_
    refine va_get (D := G.1) (ci := 7) (v := .ref a_nx) (C := RX7) (T := TX7) (N := 10) hx hb hts inG_X7 hown hK hP 0 rfl rfl 6 (by decide +kernel) (hts _ fl_X7_22) (fun _ h9 => h9) rfl dX7_stepTo_154 ?_
    refine va_put (D := G.1) (ci := 7) (v := .ref a_nx) (ty := .array .long) (C := RX7) (T := TX7) (N := 10) hx hb hts inG_X7 tyX7 tyX7_ok nmX7 hown hK hP hD hS 0 rfl rfl 5 (by decide +kernel) (hts _ fl_X7_19) (fun _ h9 => h9) rfl (by decide +kernel) rfl rfl (Nat.le_of_ble_eq_true rfl) dX7_stepTo_157 ?_
    clear hP hD hS
    intro H locs hP hD hS
    refine g5_rs [(a_th, (oc7 a_h a_k a_ba a_ad e_fu a_nx a_nx a_hp a_hl a_lv)), (a_ba, (arJ G 24 f_ba)), (a_ad, (arI G 1536 f_ad)), (a_cn, (arJ G 2048 f_cn)), (a_nx, (arJ G 2048 k_f))] hP hD ?_
    clear hP hD
    intro hP hD
    refine lv_aload_n hx hb dX7_stepTo_160 rfl (lv_at hl 2 rfl) ?_
    refine lv_aload_n hx hb dX7_stepTo_161 rfl (lv_at hl 0 rfl) ?_
    refine W.eq (g2 := F0 m 162 ls [.ref a_cn, .ref a_th]) rfl ?_
    refine va_put (D := G.1) (ci := 7) (v := .ref a_cn) (ty := .array .long) (C := RX7) (T := TX7) (N := 10) hx hb hts inG_X7 tyX7 tyX7_ok nmX7 hown hK hP hD hS 0 rfl rfl 6 (by decide +kernel) (hts _ fl_X7_22) (fun _ h9 => h9) rfl (by decide +kernel) rfl rfl (Nat.le_of_ble_eq_true rfl) dX7_stepTo_162 ?_
    clear hP hD hS
    intro H locs hP hD hS
    refine g5_rs [(a_th, (oc7 a_h a_k a_ba a_ad e_fu a_nx a_cn a_hp a_hl a_lv)), (a_ba, (arJ G 24 f_ba)), (a_ad, (arI G 1536 f_ad)), (a_cn, (arJ G 2048 f_cn)), (a_nx, (arJ G 2048 k_f))] hP hD ?_
    clear hP hD
    intro hP hD
    exact W.vret hx hb hr (fun t ht hW => ⟨⟨[(a_th, (oc7 a_h a_k a_ba a_ad e_fu a_nx a_cn a_hp a_hl a_lv)), (a_ba, (arJ G 24 f_ba)), (a_ad, (arI G 1536 f_ad)), (a_cn, (arJ G 2048 f_cn)), (a_nx, (arJ G 2048 k_f))], rfl, ⟨k_f, rfl⟩, by rw [ht]; exact hP.sub [0, 1, 2, 3, 4] rfl, hD.sub [0, 1, 2, 3, 4] (by decide +kernel) rfl⟩, hS.F ht⟩) hS.2.2 dX7_stepTo_165
  ·
    have i_4 : k_c.toInt < 64 := g5_geN (a := k_c.toInt) (b := 64) rfl (by decide +kernel) c_4
    refine lv_iconst (v := 0) hx hb dX7_stepTo_15 (by decide +kernel) ?_
    refine lv_istore (lv' := [(4, .int 0), (3, .int k_c), (2, .int (e_fu + 1)), (0, .ref a_th), (1, .int p_h)]) hx hb dX7_stepTo_16 hl (by decide +kernel) rfl ?_
    clear hl
    intro ls hl
    refine g5_loop (α := (Int32) × (Nat → Int64)) (fun (q : (Int32) × (Nat → Int64)) (ls : Array Slot) (H : Heap) (locs : List Loc) => match q with | (m_m, m_f) => lv_has ls 8 [(4, .int m_m), (3, .int k_c), (2, .int (e_fu + 1)), (0, .ref a_th), (1, .int p_h)] ∧ va_P G.1 vwCl [(a_th, (oc7 a_h a_k a_ba a_ad e_fu a_cn a_nx a_hp a_hl a_lv)), (a_ba, (arJ G 24 f_ba)), (a_ad, (arI G 1536 f_ad)), (a_cn, (arJ G 2048 f_cn)), (a_nx, (arJ G 2048 m_f))] H ∧ va_D A [(a_th, (oc7 a_h a_k a_ba a_ad e_fu a_cn a_nx a_hp a_hl a_lv)), (a_ba, (arJ G 24 f_ba)), (a_ad, (arI G 1536 f_ad)), (a_cn, (arJ G 2048 f_cn)), (a_nx, (arJ G 2048 m_f))] ∧ va_S A s.heap H locs ∧ (0 ≤ m_m.toInt ∧ m_m.toInt ≤ 32)) (fun (q : (Int32) × (Nat → Int64)) => match q with | (m_m, m_f) => Int.toNat (32 - m_m.toInt)) (0, k_f) ⟨lv_sub hl [0, 1, 2, 3, 4] rfl, hP, hD, hS, ⟨by decide, by decide⟩⟩ ?_
    rintro ⟨m_m, m_f⟩ ls H locs ⟨hl, hP, hD, hS, (i_5 : 0 ≤ m_m.toInt ∧ m_m.toInt ≤ 32)⟩ ih_18_6
    replace hl : lv_has ls 8 [(4, .int m_m), (3, .int k_c), (2, .int (e_fu + 1)), (0, .ref a_th), (1, .int p_h)] := hl
    refine g5_rs [(a_th, (oc7 a_h a_k a_ba a_ad e_fu a_cn a_nx a_hp a_hl a_lv)), (a_ba, (arJ G 24 f_ba)), (a_ad, (arI G 1536 f_ad)), (a_cn, (arJ G 2048 f_cn)), (a_nx, (arJ G 2048 m_f))] hP hD ?_
    clear hP hD
    intro hP hD
    refine lv_iload hx hb dX7_stepTo_18 (lv_at hl 0 rfl) ?_
    refine lv_iload_n hx hb dX7_stepTo_20 rfl (lv_at hl 2 rfl) ?_
    refine lv_icmp_ge (tgt := 42) hx hb dX7_stepTo_21 (by decide +kernel) (fun c_7 => ?_) (fun c_7 => ?_)
    ·
      have i_7 : m_m.toInt ≥ (e_fu.toInt + 1) := by have z := g5_ge (a := m_m.toInt) (b := (e_fu + 1).toInt) (by rfl) (by rfl) c_7; omega
      refine lv_aload_n hx hb dX7_stepTo_42 rfl (lv_at hl 3 rfl) ?_
      refine va_get (D := G.1) (ci := 7) (v := .ref a_ad) (C := RX7) (T := TX7) (N := 10) hx hb hts inG_X7 hown hK hP 0 rfl rfl 3 (by decide +kernel) (hts _ fl_X7_15) (fun _ h9 => h9) rfl dX7_stepTo_43 ?_
      refine lv_iload_n hx hb dX7_stepTo_46 rfl (lv_at hl 4 rfl) ?_
      refine lv_bipush (v := 64) hx hb dX7_stepTo_47 (by decide +kernel) ?_
      refine W.eq (g2 := F0 m 49 ls [.int 64, .int p_h, .ref a_ad]) rfl ?_
      refine lv_imul hx hb dX7_stepTo_49 ?_
      have t_8 : (p_h * 64).toInt = p_h.toInt * 64 := g5_imul (a := p_h.toInt) (b := 64) (by rfl) (by decide +kernel) (by omega) (by omega)
      refine lv_iload_n hx hb dX7_stepTo_50 rfl (lv_at hl 1 rfl) ?_
      refine lv_iadd hx hb dX7_stepTo_51 ?_
      have t_9 : ((p_h * 64) + k_c).toInt = (p_h * 64).toInt + k_c.toInt := g5_iadd (a := (p_h * 64).toInt) (b := k_c.toInt) (by rfl) (by rfl) (by omega) (by omega)
      refine va_iald hx hb hK hP 2 0 rfl rfl (i := ((p_h * 64) + k_c)) (vp_in_iff.mpr ⟨by omega, by omega⟩) dX7_stepTo_52 ?_
      have hp_10 : 0 ≤ (f_ad ((p_h * 64) + k_c).toNatClampNeg).toInt ∧ (f_ad ((p_h * 64) + k_c).toNatClampNeg).toInt ≤ e_fu.toInt := tk_ad e_tk (by have zz := g5_clamp ((p_h * 64) + k_c); omega)
      refine lv_istore (lv' := [(4, .int (f_ad ((p_h * 64) + k_c).toNatClampNeg)), (3, .int k_c), (2, .int (e_fu + 1)), (0, .ref a_th), (1, .int p_h)]) hx hb dX7_stepTo_53 hl (by decide +kernel) rfl ?_
      clear hl
      intro ls hl
      refine W.eq (g2 := F0 m 55 ls []) rfl ?_
      refine lv_iconst (v := 0) hx hb dX7_stepTo_55 (by decide +kernel) ?_
      refine lv_istore (lv' := [(5, .int 0), (4, .int (f_ad ((p_h * 64) + k_c).toNatClampNeg)), (3, .int k_c), (2, .int (e_fu + 1)), (0, .ref a_th), (1, .int p_h)]) hx hb dX7_stepTo_56 hl (by decide +kernel) rfl ?_
      clear hl
      intro ls hl
      refine g5_loop (α := (Int32) × (Nat → Int64)) (fun (q : (Int32) × (Nat → Int64)) (ls : Array Slot) (H : Heap) (locs : List Loc) => match q with | (n_w, n_f) => lv_has ls 8 [(5, .int n_w), (4, .int (f_ad ((p_h * 64) + k_c).toNatClampNeg)), (3, .int k_c), (2, .int (e_fu + 1)), (0, .ref a_th), (1, .int p_h)] ∧ va_P G.1 vwCl [(a_th, (oc7 a_h a_k a_ba a_ad e_fu a_cn a_nx a_hp a_hl a_lv)), (a_ba, (arJ G 24 f_ba)), (a_ad, (arI G 1536 f_ad)), (a_cn, (arJ G 2048 f_cn)), (a_nx, (arJ G 2048 n_f))] H ∧ va_D A [(a_th, (oc7 a_h a_k a_ba a_ad e_fu a_cn a_nx a_hp a_hl a_lv)), (a_ba, (arJ G 24 f_ba)), (a_ad, (arI G 1536 f_ad)), (a_cn, (arJ G 2048 f_cn)), (a_nx, (arJ G 2048 n_f))] ∧ va_S A s.heap H locs ∧ (0 ≤ n_w.toInt ∧ n_w.toInt ≤ 5)) (fun (q : (Int32) × (Nat → Int64)) => match q with | (n_w, n_f) => Int.toNat (5 - n_w.toInt)) (0, m_f) ⟨lv_sub hl [0, 1, 2, 3, 4, 5] rfl, hP, hD, hS, ⟨by decide, by decide⟩⟩ ?_
      rintro ⟨n_w, n_f⟩ ls H locs ⟨hl, hP, hD, hS, (i_11 : 0 ≤ n_w.toInt ∧ n_w.toInt ≤ 5)⟩ ih_58_12
      replace hl : lv_has ls 8 [(5, .int n_w), (4, .int (f_ad ((p_h * 64) + k_c).toNatClampNeg)), (3, .int k_c), (2, .int (e_fu + 1)), (0, .ref a_th), (1, .int p_h)] := hl
      refine g5_rs [(a_th, (oc7 a_h a_k a_ba a_ad e_fu a_cn a_nx a_hp a_hl a_lv)), (a_ba, (arJ G 24 f_ba)), (a_ad, (arI G 1536 f_ad)), (a_cn, (arJ G 2048 f_cn)), (a_nx, (arJ G 2048 n_f))] hP hD ?_
      clear hP hD
      intro hP hD
      refine lv_iload hx hb dX7_stepTo_58 (lv_at hl 0 rfl) ?_
      refine lv_iconst (v := 4) hx hb dX7_stepTo_60 (by decide +kernel) ?_
      refine lv_icmp_gt (tgt := 141) hx hb dX7_stepTo_61 (by decide +kernel) (fun c_13 => ?_) (fun c_13 => ?_)
      ·
        have i_13 : n_w.toInt > 4 := g5_gt (a := n_w.toInt) (b := 4) rfl (by decide +kernel) c_13
        refine lv_iinc (v := (k_c + 1)) (lv' := [(3, .int (k_c + 1)), (5, .int n_w), (4, .int (f_ad ((p_h * 64) + k_c).toNatClampNeg)), (2, .int (e_fu + 1)), (0, .ref a_th), (1, .int p_h)]) hx hb dX7_stepTo_141 hl (k := 2) rfl rfl (by decide +kernel) rfl ?_
        clear hl
        intro ls hl
        have t_14 : (k_c + 1).toInt = k_c.toInt + 1 := g5_iadd (a := k_c.toInt) (b := 1) rfl (by decide +kernel) (by omega) (by omega)
        refine lv_goto (tgt := 9) hx hb dX7_stepTo_144 (by decide +kernel) ?_
        exact ih_9_3 ((k_c + 1), n_f) ls H locs (show Int.toNat (64 - (k_c + 1).toInt) < Int.toNat (64 - k_c.toInt) from g_up (show k_c.toInt < (k_c + 1).toInt by omega) (show k_c.toInt < 64 by omega)) ⟨lv_sub hl [0, 3, 4, 5] rfl, hP, hD, hS, ⟨by omega, by omega⟩⟩
      ·
        have i_13 : n_w.toInt ≤ 4 := g5_gtN (a := n_w.toInt) (b := 4) rfl (by decide +kernel) c_13
        refine lv_aload_n hx hb dX7_stepTo_64 rfl (lv_at hl 4 rfl) ?_
        refine va_get (D := G.1) (ci := 7) (v := .ref a_ba) (C := RX7) (T := TX7) (N := 10) hx hb hts inG_X7 hown hK hP 0 rfl rfl 2 (by decide +kernel) (hts _ fl_X7_9) (fun _ h9 => h9) rfl dX7_stepTo_65 ?_
        refine lv_iload_n hx hb dX7_stepTo_68 rfl (lv_at hl 5 rfl) ?_
        refine va_lald hx hb hK hP 1 1 rfl rfl (i := p_h) (vp_in_iff.mpr ⟨by omega, by omega⟩) dX7_stepTo_69 ?_
        refine W.eq (g2 := F0 m 70 ls [.long (f_ba p_h.toNatClampNeg)]) rfl ?_
        refine lv_iload_n hx hb dX7_stepTo_70 rfl (lv_at hl 2 rfl) ?_
        obtain ⟨hPc, hDc, hFc⟩ := g5_sub3 (wc := []) hP hD hS hA [] (by decide +kernel) rfl
        refine va_calli (va_runSN (As := [.long (f_ba p_h.toNatClampNeg), .int k_c]) (rest := []) ⟨hx, hb, hml, hown, hts⟩ (k_isOn l G H.size k_c (f_ba p_h.toNatClampNeg) ⟨by omega, by omega⟩) ⟨va_cnB 2 hts gW_X11_isOn rfl rfl rfl (hN.1 _ g5_nw_X7_98) (hts _ ini_X11) hs_X11_isOn ⟨Nat.le_of_ble_eq_true rfl, Nat.le_of_ble_eq_true rfl⟩, hts _ st_X11_isOn, trivial⟩ (g5_preS hPc hK hDc hN hT hS hFc) rfl rfl hl.1 rfl (lv_room (Nat.le_of_ble_eq_true rfl)) dX7_stepTo_71 ⟨Nat.le_of_ble_eq_true rfl, Nat.le_of_ble_eq_true rfl⟩) hS (fun q _ h => hFc q h) hFc (fun r u t H locs ht hvm hw hB hz1 hk1 hS => ?_)
        obtain ⟨hP1, hD1⟩ := hB
        have hP1 := g5_ht ht hP1
        rcases hw with ⟨(i_15 : onB (f_ba p_h.toNatClampNeg) k_c.toInt = false), rfl, rfl⟩ | ⟨(i_16 : onB (f_ba p_h.toNatClampNeg) k_c.toInt = true), rfl, rfl⟩
        ·
          have hJ9 := g5_same hP hk1
          clear hP hPc hDc hFc ht hvm hz1 hk1 hP1 hD1
          have hP := hJ9
          clear hJ9
          refine lv_if_ne (tgt := 141) hx hb dX7_stepTo_74 (by decide +kernel) (fun c_17 => ?_) (fun c_17 => ?_)
          ·
            exact absurd c_17 (by decide +kernel)
          ·
            refine lv_iload_n hx hb dX7_stepTo_77 rfl (lv_at hl 2 rfl) ?_
            refine lv_iload hx hb dX7_stepTo_78 (lv_at hl 0 rfl) ?_
            obtain ⟨hPc, hDc, hFc⟩ := g5_sub3 (wc := []) hP hD hS hA [] (by decide +kernel) rfl
            refine va_calli (va_runSN (As := [.int k_c, .int n_w]) (rest := []) ⟨hx, hb, hml, hown, hts⟩ (k_beside l G H.size k_c n_w ⟨by omega, by omega⟩) ⟨va_cnB 2 hts gW_X11_beside rfl rfl rfl (hN.1 _ g5_nw_X7_105) (hts _ ini_X11) hs_X11_beside ⟨Nat.le_of_ble_eq_true rfl, Nat.le_of_ble_eq_true rfl⟩, hts _ st_X11_beside, trivial⟩ (g5_preS hPc hK hDc hN hT hS hFc) rfl rfl hl.1 rfl (lv_room (Nat.le_of_ble_eq_true rfl)) dX7_stepTo_80 ⟨Nat.le_of_ble_eq_true rfl, Nat.le_of_ble_eq_true rfl⟩) hS (fun q _ h => hFc q h) hFc (fun r u t H locs ht hvm hw hB hz1 hk1 hS => ?_)
            obtain ⟨hP1, hD1⟩ := hB
            have hP1 := g5_ht ht hP1
            obtain ⟨z20, (i_18 : z20.toInt = bs k_c.toInt n_w.toInt), (i_19 : -1 ≤ z20.toInt ∧ z20.toInt ≤ 63), y21, rfl⟩ := hw
            have hJ9 := g5_same hP hk1
            clear hP hPc hDc hFc ht hvm hz1 hk1 hP1 hD1
            have hP := hJ9
            clear hJ9
            refine g5_ti (v := z20) y21 ?_
            refine lv_istore (lv' := [(6, .int z20), (5, .int n_w), (4, .int (f_ad ((p_h * 64) + k_c).toNatClampNeg)), (3, .int k_c), (2, .int (e_fu + 1)), (0, .ref a_th), (1, .int p_h)]) hx hb dX7_stepTo_83 hl (by decide +kernel) rfl ?_
            clear hl
            intro ls hl
            refine W.eq (g2 := F0 m 85 ls []) rfl ?_
            refine lv_iconst (v := 0) hx hb dX7_stepTo_85 (by decide +kernel) ?_
            refine lv_istore (lv' := [(7, .int 0), (6, .int z20), (5, .int n_w), (4, .int (f_ad ((p_h * 64) + k_c).toNatClampNeg)), (3, .int k_c), (2, .int (e_fu + 1)), (0, .ref a_th), (1, .int p_h)]) hx hb dX7_stepTo_86 hl (by decide +kernel) rfl ?_
            clear hl
            intro ls hl
            refine g5_loop (α := (Int32) × (Nat → Int64)) (fun (q : (Int32) × (Nat → Int64)) (ls : Array Slot) (H : Heap) (locs : List Loc) => match q with | (q_m, q_f) => lv_has ls 8 [(7, .int q_m), (6, .int z20), (5, .int n_w), (4, .int (f_ad ((p_h * 64) + k_c).toNatClampNeg)), (3, .int k_c), (2, .int (e_fu + 1)), (0, .ref a_th), (1, .int p_h)] ∧ va_P G.1 vwCl [(a_th, (oc7 a_h a_k a_ba a_ad e_fu a_cn a_nx a_hp a_hl a_lv)), (a_ba, (arJ G 24 f_ba)), (a_ad, (arI G 1536 f_ad)), (a_cn, (arJ G 2048 f_cn)), (a_nx, (arJ G 2048 q_f))] H ∧ va_D A [(a_th, (oc7 a_h a_k a_ba a_ad e_fu a_cn a_nx a_hp a_hl a_lv)), (a_ba, (arJ G 24 f_ba)), (a_ad, (arI G 1536 f_ad)), (a_cn, (arJ G 2048 f_cn)), (a_nx, (arJ G 2048 q_f))] ∧ va_S A s.heap H locs ∧ (0 ≤ q_m.toInt ∧ q_m.toInt ≤ 32)) (fun (q : (Int32) × (Nat → Int64)) => match q with | (q_m, q_f) => Int.toNat (32 - q_m.toInt)) (0, n_f) ⟨lv_sub hl [0, 1, 2, 3, 4, 5, 6, 7] rfl, hP, hD, hS, ⟨by decide, by decide⟩⟩ ?_
            rintro ⟨q_m, q_f⟩ ls H locs ⟨hl, hP, hD, hS, (i_22 : 0 ≤ q_m.toInt ∧ q_m.toInt ≤ 32)⟩ ih_88_23
            replace hl : lv_has ls 8 [(7, .int q_m), (6, .int z20), (5, .int n_w), (4, .int (f_ad ((p_h * 64) + k_c).toNatClampNeg)), (3, .int k_c), (2, .int (e_fu + 1)), (0, .ref a_th), (1, .int p_h)] := hl
            refine g5_rs [(a_th, (oc7 a_h a_k a_ba a_ad e_fu a_cn a_nx a_hp a_hl a_lv)), (a_ba, (arJ G 24 f_ba)), (a_ad, (arI G 1536 f_ad)), (a_cn, (arJ G 2048 f_cn)), (a_nx, (arJ G 2048 q_f))] hP hD ?_
            clear hP hD
            intro hP hD
            refine lv_iload hx hb dX7_stepTo_88 (lv_at hl 0 rfl) ?_
            refine lv_iload_n hx hb dX7_stepTo_90 rfl (lv_at hl 5 rfl) ?_
            refine lv_icmp_ge (tgt := 135) hx hb dX7_stepTo_91 (by decide +kernel) (fun c_24 => ?_) (fun c_24 => ?_)
            ·
              have i_24 : q_m.toInt ≥ (e_fu.toInt + 1) := by have z := g5_ge (a := q_m.toInt) (b := (e_fu + 1).toInt) (by rfl) (by rfl) c_24; omega
              refine lv_iinc (v := (n_w + 1)) (lv' := [(5, .int (n_w + 1)), (7, .int q_m), (6, .int z20), (4, .int (f_ad ((p_h * 64) + k_c).toNatClampNeg)), (3, .int k_c), (2, .int (e_fu + 1)), (0, .ref a_th), (1, .int p_h)]) hx hb dX7_stepTo_135 hl (k := 2) rfl rfl (by decide +kernel) rfl ?_
              clear hl
              intro ls hl
              have t_25 : (n_w + 1).toInt = n_w.toInt + 1 := g5_iadd (a := n_w.toInt) (b := 1) rfl (by decide +kernel) (by omega) (by omega)
              refine lv_goto (tgt := 58) hx hb dX7_stepTo_138 (by decide +kernel) ?_
              exact ih_58_12 ((n_w + 1), q_f) ls H locs (show Int.toNat (5 - (n_w + 1).toInt) < Int.toNat (5 - n_w.toInt) from g_up (show n_w.toInt < (n_w + 1).toInt by omega) (show n_w.toInt < 5 by omega)) ⟨lv_sub hl [0, 3, 4, 5, 6, 7] rfl, hP, hD, hS, ⟨by omega, by omega⟩⟩
            ·
              have i_24 : q_m.toInt < (e_fu.toInt + 1) := by have z := g5_geN (a := q_m.toInt) (b := (e_fu + 1).toInt) (by rfl) (by rfl) c_24; omega
              refine lv_iload hx hb dX7_stepTo_94 (lv_at hl 1 rfl) ?_
              refine lv_iconst (v := (-1)) hx hb dX7_stepTo_96 (by decide +kernel) ?_
              refine lv_icmp_eq (tgt := 135) hx hb dX7_stepTo_97 (by decide +kernel) (fun c_26 => ?_) (fun c_26 => ?_)
              ·
                have i_26 : z20.toInt = (-1) := g5_eq (a := z20.toInt) (b := (-1)) rfl (by decide +kernel) c_26
                refine lv_iinc (v := (n_w + 1)) (lv' := [(5, .int (n_w + 1)), (7, .int q_m), (6, .int z20), (4, .int (f_ad ((p_h * 64) + k_c).toNatClampNeg)), (3, .int k_c), (2, .int (e_fu + 1)), (0, .ref a_th), (1, .int p_h)]) hx hb dX7_stepTo_135 hl (k := 2) rfl rfl (by decide +kernel) rfl ?_
                clear hl
                intro ls hl
                have t_27 : (n_w + 1).toInt = n_w.toInt + 1 := g5_iadd (a := n_w.toInt) (b := 1) rfl (by decide +kernel) (by omega) (by omega)
                refine lv_goto (tgt := 58) hx hb dX7_stepTo_138 (by decide +kernel) ?_
                exact ih_58_12 ((n_w + 1), q_f) ls H locs (show Int.toNat (5 - (n_w + 1).toInt) < Int.toNat (5 - n_w.toInt) from g_up (show n_w.toInt < (n_w + 1).toInt by omega) (show n_w.toInt < 5 by omega)) ⟨lv_sub hl [0, 3, 4, 5, 6, 7] rfl, hP, hD, hS, ⟨by omega, by omega⟩⟩
              ·
                have n_26 : gNe (z20.toInt) ((-1)) := g5_eqN (a := z20.toInt) (b := (-1)) rfl (by decide +kernel) c_26
                have i_26 : z20.toInt ≥ 0 := by have z := g5_eqN (a := z20.toInt) (b := (-1)) (by rfl) (by decide +kernel) c_26; omega
                refine lv_aload_n hx hb dX7_stepTo_100 rfl (lv_at hl 6 rfl) ?_
                refine va_get (D := G.1) (ci := 7) (v := .ref a_nx) (C := RX7) (T := TX7) (N := 10) hx hb hts inG_X7 hown hK hP 0 rfl rfl 6 (by decide +kernel) (hts _ fl_X7_22) (fun _ h9 => h9) rfl dX7_stepTo_101 ?_
                refine lv_iload_n hx hb dX7_stepTo_104 rfl (lv_at hl 4 rfl) ?_
                refine lv_iload_n hx hb dX7_stepTo_105 rfl (lv_at hl 5 rfl) ?_
                refine W.eq (g2 := F0 m 106 ls [.int (e_fu + 1), .int k_c, .ref a_nx]) rfl ?_
                refine lv_imul hx hb dX7_stepTo_106 ?_
                have hm_28 := g_mulc (c := k_c) (m := (e_fu + 1)) ⟨by omega, by omega⟩ ⟨by omega, by omega⟩
                refine lv_iload hx hb dX7_stepTo_107 (lv_at hl 0 rfl) ?_
                refine lv_iload hx hb dX7_stepTo_109 (lv_at hl 3 rfl) ?_
                refine lv_ior hx hb dX7_stepTo_111 ?_
                have ho_29 : 0 ≤ (q_m ||| (f_ad ((p_h * 64) + k_c).toNatClampNeg)).toInt ∧ (q_m ||| (f_ad ((p_h * 64) + k_c).toNatClampNeg)).toInt ≤ e_fu.toInt := tk_or e_tk ⟨by omega, by omega⟩ ⟨by omega, by omega⟩
                refine lv_iadd hx hb dX7_stepTo_112 ?_
                have t_30 : ((k_c * (e_fu + 1)) + (q_m ||| (f_ad ((p_h * 64) + k_c).toNatClampNeg))).toInt = (k_c * (e_fu + 1)).toInt + (q_m ||| (f_ad ((p_h * 64) + k_c).toNatClampNeg)).toInt := g5_iadd (a := (k_c * (e_fu + 1)).toInt) (b := (q_m ||| (f_ad ((p_h * 64) + k_c).toNatClampNeg)).toInt) (by rfl) (by rfl) (by omega) (by omega)
                refine W.eq (g2 := F0 m 113 ls [.int ((k_c * (e_fu + 1)) + (q_m ||| (f_ad ((p_h * 64) + k_c).toNatClampNeg))), .ref a_nx]) rfl ?_
                refine lv_dup2_11 hx hb dX7_stepTo_113 rfl rfl ?_
                refine va_lald hx hb hK hP 4 1 rfl rfl (i := ((k_c * (e_fu + 1)) + (q_m ||| (f_ad ((p_h * 64) + k_c).toNatClampNeg)))) (vp_in_iff.mpr ⟨by omega, by omega⟩) dX7_stepTo_114 ?_
                refine lv_aload_n hx hb dX7_stepTo_115 rfl (lv_at hl 6 rfl) ?_
                refine va_get (D := G.1) (ci := 7) (v := .ref a_cn) (C := RX7) (T := TX7) (N := 10) hx hb hts inG_X7 hown hK hP 0 rfl rfl 5 (by decide +kernel) (hts _ fl_X7_19) (fun _ h9 => h9) rfl dX7_stepTo_116 ?_
                refine lv_iload hx hb dX7_stepTo_119 (lv_at hl 1 rfl) ?_
                refine W.eq (g2 := F0 m 121 ls [.int z20, .ref a_cn, .long (q_f ((k_c * (e_fu + 1)) + (q_m ||| (f_ad ((p_h * 64) + k_c).toNatClampNeg))).toNatClampNeg), .int ((k_c * (e_fu + 1)) + (q_m ||| (f_ad ((p_h * 64) + k_c).toNatClampNeg))), .ref a_nx]) rfl ?_
                refine lv_iload_n hx hb dX7_stepTo_121 rfl (lv_at hl 5 rfl) ?_
                refine lv_imul hx hb dX7_stepTo_122 ?_
                have hm_31 := g_mulc (c := z20) (m := (e_fu + 1)) ⟨by omega, by omega⟩ ⟨by omega, by omega⟩
                refine lv_iload hx hb dX7_stepTo_123 (lv_at hl 0 rfl) ?_
                refine lv_iadd hx hb dX7_stepTo_125 ?_
                have t_32 : ((z20 * (e_fu + 1)) + q_m).toInt = (z20 * (e_fu + 1)).toInt + q_m.toInt := g5_iadd (a := (z20 * (e_fu + 1)).toInt) (b := q_m.toInt) (by rfl) (by rfl) (by omega) (by omega)
                refine va_lald hx hb hK hP 3 1 rfl rfl (i := ((z20 * (e_fu + 1)) + q_m)) (vp_in_iff.mpr ⟨by omega, by omega⟩) dX7_stepTo_126 ?_
                refine W.eq (g2 := F0 m 127 ls [.long (f_cn ((z20 * (e_fu + 1)) + q_m).toNatClampNeg), .long (q_f ((k_c * (e_fu + 1)) + (q_m ||| (f_ad ((p_h * 64) + k_c).toNatClampNeg))).toNatClampNeg), .int ((k_c * (e_fu + 1)) + (q_m ||| (f_ad ((p_h * 64) + k_c).toNatClampNeg))), .ref a_nx]) rfl ?_
                refine lv_ladd hx hb dX7_stepTo_127 ?_
                refine va_last hx hb hK hP hD hS 4 1 rfl rfl (i := ((k_c * (e_fu + 1)) + (q_m ||| (f_ad ((p_h * 64) + k_c).toNatClampNeg)))) (x := ((q_f ((k_c * (e_fu + 1)) + (q_m ||| (f_ad ((p_h * 64) + k_c).toNatClampNeg))).toNatClampNeg) + (f_cn ((z20 * (e_fu + 1)) + q_m).toNatClampNeg))) (vp_in_iff.mpr ⟨by omega, by omega⟩) dX7_stepTo_128 ?_
                clear hP hD hS
                intro H locs hP hD hS
                refine g5_rs [(a_th, (oc7 a_h a_k a_ba a_ad e_fu a_cn a_nx a_hp a_hl a_lv)), (a_ba, (arJ G 24 f_ba)), (a_ad, (arI G 1536 f_ad)), (a_cn, (arJ G 2048 f_cn)), (a_nx, (arJ G 2048 (vp_updL q_f ((k_c * (e_fu + 1)) + (q_m ||| (f_ad ((p_h * 64) + k_c).toNatClampNeg))).toNatClampNeg ((q_f ((k_c * (e_fu + 1)) + (q_m ||| (f_ad ((p_h * 64) + k_c).toNatClampNeg))).toNatClampNeg) + (f_cn ((z20 * (e_fu + 1)) + q_m).toNatClampNeg)))))] hP hD ?_
                clear hP hD
                intro hP hD
                refine lv_iinc (v := (q_m + 1)) (lv' := [(7, .int (q_m + 1)), (6, .int z20), (5, .int n_w), (4, .int (f_ad ((p_h * 64) + k_c).toNatClampNeg)), (3, .int k_c), (2, .int (e_fu + 1)), (0, .ref a_th), (1, .int p_h)]) hx hb dX7_stepTo_129 hl (k := 0) rfl rfl (by decide +kernel) rfl ?_
                clear hl
                intro ls hl
                have t_33 : (q_m + 1).toInt = q_m.toInt + 1 := g5_iadd (a := q_m.toInt) (b := 1) rfl (by decide +kernel) (by omega) (by omega)
                refine lv_goto (tgt := 88) hx hb dX7_stepTo_132 (by decide +kernel) ?_
                exact ih_88_23 ((q_m + 1), (vp_updL q_f ((k_c * (e_fu + 1)) + (q_m ||| (f_ad ((p_h * 64) + k_c).toNatClampNeg))).toNatClampNeg ((q_f ((k_c * (e_fu + 1)) + (q_m ||| (f_ad ((p_h * 64) + k_c).toNatClampNeg))).toNatClampNeg) + (f_cn ((z20 * (e_fu + 1)) + q_m).toNatClampNeg)))) ls H locs (show Int.toNat (32 - (q_m + 1).toInt) < Int.toNat (32 - q_m.toInt) from g_up (show q_m.toInt < (q_m + 1).toInt by omega) (show q_m.toInt < 32 by omega)) ⟨lv_sub hl [0, 1, 2, 3, 4, 5, 6, 7] rfl, hP, hD, hS, ⟨by omega, by omega⟩⟩
        ·
          have hJ9 := g5_same hP hk1
          clear hP hPc hDc hFc ht hvm hz1 hk1 hP1 hD1
          have hP := hJ9
          clear hJ9
          refine lv_if_ne (tgt := 141) hx hb dX7_stepTo_74 (by decide +kernel) (fun c_34 => ?_) (fun c_34 => ?_)
          ·
            refine lv_iinc (v := (k_c + 1)) (lv' := [(3, .int (k_c + 1)), (5, .int n_w), (4, .int (f_ad ((p_h * 64) + k_c).toNatClampNeg)), (2, .int (e_fu + 1)), (0, .ref a_th), (1, .int p_h)]) hx hb dX7_stepTo_141 hl (k := 2) rfl rfl (by decide +kernel) rfl ?_
            clear hl
            intro ls hl
            have t_35 : (k_c + 1).toInt = k_c.toInt + 1 := g5_iadd (a := k_c.toInt) (b := 1) rfl (by decide +kernel) (by omega) (by omega)
            refine lv_goto (tgt := 9) hx hb dX7_stepTo_144 (by decide +kernel) ?_
            exact ih_9_3 ((k_c + 1), n_f) ls H locs (show Int.toNat (64 - (k_c + 1).toInt) < Int.toNat (64 - k_c.toInt) from g_up (show k_c.toInt < (k_c + 1).toInt by omega) (show k_c.toInt < 64 by omega)) ⟨lv_sub hl [0, 3, 4, 5] rfl, hP, hD, hS, ⟨by omega, by omega⟩⟩
          ·
            exact absurd c_34 (by decide +kernel)
    ·
      have i_7 : m_m.toInt < (e_fu.toInt + 1) := by have z := g5_geN (a := m_m.toInt) (b := (e_fu + 1).toInt) (by rfl) (by rfl) c_7; omega
      refine lv_aload_n hx hb dX7_stepTo_24 rfl (lv_at hl 3 rfl) ?_
      refine va_get (D := G.1) (ci := 7) (v := .ref a_nx) (C := RX7) (T := TX7) (N := 10) hx hb hts inG_X7 hown hK hP 0 rfl rfl 6 (by decide +kernel) (hts _ fl_X7_22) (fun _ h9 => h9) rfl dX7_stepTo_25 ?_
      refine lv_iload_n hx hb dX7_stepTo_28 rfl (lv_at hl 1 rfl) ?_
      refine lv_iload_n hx hb dX7_stepTo_29 rfl (lv_at hl 2 rfl) ?_
      refine W.eq (g2 := F0 m 30 ls [.int (e_fu + 1), .int k_c, .ref a_nx]) rfl ?_
      refine lv_imul hx hb dX7_stepTo_30 ?_
      have hm_36 := g_mulc (c := k_c) (m := (e_fu + 1)) ⟨by omega, by omega⟩ ⟨by omega, by omega⟩
      refine lv_iload hx hb dX7_stepTo_31 (lv_at hl 0 rfl) ?_
      refine lv_iadd hx hb dX7_stepTo_33 ?_
      have t_37 : ((k_c * (e_fu + 1)) + m_m).toInt = (k_c * (e_fu + 1)).toInt + m_m.toInt := g5_iadd (a := (k_c * (e_fu + 1)).toInt) (b := m_m.toInt) (by rfl) (by rfl) (by omega) (by omega)
      refine lv_lconst (v := 0) hx hb dX7_stepTo_34 (by decide +kernel) ?_
      refine va_last hx hb hK hP hD hS 4 1 rfl rfl (i := ((k_c * (e_fu + 1)) + m_m)) (x := 0) (vp_in_iff.mpr ⟨by omega, by omega⟩) dX7_stepTo_35 ?_
      clear hP hD hS
      intro H locs hP hD hS
      refine g5_rs [(a_th, (oc7 a_h a_k a_ba a_ad e_fu a_cn a_nx a_hp a_hl a_lv)), (a_ba, (arJ G 24 f_ba)), (a_ad, (arI G 1536 f_ad)), (a_cn, (arJ G 2048 f_cn)), (a_nx, (arJ G 2048 (vp_updL m_f ((k_c * (e_fu + 1)) + m_m).toNatClampNeg 0)))] hP hD ?_
      clear hP hD
      intro hP hD
      refine W.eq (g2 := F0 m 36 ls []) rfl ?_
      refine lv_iinc (v := (m_m + 1)) (lv' := [(4, .int (m_m + 1)), (3, .int k_c), (2, .int (e_fu + 1)), (0, .ref a_th), (1, .int p_h)]) hx hb dX7_stepTo_36 hl (k := 0) rfl rfl (by decide +kernel) rfl ?_
      clear hl
      intro ls hl
      have t_38 : (m_m + 1).toInt = m_m.toInt + 1 := g5_iadd (a := m_m.toInt) (b := 1) rfl (by decide +kernel) (by omega) (by omega)
      refine lv_goto (tgt := 18) hx hb dX7_stepTo_39 (by decide +kernel) ?_
      exact ih_18_6 ((m_m + 1), (vp_updL m_f ((k_c * (e_fu + 1)) + m_m).toNatClampNeg 0)) ls H locs (show Int.toNat (32 - (m_m + 1).toInt) < Int.toNat (32 - m_m.toInt) from g_up (show m_m.toInt < (m_m + 1).toInt by omega) (show m_m.toInt < 32 by omega)) ⟨lv_sub hl [0, 1, 2, 3, 4] rfl, hP, hD, hS, ⟨by omega, by omega⟩⟩
theorem dgX7_countRows_0 : ∀ r ∈ ([(0, (.aload_n 0, 1)), (1, (.getfield 89, 3)), (4, (.iconst 1, 1)), (5, (.iadd, 1)), (6, (.istore_n 1, 1)), (7, (.aload_n 0, 1)), (8, (.getfield 19, 3)), (11, (.lconst 0, 1)), (12, (.invokestatic 58, 3)), (15, (.iconst 0, 1)), (16, (.istore_n 2, 1)), (17, (.iload_n 2, 1)), (18, (.bipush 64, 2)), (20, (.if_icmp .ge 42, 3)), (23, (.aload_n 0, 1)), (24, (.getfield 19, 3)), (27, (.iload_n 2, 1)), (28, (.iload_n 1, 1)), (29, (.imul, 1)), (30, (.aload_n 0, 1)), (31, (.getfield 15, 3)), (34, (.iload_n 2, 1)), (35, (.iaload, 1)), (36, (.iadd, 1)), (37, (.aload_n 0, 1)), (38, (.getfield 9, 3)), (41, (.iconst 0, 1)), (42, (.laload, 1)), (43, (.iload_n 2, 1)), (44, (.invokestatic 98, 3)), (47, (.ifCond .eq 7, 3)), (50, (.lconst 0, 1)), (51, (.goto 4, 3)), (54, (.lconst 1, 1)), (55, (.lastore, 1)), (56, (.iinc 2 1, 3)), (59, (.goto (-42), 3)), (62, (.iconst 1, 1)), (63, (.istore_n 2, 1)), (64, (.iload_n 2, 1))] : List (Nat × (Instr × Nat))), decode cX7_countRows r.1 = .ok r.2 := by decide +kernel
theorem dX7_countRows_0 : decode cX7_countRows 0 = .ok (.aload_n 0, 1) := dgX7_countRows_0 (0, (.aload_n 0, 1)) (List.mem_of_getElem? (i := 0) rfl)
theorem dX7_countRows_1 : decode cX7_countRows 1 = .ok (.getfield 89, 3) := dgX7_countRows_0 (1, (.getfield 89, 3)) (List.mem_of_getElem? (i := 1) rfl)
theorem dX7_countRows_4 : decode cX7_countRows 4 = .ok (.iconst 1, 1) := dgX7_countRows_0 (4, (.iconst 1, 1)) (List.mem_of_getElem? (i := 2) rfl)
theorem dX7_countRows_5 : decode cX7_countRows 5 = .ok (.iadd, 1) := dgX7_countRows_0 (5, (.iadd, 1)) (List.mem_of_getElem? (i := 3) rfl)
theorem dX7_countRows_6 : decode cX7_countRows 6 = .ok (.istore_n 1, 1) := dgX7_countRows_0 (6, (.istore_n 1, 1)) (List.mem_of_getElem? (i := 4) rfl)
theorem dX7_countRows_7 : decode cX7_countRows 7 = .ok (.aload_n 0, 1) := dgX7_countRows_0 (7, (.aload_n 0, 1)) (List.mem_of_getElem? (i := 5) rfl)
theorem dX7_countRows_8 : decode cX7_countRows 8 = .ok (.getfield 19, 3) := dgX7_countRows_0 (8, (.getfield 19, 3)) (List.mem_of_getElem? (i := 6) rfl)
theorem dX7_countRows_11 : decode cX7_countRows 11 = .ok (.lconst 0, 1) := dgX7_countRows_0 (11, (.lconst 0, 1)) (List.mem_of_getElem? (i := 7) rfl)
theorem dX7_countRows_12 : decode cX7_countRows 12 = .ok (.invokestatic 58, 3) := dgX7_countRows_0 (12, (.invokestatic 58, 3)) (List.mem_of_getElem? (i := 8) rfl)
theorem dX7_countRows_15 : decode cX7_countRows 15 = .ok (.iconst 0, 1) := dgX7_countRows_0 (15, (.iconst 0, 1)) (List.mem_of_getElem? (i := 9) rfl)
theorem dX7_countRows_16 : decode cX7_countRows 16 = .ok (.istore_n 2, 1) := dgX7_countRows_0 (16, (.istore_n 2, 1)) (List.mem_of_getElem? (i := 10) rfl)
theorem dX7_countRows_17 : decode cX7_countRows 17 = .ok (.iload_n 2, 1) := dgX7_countRows_0 (17, (.iload_n 2, 1)) (List.mem_of_getElem? (i := 11) rfl)
theorem dX7_countRows_18 : decode cX7_countRows 18 = .ok (.bipush 64, 2) := dgX7_countRows_0 (18, (.bipush 64, 2)) (List.mem_of_getElem? (i := 12) rfl)
theorem dX7_countRows_20 : decode cX7_countRows 20 = .ok (.if_icmp .ge 42, 3) := dgX7_countRows_0 (20, (.if_icmp .ge 42, 3)) (List.mem_of_getElem? (i := 13) rfl)
theorem dX7_countRows_23 : decode cX7_countRows 23 = .ok (.aload_n 0, 1) := dgX7_countRows_0 (23, (.aload_n 0, 1)) (List.mem_of_getElem? (i := 14) rfl)
theorem dX7_countRows_24 : decode cX7_countRows 24 = .ok (.getfield 19, 3) := dgX7_countRows_0 (24, (.getfield 19, 3)) (List.mem_of_getElem? (i := 15) rfl)
theorem dX7_countRows_27 : decode cX7_countRows 27 = .ok (.iload_n 2, 1) := dgX7_countRows_0 (27, (.iload_n 2, 1)) (List.mem_of_getElem? (i := 16) rfl)
theorem dX7_countRows_28 : decode cX7_countRows 28 = .ok (.iload_n 1, 1) := dgX7_countRows_0 (28, (.iload_n 1, 1)) (List.mem_of_getElem? (i := 17) rfl)
theorem dX7_countRows_29 : decode cX7_countRows 29 = .ok (.imul, 1) := dgX7_countRows_0 (29, (.imul, 1)) (List.mem_of_getElem? (i := 18) rfl)
theorem dX7_countRows_30 : decode cX7_countRows 30 = .ok (.aload_n 0, 1) := dgX7_countRows_0 (30, (.aload_n 0, 1)) (List.mem_of_getElem? (i := 19) rfl)
theorem dX7_countRows_31 : decode cX7_countRows 31 = .ok (.getfield 15, 3) := dgX7_countRows_0 (31, (.getfield 15, 3)) (List.mem_of_getElem? (i := 20) rfl)
theorem dX7_countRows_34 : decode cX7_countRows 34 = .ok (.iload_n 2, 1) := dgX7_countRows_0 (34, (.iload_n 2, 1)) (List.mem_of_getElem? (i := 21) rfl)
theorem dX7_countRows_35 : decode cX7_countRows 35 = .ok (.iaload, 1) := dgX7_countRows_0 (35, (.iaload, 1)) (List.mem_of_getElem? (i := 22) rfl)
theorem dX7_countRows_36 : decode cX7_countRows 36 = .ok (.iadd, 1) := dgX7_countRows_0 (36, (.iadd, 1)) (List.mem_of_getElem? (i := 23) rfl)
theorem dX7_countRows_37 : decode cX7_countRows 37 = .ok (.aload_n 0, 1) := dgX7_countRows_0 (37, (.aload_n 0, 1)) (List.mem_of_getElem? (i := 24) rfl)
theorem dX7_countRows_38 : decode cX7_countRows 38 = .ok (.getfield 9, 3) := dgX7_countRows_0 (38, (.getfield 9, 3)) (List.mem_of_getElem? (i := 25) rfl)
theorem dX7_countRows_41 : decode cX7_countRows 41 = .ok (.iconst 0, 1) := dgX7_countRows_0 (41, (.iconst 0, 1)) (List.mem_of_getElem? (i := 26) rfl)
theorem dX7_countRows_42 : decode cX7_countRows 42 = .ok (.laload, 1) := dgX7_countRows_0 (42, (.laload, 1)) (List.mem_of_getElem? (i := 27) rfl)
theorem dX7_countRows_43 : decode cX7_countRows 43 = .ok (.iload_n 2, 1) := dgX7_countRows_0 (43, (.iload_n 2, 1)) (List.mem_of_getElem? (i := 28) rfl)
theorem dX7_countRows_44 : decode cX7_countRows 44 = .ok (.invokestatic 98, 3) := dgX7_countRows_0 (44, (.invokestatic 98, 3)) (List.mem_of_getElem? (i := 29) rfl)
theorem dX7_countRows_47 : decode cX7_countRows 47 = .ok (.ifCond .eq 7, 3) := dgX7_countRows_0 (47, (.ifCond .eq 7, 3)) (List.mem_of_getElem? (i := 30) rfl)
theorem dX7_countRows_50 : decode cX7_countRows 50 = .ok (.lconst 0, 1) := dgX7_countRows_0 (50, (.lconst 0, 1)) (List.mem_of_getElem? (i := 31) rfl)
theorem dX7_countRows_51 : decode cX7_countRows 51 = .ok (.goto 4, 3) := dgX7_countRows_0 (51, (.goto 4, 3)) (List.mem_of_getElem? (i := 32) rfl)
theorem dX7_countRows_54 : decode cX7_countRows 54 = .ok (.lconst 1, 1) := dgX7_countRows_0 (54, (.lconst 1, 1)) (List.mem_of_getElem? (i := 33) rfl)
theorem dX7_countRows_55 : decode cX7_countRows 55 = .ok (.lastore, 1) := dgX7_countRows_0 (55, (.lastore, 1)) (List.mem_of_getElem? (i := 34) rfl)
theorem dX7_countRows_56 : decode cX7_countRows 56 = .ok (.iinc 2 1, 3) := dgX7_countRows_0 (56, (.iinc 2 1, 3)) (List.mem_of_getElem? (i := 35) rfl)
theorem dX7_countRows_59 : decode cX7_countRows 59 = .ok (.goto (-42), 3) := dgX7_countRows_0 (59, (.goto (-42), 3)) (List.mem_of_getElem? (i := 36) rfl)
theorem dX7_countRows_62 : decode cX7_countRows 62 = .ok (.iconst 1, 1) := dgX7_countRows_0 (62, (.iconst 1, 1)) (List.mem_of_getElem? (i := 37) rfl)
theorem dX7_countRows_63 : decode cX7_countRows 63 = .ok (.istore_n 2, 1) := dgX7_countRows_0 (63, (.istore_n 2, 1)) (List.mem_of_getElem? (i := 38) rfl)
theorem dX7_countRows_64 : decode cX7_countRows 64 = .ok (.iload_n 2, 1) := dgX7_countRows_0 (64, (.iload_n 2, 1)) (List.mem_of_getElem? (i := 39) rfl)
theorem dgX7_countRows_1 : ∀ r ∈ ([(65, (.bipush 24, 2)), (67, (.if_icmp .ge 14, 3)), (70, (.aload_n 0, 1)), (71, (.iload_n 2, 1)), (72, (.invokevirtual 102, 3)), (75, (.iinc 2 1, 3)), (78, (.goto (-14), 3)), (81, (.lconst 0, 1)), (82, (.lstore_n 2, 1)), (83, (.iconst 0, 1)), (84, (.istore 4, 2)), (86, (.iload 4, 2)), (88, (.bipush 64, 2)), (90, (.if_icmp .ge 26, 3)), (93, (.lload_n 2, 1)), (94, (.aload_n 0, 1)), (95, (.getfield 19, 3)), (98, (.iload 4, 2)), (100, (.iload_n 1, 1)), (101, (.imul, 1)), (102, (.aload_n 0, 1)), (103, (.getfield 89, 3)), (106, (.iadd, 1)), (107, (.laload, 1)), (108, (.ladd, 1)), (109, (.lstore_n 2, 1)), (110, (.iinc 4 1, 3)), (113, (.goto (-27), 3)), (116, (.lload_n 2, 1)), (117, (.lreturn, 1))] : List (Nat × (Instr × Nat))), decode cX7_countRows r.1 = .ok r.2 := by decide +kernel
theorem dX7_countRows_65 : decode cX7_countRows 65 = .ok (.bipush 24, 2) := dgX7_countRows_1 (65, (.bipush 24, 2)) (List.mem_of_getElem? (i := 0) rfl)
theorem dX7_countRows_67 : decode cX7_countRows 67 = .ok (.if_icmp .ge 14, 3) := dgX7_countRows_1 (67, (.if_icmp .ge 14, 3)) (List.mem_of_getElem? (i := 1) rfl)
theorem dX7_countRows_70 : decode cX7_countRows 70 = .ok (.aload_n 0, 1) := dgX7_countRows_1 (70, (.aload_n 0, 1)) (List.mem_of_getElem? (i := 2) rfl)
theorem dX7_countRows_71 : decode cX7_countRows 71 = .ok (.iload_n 2, 1) := dgX7_countRows_1 (71, (.iload_n 2, 1)) (List.mem_of_getElem? (i := 3) rfl)
theorem dX7_countRows_72 : decode cX7_countRows 72 = .ok (.invokevirtual 102, 3) := dgX7_countRows_1 (72, (.invokevirtual 102, 3)) (List.mem_of_getElem? (i := 4) rfl)
theorem dX7_countRows_75 : decode cX7_countRows 75 = .ok (.iinc 2 1, 3) := dgX7_countRows_1 (75, (.iinc 2 1, 3)) (List.mem_of_getElem? (i := 5) rfl)
theorem dX7_countRows_78 : decode cX7_countRows 78 = .ok (.goto (-14), 3) := dgX7_countRows_1 (78, (.goto (-14), 3)) (List.mem_of_getElem? (i := 6) rfl)
theorem dX7_countRows_81 : decode cX7_countRows 81 = .ok (.lconst 0, 1) := dgX7_countRows_1 (81, (.lconst 0, 1)) (List.mem_of_getElem? (i := 7) rfl)
theorem dX7_countRows_82 : decode cX7_countRows 82 = .ok (.lstore_n 2, 1) := dgX7_countRows_1 (82, (.lstore_n 2, 1)) (List.mem_of_getElem? (i := 8) rfl)
theorem dX7_countRows_83 : decode cX7_countRows 83 = .ok (.iconst 0, 1) := dgX7_countRows_1 (83, (.iconst 0, 1)) (List.mem_of_getElem? (i := 9) rfl)
theorem dX7_countRows_84 : decode cX7_countRows 84 = .ok (.istore 4, 2) := dgX7_countRows_1 (84, (.istore 4, 2)) (List.mem_of_getElem? (i := 10) rfl)
theorem dX7_countRows_86 : decode cX7_countRows 86 = .ok (.iload 4, 2) := dgX7_countRows_1 (86, (.iload 4, 2)) (List.mem_of_getElem? (i := 11) rfl)
theorem dX7_countRows_88 : decode cX7_countRows 88 = .ok (.bipush 64, 2) := dgX7_countRows_1 (88, (.bipush 64, 2)) (List.mem_of_getElem? (i := 12) rfl)
theorem dX7_countRows_90 : decode cX7_countRows 90 = .ok (.if_icmp .ge 26, 3) := dgX7_countRows_1 (90, (.if_icmp .ge 26, 3)) (List.mem_of_getElem? (i := 13) rfl)
theorem dX7_countRows_93 : decode cX7_countRows 93 = .ok (.lload_n 2, 1) := dgX7_countRows_1 (93, (.lload_n 2, 1)) (List.mem_of_getElem? (i := 14) rfl)
theorem dX7_countRows_94 : decode cX7_countRows 94 = .ok (.aload_n 0, 1) := dgX7_countRows_1 (94, (.aload_n 0, 1)) (List.mem_of_getElem? (i := 15) rfl)
theorem dX7_countRows_95 : decode cX7_countRows 95 = .ok (.getfield 19, 3) := dgX7_countRows_1 (95, (.getfield 19, 3)) (List.mem_of_getElem? (i := 16) rfl)
theorem dX7_countRows_98 : decode cX7_countRows 98 = .ok (.iload 4, 2) := dgX7_countRows_1 (98, (.iload 4, 2)) (List.mem_of_getElem? (i := 17) rfl)
theorem dX7_countRows_100 : decode cX7_countRows 100 = .ok (.iload_n 1, 1) := dgX7_countRows_1 (100, (.iload_n 1, 1)) (List.mem_of_getElem? (i := 18) rfl)
theorem dX7_countRows_101 : decode cX7_countRows 101 = .ok (.imul, 1) := dgX7_countRows_1 (101, (.imul, 1)) (List.mem_of_getElem? (i := 19) rfl)
theorem dX7_countRows_102 : decode cX7_countRows 102 = .ok (.aload_n 0, 1) := dgX7_countRows_1 (102, (.aload_n 0, 1)) (List.mem_of_getElem? (i := 20) rfl)
theorem dX7_countRows_103 : decode cX7_countRows 103 = .ok (.getfield 89, 3) := dgX7_countRows_1 (103, (.getfield 89, 3)) (List.mem_of_getElem? (i := 21) rfl)
theorem dX7_countRows_106 : decode cX7_countRows 106 = .ok (.iadd, 1) := dgX7_countRows_1 (106, (.iadd, 1)) (List.mem_of_getElem? (i := 22) rfl)
theorem dX7_countRows_107 : decode cX7_countRows 107 = .ok (.laload, 1) := dgX7_countRows_1 (107, (.laload, 1)) (List.mem_of_getElem? (i := 23) rfl)
theorem dX7_countRows_108 : decode cX7_countRows 108 = .ok (.ladd, 1) := dgX7_countRows_1 (108, (.ladd, 1)) (List.mem_of_getElem? (i := 24) rfl)
theorem dX7_countRows_109 : decode cX7_countRows 109 = .ok (.lstore_n 2, 1) := dgX7_countRows_1 (109, (.lstore_n 2, 1)) (List.mem_of_getElem? (i := 25) rfl)
theorem dX7_countRows_110 : decode cX7_countRows 110 = .ok (.iinc 4 1, 3) := dgX7_countRows_1 (110, (.iinc 4 1, 3)) (List.mem_of_getElem? (i := 26) rfl)
theorem dX7_countRows_113 : decode cX7_countRows 113 = .ok (.goto (-27), 3) := dgX7_countRows_1 (113, (.goto (-27), 3)) (List.mem_of_getElem? (i := 27) rfl)
theorem dX7_countRows_116 : decode cX7_countRows 116 = .ok (.lload_n 2, 1) := dgX7_countRows_1 (116, (.lload_n 2, 1)) (List.mem_of_getElem? (i := 28) rfl)
theorem dX7_countRows_117 : decode cX7_countRows 117 = .ok (.lreturn, 1) := dgX7_countRows_1 (117, (.lreturn, 1)) (List.mem_of_getElem? (i := 29) rfl)
theorem ml_X7_102 : Cond.methodLink RX7 102 yX7_stepTo ∈ tblG := tg 983 (by decide +kernel) (by decide +kernel)
theorem im_X7_stepTo : Cond.instanceMethod yX7_stepTo ∈ tblG := tg 985 (by decide +kernel) (by decide +kernel)
theorem se_X7_stepTo : Cond.selects RX7 yX7_stepTo yX7_stepTo ∈ tblG := tg 21 (by decide +kernel) (by decide +kernel)
theorem cd_X7_stepTo : Cond.code yX7_stepTo cX7_stepTo 8 none ∈ tblG := tg 986 (by decide +kernel) (by decide +kernel)
theorem gW_X7_stepTo : GoodIn tblG (wsG yX7_stepTo cX7_stepTo 8 none) := tgi cd_X7_stepTo
theorem gV_X7_102 : GoodIn tblG (wsV RX7 102 RX7 yX7_stepTo (wsG yX7_stepTo cX7_stepTo 8 none)) := tgV ml_X7_102 im_X7_stepTo se_X7_stepTo ini_X7 gW_X7_stepTo
theorem hv_X7_stepTo : yX7_stepTo.cls = RX7 ∧ yX7_stepTo.cls ≠ "java/lang/invoke/MethodHandle" ∧ yX7_stepTo.cls ≠ "java/lang/invoke/VarHandle" ∧ (parseMethodDescriptor yX7_stepTo.desc).map (fun d => d.parameters.length) = some 1 := by decide +kernel
set_option maxHeartbeats 4000000 in
set_option maxRecDepth 100000 in
theorem th_count (l : Launch) (G : g5_G) (a_th a_ba a_ad a_cn a_nx a_h a_k a_hp a_hl a_lv : Nat) (sz : Nat) (e_fu : Int32) (f_ba : Nat → Int64) (f_ad : Nat → Int32) (f_cn : Nat → Int64) (f_nx : Nat → Int64) (e_tk : TOK e_fu f_ad) : Met l yX7_countRows (wsG yX7_countRows cX7_countRows 5 (some .long)) ({ frames := 2, cells := 0, slots := 0, locals := 49 }) (va_Pc [.ref a_th] (g5_P G [(a_th, (oc7 a_h a_k a_ba a_ad e_fu a_cn a_nx a_hp a_hl a_lv)), (a_ba, (arJ G 24 f_ba)), (a_ad, (arI G 1536 f_ad)), (a_cn, (arJ G 2048 f_cn)), (a_nx, (arJ G 2048 f_nx))] sz)) (va_Ql (fun (r : Int64) (u : va_W) => (∃ (o_r : Int64) (o_f : Nat → Int64) (o_g : Nat → Int64), (r = o_r) ∧ (u = [(a_th, (oc7 a_h a_k a_ba a_ad e_fu a_nx a_cn a_hp a_hl a_lv)), (a_ba, (arJ G 24 f_ba)), (a_ad, (arI G 1536 f_ad)), (a_cn, (arJ G 2048 o_f)), (a_nx, (arJ G 2048 o_g))]))) (g5_B G (va_A [(a_th, (oc7 a_h a_k a_ba a_ad e_fu a_cn a_nx a_hp a_hl a_lv)), (a_ba, (arJ G 24 f_ba)), (a_ad, (arI G 1536 f_ad)), (a_cn, (arJ G 2048 f_cn)), (a_nx, (arJ G 2048 f_nx))] sz)) (va_A [(a_th, (oc7 a_h a_k a_ba a_ad e_fu a_cn a_nx a_hp a_hl a_lv)), (a_ba, (arJ G 24 f_ba)), (a_ad, (arI G 1536 f_ad)), (a_cn, (arJ G 2048 f_cn)), (a_nx, (arJ G 2048 f_nx))] sz)) 0 0 (va_A [(a_th, (oc7 a_h a_k a_ba a_ad e_fu a_cn a_nx a_hp a_hl a_lv)), (a_ba, (arJ G 24 f_ba)), (a_ad, (arI G 1536 f_ad)), (a_cn, (arJ G 2048 f_cn)), (a_nx, (arJ G 2048 f_nx))] sz) := by
  refine Met.ofW (cc := cX7_countRows) (maxL := 5) (ret := (some .long)) (by decide +kernel) rfl ?_
  intro p e s m args below meth c s₁ B hml hv
  obtain ⟨rfl, hsz, hP, hK, hD0, hN, hT⟩ := hv
  have hx := B.exec
  have hb := B.bytes
  have hr := B.returns
  have hts : ∀ w ∈ tblG, w.before _ s = true := fun w h => atoms_spec (ws := (wsG yX7_countRows cX7_countRows 5 (some .long))) B.pre w (List.mem_cons_of_mem _ h)
  have hown : s.vm.findClass RX7 = some m.cls := findClass_of_methodNamed B.named
  have hlocks := B.notSynchronized
  subst hsz
  have hD := hD0.self (sz := s.heap.size)
  generalize hAe : va_A [(a_th, (oc7 a_h a_k a_ba a_ad e_fu a_cn a_nx a_hp a_hl a_lv)), (a_ba, (arJ G 24 f_ba)), (a_ad, (arI G 1536 f_ad)), (a_cn, (arJ G 2048 f_cn)), (a_nx, (arJ G 2048 f_nx))] s.heap.size = A at hD hT ⊢
  have hA : ∀ q : Nat, s.heap.size ≤ q → A q := fun q h => by rw [← hAe]; exact Or.inr h
  have hS : va_S A s.heap s.heap [] := va_S.rf
  replace hP : va_P G.1 vwCl [(a_th, (oc7 a_h a_k a_ba a_ad e_fu a_cn a_nx a_hp a_hl a_lv)), (a_ba, (arJ G 24 f_ba)), (a_ad, (arI G 1536 f_ad)), (a_cn, (arJ G 2048 f_cn)), (a_nx, (arJ G 2048 f_nx))] s.heap := hP
  have hl := lv_entry ([.ref a_th]) (n := 5) (Nat.le_of_ble_eq_true rfl)
  rw [lg_entry_eq]
  generalize (lg_sl ([.ref a_th]) ++ List.replicate (5 - (lg_sl ([.ref a_th])).length) Slot.unset).toArray = ls at hl ⊢
  replace hl : lv_has ls 5 [(0, .ref a_th)] := hl
  have hfu := tk_fu e_tk
  refine lv_aload_n hx hb dX7_countRows_0 rfl (lv_at hl 0 rfl) ?_
  refine va_get (D := G.1) (ci := 7) (v := .int e_fu) (C := RX7) (T := TX7) (N := 10) hx hb hts inG_X7 hown hK hP 0 rfl rfl 4 (by decide +kernel) (hts _ fl_X7_89) (fun _ h9 => h9) rfl dX7_countRows_1 ?_
  refine lv_iconst (v := 1) hx hb dX7_countRows_4 (by decide +kernel) ?_
  refine lv_iadd hx hb dX7_countRows_5 ?_
  have t_1 : (e_fu + 1).toInt = e_fu.toInt + 1 := g5_iadd (a := e_fu.toInt) (b := 1) (by rfl) (by decide +kernel) (by omega) (by omega)
  refine W.eq (g2 := F0 m 6 ls [.int (e_fu + 1)]) rfl ?_
  refine lv_istore_n (lv' := [(1, .int (e_fu + 1)), (0, .ref a_th)]) hx hb dX7_countRows_6 rfl hl (by decide +kernel) rfl ?_
  clear hl
  intro ls hl
  refine lv_aload_n hx hb dX7_countRows_7 rfl (lv_at hl 1 rfl) ?_
  refine va_get (D := G.1) (ci := 7) (v := .ref a_cn) (C := RX7) (T := TX7) (N := 10) hx hb hts inG_X7 hown hK hP 0 rfl rfl 5 (by decide +kernel) (hts _ fl_X7_19) (fun _ h9 => h9) rfl dX7_countRows_8 ?_
  refine lv_lconst (v := 0) hx hb dX7_countRows_11 (by decide +kernel) ?_
  obtain ⟨hPc, hDc, hFc⟩ := g5_sub3 (wc := [(a_cn, (arJ G 2048 f_cn))]) hP hD hS hA [3] (by decide +kernel) rfl
  refine va_callv (va_runS (As := [.ref a_cn, .long 0]) (rest := []) ⟨hx, hb, hml, hown, hts⟩ (k_fillJ2048 l G a_cn s.heap.size 0 f_cn) (va_cwS 2 hts gS_X7_58 rfl rfl rfl hs_J7_fill_d0a16 ⟨Nat.le_of_ble_eq_true rfl, Nat.le_of_ble_eq_true rfl⟩) (g5_preS hPc hK hDc hN hT hS hFc) rfl rfl hl.1 rfl (lv_room (Nat.le_of_ble_eq_true rfl)) dX7_countRows_12 ⟨Nat.le_of_ble_eq_true rfl, Nat.le_of_ble_eq_true rfl⟩) hS (fun q _ h => hFc q h) hFc (fun u t H locs ht hvm hw hB hz1 hk1 hS => ?_)
  obtain ⟨hP1, hD1⟩ := hB
  have hP1 := g5_ht ht hP1
  obtain rfl := hw
  have hJ9 := va_join (wr := [(a_th, (oc7 a_h a_k a_ba a_ad e_fu a_cn a_nx a_hp a_hl a_lv)), (a_ba, (arJ G 24 f_ba)), (a_ad, (arI G 1536 f_ad)), (a_nx, (arJ G 2048 f_nx))]) hP hD [3] [0, 1, 2, 4] rfl rfl (by decide +kernel) (by decide +kernel) hk1 hFc hP1 hD1
  clear hP hD hPc hDc hFc ht hvm hz1 hk1 hP1 hD1
  obtain ⟨hP, hD⟩ := hJ9
  refine g5_rs [(a_th, (oc7 a_h a_k a_ba a_ad e_fu a_cn a_nx a_hp a_hl a_lv)), (a_ba, (arJ G 24 f_ba)), (a_ad, (arI G 1536 f_ad)), (a_nx, (arJ G 2048 f_nx)), (a_cn, (arJ G 2048 (fun _ => 0)))] hP hD ?_
  clear hP hD
  intro hP hD
  refine W.eq (g2 := F0 m 15 ls []) rfl ?_
  refine lv_iconst (v := 0) hx hb dX7_countRows_15 (by decide +kernel) ?_
  refine lv_istore_n (lv' := [(2, .int 0), (1, .int (e_fu + 1)), (0, .ref a_th)]) hx hb dX7_countRows_16 rfl hl (by decide +kernel) rfl ?_
  clear hl
  intro ls hl
  refine g5_loop (α := (Int32) × (Nat → Int64)) (fun (q : (Int32) × (Nat → Int64)) (ls : Array Slot) (H : Heap) (locs : List Loc) => match q with | (k_c, k_f) => lv_has ls 5 [(2, .int k_c), (1, .int (e_fu + 1)), (0, .ref a_th)] ∧ va_P G.1 vwCl [(a_th, (oc7 a_h a_k a_ba a_ad e_fu a_cn a_nx a_hp a_hl a_lv)), (a_ba, (arJ G 24 f_ba)), (a_ad, (arI G 1536 f_ad)), (a_nx, (arJ G 2048 f_nx)), (a_cn, (arJ G 2048 k_f))] H ∧ va_D A [(a_th, (oc7 a_h a_k a_ba a_ad e_fu a_cn a_nx a_hp a_hl a_lv)), (a_ba, (arJ G 24 f_ba)), (a_ad, (arI G 1536 f_ad)), (a_nx, (arJ G 2048 f_nx)), (a_cn, (arJ G 2048 k_f))] ∧ va_S A s.heap H locs ∧ (0 ≤ k_c.toInt ∧ k_c.toInt ≤ 64)) (fun (q : (Int32) × (Nat → Int64)) => match q with | (k_c, k_f) => Int.toNat (64 - k_c.toInt)) (0, (fun _ => 0)) ⟨lv_sub hl [0, 1, 2] rfl, hP, hD, hS, ⟨by decide, by decide⟩⟩ ?_
  rintro ⟨k_c, k_f⟩ ls H locs ⟨hl, hP, hD, hS, (i_2 : 0 ≤ k_c.toInt ∧ k_c.toInt ≤ 64)⟩ ih_17_3
  replace hl : lv_has ls 5 [(2, .int k_c), (1, .int (e_fu + 1)), (0, .ref a_th)] := hl
  refine g5_rs [(a_th, (oc7 a_h a_k a_ba a_ad e_fu a_cn a_nx a_hp a_hl a_lv)), (a_ba, (arJ G 24 f_ba)), (a_ad, (arI G 1536 f_ad)), (a_nx, (arJ G 2048 f_nx)), (a_cn, (arJ G 2048 k_f))] hP hD ?_
  clear hP hD
  intro hP hD
  refine lv_iload_n hx hb dX7_countRows_17 rfl (lv_at hl 0 rfl) ?_
  refine lv_bipush (v := 64) hx hb dX7_countRows_18 (by decide +kernel) ?_
  refine lv_icmp_ge (tgt := 62) hx hb dX7_countRows_20 (by decide +kernel) (fun c_4 => ?_) (fun c_4 => ?_)
  ·
    have i_4 : k_c.toInt ≥ 64 := g5_ge (a := k_c.toInt) (b := 64) rfl (by decide +kernel) c_4
    refine lv_iconst (v := 1) hx hb dX7_countRows_62 (by decide +kernel) ?_
    refine lv_istore_n (lv' := [(2, .int 1), (1, .int (e_fu + 1)), (0, .ref a_th)]) hx hb dX7_countRows_63 rfl hl (by decide +kernel) rfl ?_
    clear hl
    intro ls hl
    refine lv_iload_n hx hb dX7_countRows_64 rfl (lv_at hl 0 rfl) ?_
    refine lv_bipush (v := 24) hx hb dX7_countRows_65 (by decide +kernel) ?_
    refine W.eq (g2 := F0 m 67 ls [.int 24, .int 1]) rfl ?_
    refine lv_icmp_ge (tgt := 81) hx hb dX7_countRows_67 (by decide +kernel) (fun c_5 => ?_) (fun c_5 => ?_)
    ·
      exact absurd c_5 (by decide +kernel)
    ·
      refine lv_aload_n hx hb dX7_countRows_70 rfl (lv_at hl 2 rfl) ?_
      refine lv_iload_n hx hb dX7_countRows_71 rfl (lv_at hl 0 rfl) ?_
      obtain ⟨hPc, hDc, hFc⟩ := g5_sub3 (wc := [(a_th, (oc7 a_h a_k a_ba a_ad e_fu a_cn a_nx a_hp a_hl a_lv)), (a_ba, (arJ G 24 f_ba)), (a_ad, (arI G 1536 f_ad)), (a_cn, (arJ G 2048 k_f)), (a_nx, (arJ G 2048 f_nx))]) hP hD hS hA [0, 1, 2, 4, 3] (by decide +kernel) rfl
      refine va_callv (va_runV (As := [.int 1]) (rest := []) ⟨hx, hb, hml, hown, hts⟩ (th_step l G a_th a_ba a_ad a_cn a_nx a_h a_k a_hp a_hl a_lv H.size e_fu 1 f_ba f_ad k_f f_nx ⟨by decide, by decide⟩ (e_tk)) (cwV 1 hts gV_X7_102 rfl rfl rfl hv_X7_stepTo ⟨Nat.le_of_ble_eq_true rfl, Nat.le_of_ble_eq_true rfl⟩) (g5_preV hPc hK hDc hN hT hS hFc (ci := 7) (q0 := 0) rfl rfl) rfl rfl hl.1 rfl (lv_room (Nat.le_of_ble_eq_true rfl)) dX7_countRows_72 ⟨Nat.le_of_ble_eq_true rfl, Nat.le_of_ble_eq_true rfl⟩) hS (fun q _ h => hFc q h) hFc (fun u t H locs ht hvm hw hB hz1 hk1 hS => ?_)
      obtain ⟨hP1, hD1⟩ := hB
      have hP1 := g5_ht ht hP1
      obtain ⟨z6, rfl⟩ := hw
      have hJ9 := va_join (wr := []) hP hD [0, 1, 2, 4, 3] [] rfl rfl (by decide +kernel) (by decide +kernel) hk1 hFc hP1 hD1
      clear hP hD hPc hDc hFc ht hvm hz1 hk1 hP1 hD1
      obtain ⟨hP, hD⟩ := hJ9
      refine g5_rs [(a_th, (oc7 a_h a_k a_ba a_ad e_fu a_nx a_cn a_hp a_hl a_lv)), (a_ba, (arJ G 24 f_ba)), (a_ad, (arI G 1536 f_ad)), (a_cn, (arJ G 2048 k_f)), (a_nx, (arJ G 2048 z6))] hP hD ?_
      clear hP hD
      intro hP hD
      refine lv_iinc (v := 2) (lv' := [(2, .int 2), (1, .int (e_fu + 1)), (0, .ref a_th)]) hx hb dX7_countRows_75 hl (k := 0) rfl (by decide +kernel) (by decide +kernel) rfl ?_
      clear hl
      intro ls hl
      refine W.eq (g2 := F0 m 78 ls []) rfl ?_
      refine lv_goto (tgt := 64) hx hb dX7_countRows_78 (by decide +kernel) ?_
      refine lv_iload_n hx hb dX7_countRows_64 rfl (lv_at hl 0 rfl) ?_
      refine lv_bipush (v := 24) hx hb dX7_countRows_65 (by decide +kernel) ?_
      refine lv_icmp_ge (tgt := 81) hx hb dX7_countRows_67 (by decide +kernel) (fun c_7 => ?_) (fun c_7 => ?_)
      ·
        exact absurd c_7 (by decide +kernel)
      ·
        refine lv_aload_n hx hb dX7_countRows_70 rfl (lv_at hl 2 rfl) ?_
        refine lv_iload_n hx hb dX7_countRows_71 rfl (lv_at hl 0 rfl) ?_
        obtain ⟨hPc, hDc, hFc⟩ := g5_sub3 (wc := [(a_th, (oc7 a_h a_k a_ba a_ad e_fu a_nx a_cn a_hp a_hl a_lv)), (a_ba, (arJ G 24 f_ba)), (a_ad, (arI G 1536 f_ad)), (a_nx, (arJ G 2048 z6)), (a_cn, (arJ G 2048 k_f))]) hP hD hS hA [0, 1, 2, 4, 3] (by decide +kernel) rfl
        refine va_callv (va_runV (As := [.int 2]) (rest := []) ⟨hx, hb, hml, hown, hts⟩ (th_step l G a_th a_ba a_ad a_nx a_cn a_h a_k a_hp a_hl a_lv H.size e_fu 2 f_ba f_ad z6 k_f ⟨by decide, by decide⟩ (e_tk)) (cwV 1 hts gV_X7_102 rfl rfl rfl hv_X7_stepTo ⟨Nat.le_of_ble_eq_true rfl, Nat.le_of_ble_eq_true rfl⟩) (g5_preV hPc hK hDc hN hT hS hFc (ci := 7) (q0 := 0) rfl rfl) rfl rfl hl.1 rfl (lv_room (Nat.le_of_ble_eq_true rfl)) dX7_countRows_72 ⟨Nat.le_of_ble_eq_true rfl, Nat.le_of_ble_eq_true rfl⟩) hS (fun q _ h => hFc q h) hFc (fun u t H locs ht hvm hw hB hz1 hk1 hS => ?_)
        obtain ⟨hP1, hD1⟩ := hB
        have hP1 := g5_ht ht hP1
        obtain ⟨z8, rfl⟩ := hw
        have hJ9 := va_join (wr := []) hP hD [0, 1, 2, 4, 3] [] rfl rfl (by decide +kernel) (by decide +kernel) hk1 hFc hP1 hD1
        clear hP hD hPc hDc hFc ht hvm hz1 hk1 hP1 hD1
        obtain ⟨hP, hD⟩ := hJ9
        refine g5_rs [(a_th, (oc7 a_h a_k a_ba a_ad e_fu a_cn a_nx a_hp a_hl a_lv)), (a_ba, (arJ G 24 f_ba)), (a_ad, (arI G 1536 f_ad)), (a_nx, (arJ G 2048 z6)), (a_cn, (arJ G 2048 z8))] hP hD ?_
        clear hP hD
        intro hP hD
        refine lv_iinc (v := 3) (lv' := [(2, .int 3), (1, .int (e_fu + 1)), (0, .ref a_th)]) hx hb dX7_countRows_75 hl (k := 0) rfl (by decide +kernel) (by decide +kernel) rfl ?_
        clear hl
        intro ls hl
        refine W.eq (g2 := F0 m 78 ls []) rfl ?_
        refine lv_goto (tgt := 64) hx hb dX7_countRows_78 (by decide +kernel) ?_
        refine lv_iload_n hx hb dX7_countRows_64 rfl (lv_at hl 0 rfl) ?_
        refine lv_bipush (v := 24) hx hb dX7_countRows_65 (by decide +kernel) ?_
        refine lv_icmp_ge (tgt := 81) hx hb dX7_countRows_67 (by decide +kernel) (fun c_9 => ?_) (fun c_9 => ?_)
        ·
          exact absurd c_9 (by decide +kernel)
        ·
          refine lv_aload_n hx hb dX7_countRows_70 rfl (lv_at hl 2 rfl) ?_
          refine lv_iload_n hx hb dX7_countRows_71 rfl (lv_at hl 0 rfl) ?_
          obtain ⟨hPc, hDc, hFc⟩ := g5_sub3 (wc := [(a_th, (oc7 a_h a_k a_ba a_ad e_fu a_cn a_nx a_hp a_hl a_lv)), (a_ba, (arJ G 24 f_ba)), (a_ad, (arI G 1536 f_ad)), (a_cn, (arJ G 2048 z8)), (a_nx, (arJ G 2048 z6))]) hP hD hS hA [0, 1, 2, 4, 3] (by decide +kernel) rfl
          refine va_callv (va_runV (As := [.int 3]) (rest := []) ⟨hx, hb, hml, hown, hts⟩ (th_step l G a_th a_ba a_ad a_cn a_nx a_h a_k a_hp a_hl a_lv H.size e_fu 3 f_ba f_ad z8 z6 ⟨by decide, by decide⟩ (e_tk)) (cwV 1 hts gV_X7_102 rfl rfl rfl hv_X7_stepTo ⟨Nat.le_of_ble_eq_true rfl, Nat.le_of_ble_eq_true rfl⟩) (g5_preV hPc hK hDc hN hT hS hFc (ci := 7) (q0 := 0) rfl rfl) rfl rfl hl.1 rfl (lv_room (Nat.le_of_ble_eq_true rfl)) dX7_countRows_72 ⟨Nat.le_of_ble_eq_true rfl, Nat.le_of_ble_eq_true rfl⟩) hS (fun q _ h => hFc q h) hFc (fun u t H locs ht hvm hw hB hz1 hk1 hS => ?_)
          obtain ⟨hP1, hD1⟩ := hB
          have hP1 := g5_ht ht hP1
          obtain ⟨z10, rfl⟩ := hw
          have hJ9 := va_join (wr := []) hP hD [0, 1, 2, 4, 3] [] rfl rfl (by decide +kernel) (by decide +kernel) hk1 hFc hP1 hD1
          clear hP hD hPc hDc hFc ht hvm hz1 hk1 hP1 hD1
          obtain ⟨hP, hD⟩ := hJ9
          refine g5_rs [(a_th, (oc7 a_h a_k a_ba a_ad e_fu a_nx a_cn a_hp a_hl a_lv)), (a_ba, (arJ G 24 f_ba)), (a_ad, (arI G 1536 f_ad)), (a_cn, (arJ G 2048 z8)), (a_nx, (arJ G 2048 z10))] hP hD ?_
          clear hP hD
          intro hP hD
          refine lv_iinc (v := 4) (lv' := [(2, .int 4), (1, .int (e_fu + 1)), (0, .ref a_th)]) hx hb dX7_countRows_75 hl (k := 0) rfl (by decide +kernel) (by decide +kernel) rfl ?_
          clear hl
          intro ls hl
          refine W.eq (g2 := F0 m 78 ls []) rfl ?_
          refine lv_goto (tgt := 64) hx hb dX7_countRows_78 (by decide +kernel) ?_
          refine lv_iload_n hx hb dX7_countRows_64 rfl (lv_at hl 0 rfl) ?_
          refine lv_bipush (v := 24) hx hb dX7_countRows_65 (by decide +kernel) ?_
          refine lv_icmp_ge (tgt := 81) hx hb dX7_countRows_67 (by decide +kernel) (fun c_11 => ?_) (fun c_11 => ?_)
          ·
            exact absurd c_11 (by decide +kernel)
          ·
            refine lv_aload_n hx hb dX7_countRows_70 rfl (lv_at hl 2 rfl) ?_
            refine lv_iload_n hx hb dX7_countRows_71 rfl (lv_at hl 0 rfl) ?_
            obtain ⟨hPc, hDc, hFc⟩ := g5_sub3 (wc := [(a_th, (oc7 a_h a_k a_ba a_ad e_fu a_nx a_cn a_hp a_hl a_lv)), (a_ba, (arJ G 24 f_ba)), (a_ad, (arI G 1536 f_ad)), (a_nx, (arJ G 2048 z10)), (a_cn, (arJ G 2048 z8))]) hP hD hS hA [0, 1, 2, 4, 3] (by decide +kernel) rfl
            refine va_callv (va_runV (As := [.int 4]) (rest := []) ⟨hx, hb, hml, hown, hts⟩ (th_step l G a_th a_ba a_ad a_nx a_cn a_h a_k a_hp a_hl a_lv H.size e_fu 4 f_ba f_ad z10 z8 ⟨by decide, by decide⟩ (e_tk)) (cwV 1 hts gV_X7_102 rfl rfl rfl hv_X7_stepTo ⟨Nat.le_of_ble_eq_true rfl, Nat.le_of_ble_eq_true rfl⟩) (g5_preV hPc hK hDc hN hT hS hFc (ci := 7) (q0 := 0) rfl rfl) rfl rfl hl.1 rfl (lv_room (Nat.le_of_ble_eq_true rfl)) dX7_countRows_72 ⟨Nat.le_of_ble_eq_true rfl, Nat.le_of_ble_eq_true rfl⟩) hS (fun q _ h => hFc q h) hFc (fun u t H locs ht hvm hw hB hz1 hk1 hS => ?_)
            obtain ⟨hP1, hD1⟩ := hB
            have hP1 := g5_ht ht hP1
            obtain ⟨z12, rfl⟩ := hw
            have hJ9 := va_join (wr := []) hP hD [0, 1, 2, 4, 3] [] rfl rfl (by decide +kernel) (by decide +kernel) hk1 hFc hP1 hD1
            clear hP hD hPc hDc hFc ht hvm hz1 hk1 hP1 hD1
            obtain ⟨hP, hD⟩ := hJ9
            refine g5_rs [(a_th, (oc7 a_h a_k a_ba a_ad e_fu a_cn a_nx a_hp a_hl a_lv)), (a_ba, (arJ G 24 f_ba)), (a_ad, (arI G 1536 f_ad)), (a_nx, (arJ G 2048 z10)), (a_cn, (arJ G 2048 z12))] hP hD ?_
            clear hP hD
            intro hP hD
            refine lv_iinc (v := 5) (lv' := [(2, .int 5), (1, .int (e_fu + 1)), (0, .ref a_th)]) hx hb dX7_countRows_75 hl (k := 0) rfl (by decide +kernel) (by decide +kernel) rfl ?_
            clear hl
            intro ls hl
            refine W.eq (g2 := F0 m 78 ls []) rfl ?_
            refine lv_goto (tgt := 64) hx hb dX7_countRows_78 (by decide +kernel) ?_
            refine lv_iload_n hx hb dX7_countRows_64 rfl (lv_at hl 0 rfl) ?_
            refine lv_bipush (v := 24) hx hb dX7_countRows_65 (by decide +kernel) ?_
            refine lv_icmp_ge (tgt := 81) hx hb dX7_countRows_67 (by decide +kernel) (fun c_13 => ?_) (fun c_13 => ?_)
            ·
              exact absurd c_13 (by decide +kernel)
            ·
              refine lv_aload_n hx hb dX7_countRows_70 rfl (lv_at hl 2 rfl) ?_
              refine lv_iload_n hx hb dX7_countRows_71 rfl (lv_at hl 0 rfl) ?_
              obtain ⟨hPc, hDc, hFc⟩ := g5_sub3 (wc := [(a_th, (oc7 a_h a_k a_ba a_ad e_fu a_cn a_nx a_hp a_hl a_lv)), (a_ba, (arJ G 24 f_ba)), (a_ad, (arI G 1536 f_ad)), (a_cn, (arJ G 2048 z12)), (a_nx, (arJ G 2048 z10))]) hP hD hS hA [0, 1, 2, 4, 3] (by decide +kernel) rfl
              refine va_callv (va_runV (As := [.int 5]) (rest := []) ⟨hx, hb, hml, hown, hts⟩ (th_step l G a_th a_ba a_ad a_cn a_nx a_h a_k a_hp a_hl a_lv H.size e_fu 5 f_ba f_ad z12 z10 ⟨by decide, by decide⟩ (e_tk)) (cwV 1 hts gV_X7_102 rfl rfl rfl hv_X7_stepTo ⟨Nat.le_of_ble_eq_true rfl, Nat.le_of_ble_eq_true rfl⟩) (g5_preV hPc hK hDc hN hT hS hFc (ci := 7) (q0 := 0) rfl rfl) rfl rfl hl.1 rfl (lv_room (Nat.le_of_ble_eq_true rfl)) dX7_countRows_72 ⟨Nat.le_of_ble_eq_true rfl, Nat.le_of_ble_eq_true rfl⟩) hS (fun q _ h => hFc q h) hFc (fun u t H locs ht hvm hw hB hz1 hk1 hS => ?_)
              obtain ⟨hP1, hD1⟩ := hB
              have hP1 := g5_ht ht hP1
              obtain ⟨z14, rfl⟩ := hw
              have hJ9 := va_join (wr := []) hP hD [0, 1, 2, 4, 3] [] rfl rfl (by decide +kernel) (by decide +kernel) hk1 hFc hP1 hD1
              clear hP hD hPc hDc hFc ht hvm hz1 hk1 hP1 hD1
              obtain ⟨hP, hD⟩ := hJ9
              refine g5_rs [(a_th, (oc7 a_h a_k a_ba a_ad e_fu a_nx a_cn a_hp a_hl a_lv)), (a_ba, (arJ G 24 f_ba)), (a_ad, (arI G 1536 f_ad)), (a_cn, (arJ G 2048 z12)), (a_nx, (arJ G 2048 z14))] hP hD ?_
              clear hP hD
              intro hP hD
              refine lv_iinc (v := 6) (lv' := [(2, .int 6), (1, .int (e_fu + 1)), (0, .ref a_th)]) hx hb dX7_countRows_75 hl (k := 0) rfl (by decide +kernel) (by decide +kernel) rfl ?_
              clear hl
              intro ls hl
              refine W.eq (g2 := F0 m 78 ls []) rfl ?_
              refine lv_goto (tgt := 64) hx hb dX7_countRows_78 (by decide +kernel) ?_
              refine lv_iload_n hx hb dX7_countRows_64 rfl (lv_at hl 0 rfl) ?_
              refine lv_bipush (v := 24) hx hb dX7_countRows_65 (by decide +kernel) ?_
              refine lv_icmp_ge (tgt := 81) hx hb dX7_countRows_67 (by decide +kernel) (fun c_15 => ?_) (fun c_15 => ?_)
              ·
                exact absurd c_15 (by decide +kernel)
              ·
                refine lv_aload_n hx hb dX7_countRows_70 rfl (lv_at hl 2 rfl) ?_
                refine lv_iload_n hx hb dX7_countRows_71 rfl (lv_at hl 0 rfl) ?_
                obtain ⟨hPc, hDc, hFc⟩ := g5_sub3 (wc := [(a_th, (oc7 a_h a_k a_ba a_ad e_fu a_nx a_cn a_hp a_hl a_lv)), (a_ba, (arJ G 24 f_ba)), (a_ad, (arI G 1536 f_ad)), (a_nx, (arJ G 2048 z14)), (a_cn, (arJ G 2048 z12))]) hP hD hS hA [0, 1, 2, 4, 3] (by decide +kernel) rfl
                refine va_callv (va_runV (As := [.int 6]) (rest := []) ⟨hx, hb, hml, hown, hts⟩ (th_step l G a_th a_ba a_ad a_nx a_cn a_h a_k a_hp a_hl a_lv H.size e_fu 6 f_ba f_ad z14 z12 ⟨by decide, by decide⟩ (e_tk)) (cwV 1 hts gV_X7_102 rfl rfl rfl hv_X7_stepTo ⟨Nat.le_of_ble_eq_true rfl, Nat.le_of_ble_eq_true rfl⟩) (g5_preV hPc hK hDc hN hT hS hFc (ci := 7) (q0 := 0) rfl rfl) rfl rfl hl.1 rfl (lv_room (Nat.le_of_ble_eq_true rfl)) dX7_countRows_72 ⟨Nat.le_of_ble_eq_true rfl, Nat.le_of_ble_eq_true rfl⟩) hS (fun q _ h => hFc q h) hFc (fun u t H locs ht hvm hw hB hz1 hk1 hS => ?_)
                obtain ⟨hP1, hD1⟩ := hB
                have hP1 := g5_ht ht hP1
                obtain ⟨z16, rfl⟩ := hw
                have hJ9 := va_join (wr := []) hP hD [0, 1, 2, 4, 3] [] rfl rfl (by decide +kernel) (by decide +kernel) hk1 hFc hP1 hD1
                clear hP hD hPc hDc hFc ht hvm hz1 hk1 hP1 hD1
                obtain ⟨hP, hD⟩ := hJ9
                refine g5_rs [(a_th, (oc7 a_h a_k a_ba a_ad e_fu a_cn a_nx a_hp a_hl a_lv)), (a_ba, (arJ G 24 f_ba)), (a_ad, (arI G 1536 f_ad)), (a_nx, (arJ G 2048 z14)), (a_cn, (arJ G 2048 z16))] hP hD ?_
                clear hP hD
                intro hP hD
                refine lv_iinc (v := 7) (lv' := [(2, .int 7), (1, .int (e_fu + 1)), (0, .ref a_th)]) hx hb dX7_countRows_75 hl (k := 0) rfl (by decide +kernel) (by decide +kernel) rfl ?_
                clear hl
                intro ls hl
                refine W.eq (g2 := F0 m 78 ls []) rfl ?_
                refine lv_goto (tgt := 64) hx hb dX7_countRows_78 (by decide +kernel) ?_
                refine lv_iload_n hx hb dX7_countRows_64 rfl (lv_at hl 0 rfl) ?_
                refine lv_bipush (v := 24) hx hb dX7_countRows_65 (by decide +kernel) ?_
                refine lv_icmp_ge (tgt := 81) hx hb dX7_countRows_67 (by decide +kernel) (fun c_17 => ?_) (fun c_17 => ?_)
                ·
                  exact absurd c_17 (by decide +kernel)
                ·
                  refine lv_aload_n hx hb dX7_countRows_70 rfl (lv_at hl 2 rfl) ?_
                  refine lv_iload_n hx hb dX7_countRows_71 rfl (lv_at hl 0 rfl) ?_
                  obtain ⟨hPc, hDc, hFc⟩ := g5_sub3 (wc := [(a_th, (oc7 a_h a_k a_ba a_ad e_fu a_cn a_nx a_hp a_hl a_lv)), (a_ba, (arJ G 24 f_ba)), (a_ad, (arI G 1536 f_ad)), (a_cn, (arJ G 2048 z16)), (a_nx, (arJ G 2048 z14))]) hP hD hS hA [0, 1, 2, 4, 3] (by decide +kernel) rfl
                  refine va_callv (va_runV (As := [.int 7]) (rest := []) ⟨hx, hb, hml, hown, hts⟩ (th_step l G a_th a_ba a_ad a_cn a_nx a_h a_k a_hp a_hl a_lv H.size e_fu 7 f_ba f_ad z16 z14 ⟨by decide, by decide⟩ (e_tk)) (cwV 1 hts gV_X7_102 rfl rfl rfl hv_X7_stepTo ⟨Nat.le_of_ble_eq_true rfl, Nat.le_of_ble_eq_true rfl⟩) (g5_preV hPc hK hDc hN hT hS hFc (ci := 7) (q0 := 0) rfl rfl) rfl rfl hl.1 rfl (lv_room (Nat.le_of_ble_eq_true rfl)) dX7_countRows_72 ⟨Nat.le_of_ble_eq_true rfl, Nat.le_of_ble_eq_true rfl⟩) hS (fun q _ h => hFc q h) hFc (fun u t H locs ht hvm hw hB hz1 hk1 hS => ?_)
                  obtain ⟨hP1, hD1⟩ := hB
                  have hP1 := g5_ht ht hP1
                  obtain ⟨z18, rfl⟩ := hw
                  have hJ9 := va_join (wr := []) hP hD [0, 1, 2, 4, 3] [] rfl rfl (by decide +kernel) (by decide +kernel) hk1 hFc hP1 hD1
                  clear hP hD hPc hDc hFc ht hvm hz1 hk1 hP1 hD1
                  obtain ⟨hP, hD⟩ := hJ9
                  refine g5_rs [(a_th, (oc7 a_h a_k a_ba a_ad e_fu a_nx a_cn a_hp a_hl a_lv)), (a_ba, (arJ G 24 f_ba)), (a_ad, (arI G 1536 f_ad)), (a_cn, (arJ G 2048 z16)), (a_nx, (arJ G 2048 z18))] hP hD ?_
                  clear hP hD
                  intro hP hD
                  refine lv_iinc (v := 8) (lv' := [(2, .int 8), (1, .int (e_fu + 1)), (0, .ref a_th)]) hx hb dX7_countRows_75 hl (k := 0) rfl (by decide +kernel) (by decide +kernel) rfl ?_
                  clear hl
                  intro ls hl
                  refine W.eq (g2 := F0 m 78 ls []) rfl ?_
                  refine lv_goto (tgt := 64) hx hb dX7_countRows_78 (by decide +kernel) ?_
                  refine lv_iload_n hx hb dX7_countRows_64 rfl (lv_at hl 0 rfl) ?_
                  refine lv_bipush (v := 24) hx hb dX7_countRows_65 (by decide +kernel) ?_
                  refine lv_icmp_ge (tgt := 81) hx hb dX7_countRows_67 (by decide +kernel) (fun c_19 => ?_) (fun c_19 => ?_)
                  ·
                    exact absurd c_19 (by decide +kernel)
                  ·
                    refine lv_aload_n hx hb dX7_countRows_70 rfl (lv_at hl 2 rfl) ?_
                    refine lv_iload_n hx hb dX7_countRows_71 rfl (lv_at hl 0 rfl) ?_
                    obtain ⟨hPc, hDc, hFc⟩ := g5_sub3 (wc := [(a_th, (oc7 a_h a_k a_ba a_ad e_fu a_nx a_cn a_hp a_hl a_lv)), (a_ba, (arJ G 24 f_ba)), (a_ad, (arI G 1536 f_ad)), (a_nx, (arJ G 2048 z18)), (a_cn, (arJ G 2048 z16))]) hP hD hS hA [0, 1, 2, 4, 3] (by decide +kernel) rfl
                    refine va_callv (va_runV (As := [.int 8]) (rest := []) ⟨hx, hb, hml, hown, hts⟩ (th_step l G a_th a_ba a_ad a_nx a_cn a_h a_k a_hp a_hl a_lv H.size e_fu 8 f_ba f_ad z18 z16 ⟨by decide, by decide⟩ (e_tk)) (cwV 1 hts gV_X7_102 rfl rfl rfl hv_X7_stepTo ⟨Nat.le_of_ble_eq_true rfl, Nat.le_of_ble_eq_true rfl⟩) (g5_preV hPc hK hDc hN hT hS hFc (ci := 7) (q0 := 0) rfl rfl) rfl rfl hl.1 rfl (lv_room (Nat.le_of_ble_eq_true rfl)) dX7_countRows_72 ⟨Nat.le_of_ble_eq_true rfl, Nat.le_of_ble_eq_true rfl⟩) hS (fun q _ h => hFc q h) hFc (fun u t H locs ht hvm hw hB hz1 hk1 hS => ?_)
                    obtain ⟨hP1, hD1⟩ := hB
                    have hP1 := g5_ht ht hP1
                    obtain ⟨z20, rfl⟩ := hw
                    have hJ9 := va_join (wr := []) hP hD [0, 1, 2, 4, 3] [] rfl rfl (by decide +kernel) (by decide +kernel) hk1 hFc hP1 hD1
                    clear hP hD hPc hDc hFc ht hvm hz1 hk1 hP1 hD1
                    obtain ⟨hP, hD⟩ := hJ9
                    refine g5_rs [(a_th, (oc7 a_h a_k a_ba a_ad e_fu a_cn a_nx a_hp a_hl a_lv)), (a_ba, (arJ G 24 f_ba)), (a_ad, (arI G 1536 f_ad)), (a_nx, (arJ G 2048 z18)), (a_cn, (arJ G 2048 z20))] hP hD ?_
                    clear hP hD
                    intro hP hD
                    refine lv_iinc (v := 9) (lv' := [(2, .int 9), (1, .int (e_fu + 1)), (0, .ref a_th)]) hx hb dX7_countRows_75 hl (k := 0) rfl (by decide +kernel) (by decide +kernel) rfl ?_
                    clear hl
                    intro ls hl
                    refine W.eq (g2 := F0 m 78 ls []) rfl ?_
                    refine lv_goto (tgt := 64) hx hb dX7_countRows_78 (by decide +kernel) ?_
                    refine lv_iload_n hx hb dX7_countRows_64 rfl (lv_at hl 0 rfl) ?_
                    refine lv_bipush (v := 24) hx hb dX7_countRows_65 (by decide +kernel) ?_
                    refine lv_icmp_ge (tgt := 81) hx hb dX7_countRows_67 (by decide +kernel) (fun c_21 => ?_) (fun c_21 => ?_)
                    ·
                      exact absurd c_21 (by decide +kernel)
                    ·
                      refine lv_aload_n hx hb dX7_countRows_70 rfl (lv_at hl 2 rfl) ?_
                      refine lv_iload_n hx hb dX7_countRows_71 rfl (lv_at hl 0 rfl) ?_
                      obtain ⟨hPc, hDc, hFc⟩ := g5_sub3 (wc := [(a_th, (oc7 a_h a_k a_ba a_ad e_fu a_cn a_nx a_hp a_hl a_lv)), (a_ba, (arJ G 24 f_ba)), (a_ad, (arI G 1536 f_ad)), (a_cn, (arJ G 2048 z20)), (a_nx, (arJ G 2048 z18))]) hP hD hS hA [0, 1, 2, 4, 3] (by decide +kernel) rfl
                      refine va_callv (va_runV (As := [.int 9]) (rest := []) ⟨hx, hb, hml, hown, hts⟩ (th_step l G a_th a_ba a_ad a_cn a_nx a_h a_k a_hp a_hl a_lv H.size e_fu 9 f_ba f_ad z20 z18 ⟨by decide, by decide⟩ (e_tk)) (cwV 1 hts gV_X7_102 rfl rfl rfl hv_X7_stepTo ⟨Nat.le_of_ble_eq_true rfl, Nat.le_of_ble_eq_true rfl⟩) (g5_preV hPc hK hDc hN hT hS hFc (ci := 7) (q0 := 0) rfl rfl) rfl rfl hl.1 rfl (lv_room (Nat.le_of_ble_eq_true rfl)) dX7_countRows_72 ⟨Nat.le_of_ble_eq_true rfl, Nat.le_of_ble_eq_true rfl⟩) hS (fun q _ h => hFc q h) hFc (fun u t H locs ht hvm hw hB hz1 hk1 hS => ?_)
                      obtain ⟨hP1, hD1⟩ := hB
                      have hP1 := g5_ht ht hP1
                      obtain ⟨z22, rfl⟩ := hw
                      have hJ9 := va_join (wr := []) hP hD [0, 1, 2, 4, 3] [] rfl rfl (by decide +kernel) (by decide +kernel) hk1 hFc hP1 hD1
                      clear hP hD hPc hDc hFc ht hvm hz1 hk1 hP1 hD1
                      obtain ⟨hP, hD⟩ := hJ9
                      refine g5_rs [(a_th, (oc7 a_h a_k a_ba a_ad e_fu a_nx a_cn a_hp a_hl a_lv)), (a_ba, (arJ G 24 f_ba)), (a_ad, (arI G 1536 f_ad)), (a_cn, (arJ G 2048 z20)), (a_nx, (arJ G 2048 z22))] hP hD ?_
                      clear hP hD
                      intro hP hD
                      refine lv_iinc (v := 10) (lv' := [(2, .int 10), (1, .int (e_fu + 1)), (0, .ref a_th)]) hx hb dX7_countRows_75 hl (k := 0) rfl (by decide +kernel) (by decide +kernel) rfl ?_
                      clear hl
                      intro ls hl
                      refine W.eq (g2 := F0 m 78 ls []) rfl ?_
                      refine lv_goto (tgt := 64) hx hb dX7_countRows_78 (by decide +kernel) ?_
                      refine lv_iload_n hx hb dX7_countRows_64 rfl (lv_at hl 0 rfl) ?_
                      refine lv_bipush (v := 24) hx hb dX7_countRows_65 (by decide +kernel) ?_
                      refine lv_icmp_ge (tgt := 81) hx hb dX7_countRows_67 (by decide +kernel) (fun c_23 => ?_) (fun c_23 => ?_)
                      ·
                        exact absurd c_23 (by decide +kernel)
                      ·
                        refine lv_aload_n hx hb dX7_countRows_70 rfl (lv_at hl 2 rfl) ?_
                        refine lv_iload_n hx hb dX7_countRows_71 rfl (lv_at hl 0 rfl) ?_
                        obtain ⟨hPc, hDc, hFc⟩ := g5_sub3 (wc := [(a_th, (oc7 a_h a_k a_ba a_ad e_fu a_nx a_cn a_hp a_hl a_lv)), (a_ba, (arJ G 24 f_ba)), (a_ad, (arI G 1536 f_ad)), (a_nx, (arJ G 2048 z22)), (a_cn, (arJ G 2048 z20))]) hP hD hS hA [0, 1, 2, 4, 3] (by decide +kernel) rfl
                        refine va_callv (va_runV (As := [.int 10]) (rest := []) ⟨hx, hb, hml, hown, hts⟩ (th_step l G a_th a_ba a_ad a_nx a_cn a_h a_k a_hp a_hl a_lv H.size e_fu 10 f_ba f_ad z22 z20 ⟨by decide, by decide⟩ (e_tk)) (cwV 1 hts gV_X7_102 rfl rfl rfl hv_X7_stepTo ⟨Nat.le_of_ble_eq_true rfl, Nat.le_of_ble_eq_true rfl⟩) (g5_preV hPc hK hDc hN hT hS hFc (ci := 7) (q0 := 0) rfl rfl) rfl rfl hl.1 rfl (lv_room (Nat.le_of_ble_eq_true rfl)) dX7_countRows_72 ⟨Nat.le_of_ble_eq_true rfl, Nat.le_of_ble_eq_true rfl⟩) hS (fun q _ h => hFc q h) hFc (fun u t H locs ht hvm hw hB hz1 hk1 hS => ?_)
                        obtain ⟨hP1, hD1⟩ := hB
                        have hP1 := g5_ht ht hP1
                        obtain ⟨z24, rfl⟩ := hw
                        have hJ9 := va_join (wr := []) hP hD [0, 1, 2, 4, 3] [] rfl rfl (by decide +kernel) (by decide +kernel) hk1 hFc hP1 hD1
                        clear hP hD hPc hDc hFc ht hvm hz1 hk1 hP1 hD1
                        obtain ⟨hP, hD⟩ := hJ9
                        refine g5_rs [(a_th, (oc7 a_h a_k a_ba a_ad e_fu a_cn a_nx a_hp a_hl a_lv)), (a_ba, (arJ G 24 f_ba)), (a_ad, (arI G 1536 f_ad)), (a_nx, (arJ G 2048 z22)), (a_cn, (arJ G 2048 z24))] hP hD ?_
                        clear hP hD
                        intro hP hD
                        refine lv_iinc (v := 11) (lv' := [(2, .int 11), (1, .int (e_fu + 1)), (0, .ref a_th)]) hx hb dX7_countRows_75 hl (k := 0) rfl (by decide +kernel) (by decide +kernel) rfl ?_
                        clear hl
                        intro ls hl
                        refine W.eq (g2 := F0 m 78 ls []) rfl ?_
                        refine lv_goto (tgt := 64) hx hb dX7_countRows_78 (by decide +kernel) ?_
                        refine lv_iload_n hx hb dX7_countRows_64 rfl (lv_at hl 0 rfl) ?_
                        refine lv_bipush (v := 24) hx hb dX7_countRows_65 (by decide +kernel) ?_
                        refine lv_icmp_ge (tgt := 81) hx hb dX7_countRows_67 (by decide +kernel) (fun c_25 => ?_) (fun c_25 => ?_)
                        ·
                          exact absurd c_25 (by decide +kernel)
                        ·
                          refine lv_aload_n hx hb dX7_countRows_70 rfl (lv_at hl 2 rfl) ?_
                          refine lv_iload_n hx hb dX7_countRows_71 rfl (lv_at hl 0 rfl) ?_
                          obtain ⟨hPc, hDc, hFc⟩ := g5_sub3 (wc := [(a_th, (oc7 a_h a_k a_ba a_ad e_fu a_cn a_nx a_hp a_hl a_lv)), (a_ba, (arJ G 24 f_ba)), (a_ad, (arI G 1536 f_ad)), (a_cn, (arJ G 2048 z24)), (a_nx, (arJ G 2048 z22))]) hP hD hS hA [0, 1, 2, 4, 3] (by decide +kernel) rfl
                          refine va_callv (va_runV (As := [.int 11]) (rest := []) ⟨hx, hb, hml, hown, hts⟩ (th_step l G a_th a_ba a_ad a_cn a_nx a_h a_k a_hp a_hl a_lv H.size e_fu 11 f_ba f_ad z24 z22 ⟨by decide, by decide⟩ (e_tk)) (cwV 1 hts gV_X7_102 rfl rfl rfl hv_X7_stepTo ⟨Nat.le_of_ble_eq_true rfl, Nat.le_of_ble_eq_true rfl⟩) (g5_preV hPc hK hDc hN hT hS hFc (ci := 7) (q0 := 0) rfl rfl) rfl rfl hl.1 rfl (lv_room (Nat.le_of_ble_eq_true rfl)) dX7_countRows_72 ⟨Nat.le_of_ble_eq_true rfl, Nat.le_of_ble_eq_true rfl⟩) hS (fun q _ h => hFc q h) hFc (fun u t H locs ht hvm hw hB hz1 hk1 hS => ?_)
                          obtain ⟨hP1, hD1⟩ := hB
                          have hP1 := g5_ht ht hP1
                          obtain ⟨z26, rfl⟩ := hw
                          have hJ9 := va_join (wr := []) hP hD [0, 1, 2, 4, 3] [] rfl rfl (by decide +kernel) (by decide +kernel) hk1 hFc hP1 hD1
                          clear hP hD hPc hDc hFc ht hvm hz1 hk1 hP1 hD1
                          obtain ⟨hP, hD⟩ := hJ9
                          refine g5_rs [(a_th, (oc7 a_h a_k a_ba a_ad e_fu a_nx a_cn a_hp a_hl a_lv)), (a_ba, (arJ G 24 f_ba)), (a_ad, (arI G 1536 f_ad)), (a_cn, (arJ G 2048 z24)), (a_nx, (arJ G 2048 z26))] hP hD ?_
                          clear hP hD
                          intro hP hD
                          refine lv_iinc (v := 12) (lv' := [(2, .int 12), (1, .int (e_fu + 1)), (0, .ref a_th)]) hx hb dX7_countRows_75 hl (k := 0) rfl (by decide +kernel) (by decide +kernel) rfl ?_
                          clear hl
                          intro ls hl
                          refine W.eq (g2 := F0 m 78 ls []) rfl ?_
                          refine lv_goto (tgt := 64) hx hb dX7_countRows_78 (by decide +kernel) ?_
                          refine lv_iload_n hx hb dX7_countRows_64 rfl (lv_at hl 0 rfl) ?_
                          refine lv_bipush (v := 24) hx hb dX7_countRows_65 (by decide +kernel) ?_
                          refine lv_icmp_ge (tgt := 81) hx hb dX7_countRows_67 (by decide +kernel) (fun c_27 => ?_) (fun c_27 => ?_)
                          ·
                            exact absurd c_27 (by decide +kernel)
                          ·
                            refine lv_aload_n hx hb dX7_countRows_70 rfl (lv_at hl 2 rfl) ?_
                            refine lv_iload_n hx hb dX7_countRows_71 rfl (lv_at hl 0 rfl) ?_
                            obtain ⟨hPc, hDc, hFc⟩ := g5_sub3 (wc := [(a_th, (oc7 a_h a_k a_ba a_ad e_fu a_nx a_cn a_hp a_hl a_lv)), (a_ba, (arJ G 24 f_ba)), (a_ad, (arI G 1536 f_ad)), (a_nx, (arJ G 2048 z26)), (a_cn, (arJ G 2048 z24))]) hP hD hS hA [0, 1, 2, 4, 3] (by decide +kernel) rfl
                            refine va_callv (va_runV (As := [.int 12]) (rest := []) ⟨hx, hb, hml, hown, hts⟩ (th_step l G a_th a_ba a_ad a_nx a_cn a_h a_k a_hp a_hl a_lv H.size e_fu 12 f_ba f_ad z26 z24 ⟨by decide, by decide⟩ (e_tk)) (cwV 1 hts gV_X7_102 rfl rfl rfl hv_X7_stepTo ⟨Nat.le_of_ble_eq_true rfl, Nat.le_of_ble_eq_true rfl⟩) (g5_preV hPc hK hDc hN hT hS hFc (ci := 7) (q0 := 0) rfl rfl) rfl rfl hl.1 rfl (lv_room (Nat.le_of_ble_eq_true rfl)) dX7_countRows_72 ⟨Nat.le_of_ble_eq_true rfl, Nat.le_of_ble_eq_true rfl⟩) hS (fun q _ h => hFc q h) hFc (fun u t H locs ht hvm hw hB hz1 hk1 hS => ?_)
                            obtain ⟨hP1, hD1⟩ := hB
                            have hP1 := g5_ht ht hP1
                            obtain ⟨z28, rfl⟩ := hw
                            have hJ9 := va_join (wr := []) hP hD [0, 1, 2, 4, 3] [] rfl rfl (by decide +kernel) (by decide +kernel) hk1 hFc hP1 hD1
                            clear hP hD hPc hDc hFc ht hvm hz1 hk1 hP1 hD1
                            obtain ⟨hP, hD⟩ := hJ9
                            refine g5_rs [(a_th, (oc7 a_h a_k a_ba a_ad e_fu a_cn a_nx a_hp a_hl a_lv)), (a_ba, (arJ G 24 f_ba)), (a_ad, (arI G 1536 f_ad)), (a_nx, (arJ G 2048 z26)), (a_cn, (arJ G 2048 z28))] hP hD ?_
                            clear hP hD
                            intro hP hD
                            refine lv_iinc (v := 13) (lv' := [(2, .int 13), (1, .int (e_fu + 1)), (0, .ref a_th)]) hx hb dX7_countRows_75 hl (k := 0) rfl (by decide +kernel) (by decide +kernel) rfl ?_
                            clear hl
                            intro ls hl
                            refine W.eq (g2 := F0 m 78 ls []) rfl ?_
                            refine lv_goto (tgt := 64) hx hb dX7_countRows_78 (by decide +kernel) ?_
                            refine lv_iload_n hx hb dX7_countRows_64 rfl (lv_at hl 0 rfl) ?_
                            refine lv_bipush (v := 24) hx hb dX7_countRows_65 (by decide +kernel) ?_
                            refine lv_icmp_ge (tgt := 81) hx hb dX7_countRows_67 (by decide +kernel) (fun c_29 => ?_) (fun c_29 => ?_)
                            ·
                              exact absurd c_29 (by decide +kernel)
                            ·
                              refine lv_aload_n hx hb dX7_countRows_70 rfl (lv_at hl 2 rfl) ?_
                              refine lv_iload_n hx hb dX7_countRows_71 rfl (lv_at hl 0 rfl) ?_
                              obtain ⟨hPc, hDc, hFc⟩ := g5_sub3 (wc := [(a_th, (oc7 a_h a_k a_ba a_ad e_fu a_cn a_nx a_hp a_hl a_lv)), (a_ba, (arJ G 24 f_ba)), (a_ad, (arI G 1536 f_ad)), (a_cn, (arJ G 2048 z28)), (a_nx, (arJ G 2048 z26))]) hP hD hS hA [0, 1, 2, 4, 3] (by decide +kernel) rfl
                              refine va_callv (va_runV (As := [.int 13]) (rest := []) ⟨hx, hb, hml, hown, hts⟩ (th_step l G a_th a_ba a_ad a_cn a_nx a_h a_k a_hp a_hl a_lv H.size e_fu 13 f_ba f_ad z28 z26 ⟨by decide, by decide⟩ (e_tk)) (cwV 1 hts gV_X7_102 rfl rfl rfl hv_X7_stepTo ⟨Nat.le_of_ble_eq_true rfl, Nat.le_of_ble_eq_true rfl⟩) (g5_preV hPc hK hDc hN hT hS hFc (ci := 7) (q0 := 0) rfl rfl) rfl rfl hl.1 rfl (lv_room (Nat.le_of_ble_eq_true rfl)) dX7_countRows_72 ⟨Nat.le_of_ble_eq_true rfl, Nat.le_of_ble_eq_true rfl⟩) hS (fun q _ h => hFc q h) hFc (fun u t H locs ht hvm hw hB hz1 hk1 hS => ?_)
                              obtain ⟨hP1, hD1⟩ := hB
                              have hP1 := g5_ht ht hP1
                              obtain ⟨z30, rfl⟩ := hw
                              have hJ9 := va_join (wr := []) hP hD [0, 1, 2, 4, 3] [] rfl rfl (by decide +kernel) (by decide +kernel) hk1 hFc hP1 hD1
                              clear hP hD hPc hDc hFc ht hvm hz1 hk1 hP1 hD1
                              obtain ⟨hP, hD⟩ := hJ9
                              refine g5_rs [(a_th, (oc7 a_h a_k a_ba a_ad e_fu a_nx a_cn a_hp a_hl a_lv)), (a_ba, (arJ G 24 f_ba)), (a_ad, (arI G 1536 f_ad)), (a_cn, (arJ G 2048 z28)), (a_nx, (arJ G 2048 z30))] hP hD ?_
                              clear hP hD
                              intro hP hD
                              refine lv_iinc (v := 14) (lv' := [(2, .int 14), (1, .int (e_fu + 1)), (0, .ref a_th)]) hx hb dX7_countRows_75 hl (k := 0) rfl (by decide +kernel) (by decide +kernel) rfl ?_
                              clear hl
                              intro ls hl
                              refine W.eq (g2 := F0 m 78 ls []) rfl ?_
                              refine lv_goto (tgt := 64) hx hb dX7_countRows_78 (by decide +kernel) ?_
                              refine lv_iload_n hx hb dX7_countRows_64 rfl (lv_at hl 0 rfl) ?_
                              refine lv_bipush (v := 24) hx hb dX7_countRows_65 (by decide +kernel) ?_
                              refine lv_icmp_ge (tgt := 81) hx hb dX7_countRows_67 (by decide +kernel) (fun c_31 => ?_) (fun c_31 => ?_)
                              ·
                                exact absurd c_31 (by decide +kernel)
                              ·
                                refine lv_aload_n hx hb dX7_countRows_70 rfl (lv_at hl 2 rfl) ?_
                                refine lv_iload_n hx hb dX7_countRows_71 rfl (lv_at hl 0 rfl) ?_
                                obtain ⟨hPc, hDc, hFc⟩ := g5_sub3 (wc := [(a_th, (oc7 a_h a_k a_ba a_ad e_fu a_nx a_cn a_hp a_hl a_lv)), (a_ba, (arJ G 24 f_ba)), (a_ad, (arI G 1536 f_ad)), (a_nx, (arJ G 2048 z30)), (a_cn, (arJ G 2048 z28))]) hP hD hS hA [0, 1, 2, 4, 3] (by decide +kernel) rfl
                                refine va_callv (va_runV (As := [.int 14]) (rest := []) ⟨hx, hb, hml, hown, hts⟩ (th_step l G a_th a_ba a_ad a_nx a_cn a_h a_k a_hp a_hl a_lv H.size e_fu 14 f_ba f_ad z30 z28 ⟨by decide, by decide⟩ (e_tk)) (cwV 1 hts gV_X7_102 rfl rfl rfl hv_X7_stepTo ⟨Nat.le_of_ble_eq_true rfl, Nat.le_of_ble_eq_true rfl⟩) (g5_preV hPc hK hDc hN hT hS hFc (ci := 7) (q0 := 0) rfl rfl) rfl rfl hl.1 rfl (lv_room (Nat.le_of_ble_eq_true rfl)) dX7_countRows_72 ⟨Nat.le_of_ble_eq_true rfl, Nat.le_of_ble_eq_true rfl⟩) hS (fun q _ h => hFc q h) hFc (fun u t H locs ht hvm hw hB hz1 hk1 hS => ?_)
                                obtain ⟨hP1, hD1⟩ := hB
                                have hP1 := g5_ht ht hP1
                                obtain ⟨z32, rfl⟩ := hw
                                have hJ9 := va_join (wr := []) hP hD [0, 1, 2, 4, 3] [] rfl rfl (by decide +kernel) (by decide +kernel) hk1 hFc hP1 hD1
                                clear hP hD hPc hDc hFc ht hvm hz1 hk1 hP1 hD1
                                obtain ⟨hP, hD⟩ := hJ9
                                refine g5_rs [(a_th, (oc7 a_h a_k a_ba a_ad e_fu a_cn a_nx a_hp a_hl a_lv)), (a_ba, (arJ G 24 f_ba)), (a_ad, (arI G 1536 f_ad)), (a_nx, (arJ G 2048 z30)), (a_cn, (arJ G 2048 z32))] hP hD ?_
                                clear hP hD
                                intro hP hD
                                refine lv_iinc (v := 15) (lv' := [(2, .int 15), (1, .int (e_fu + 1)), (0, .ref a_th)]) hx hb dX7_countRows_75 hl (k := 0) rfl (by decide +kernel) (by decide +kernel) rfl ?_
                                clear hl
                                intro ls hl
                                refine W.eq (g2 := F0 m 78 ls []) rfl ?_
                                refine lv_goto (tgt := 64) hx hb dX7_countRows_78 (by decide +kernel) ?_
                                refine lv_iload_n hx hb dX7_countRows_64 rfl (lv_at hl 0 rfl) ?_
                                refine lv_bipush (v := 24) hx hb dX7_countRows_65 (by decide +kernel) ?_
                                refine lv_icmp_ge (tgt := 81) hx hb dX7_countRows_67 (by decide +kernel) (fun c_33 => ?_) (fun c_33 => ?_)
                                ·
                                  exact absurd c_33 (by decide +kernel)
                                ·
                                  refine lv_aload_n hx hb dX7_countRows_70 rfl (lv_at hl 2 rfl) ?_
                                  refine lv_iload_n hx hb dX7_countRows_71 rfl (lv_at hl 0 rfl) ?_
                                  obtain ⟨hPc, hDc, hFc⟩ := g5_sub3 (wc := [(a_th, (oc7 a_h a_k a_ba a_ad e_fu a_cn a_nx a_hp a_hl a_lv)), (a_ba, (arJ G 24 f_ba)), (a_ad, (arI G 1536 f_ad)), (a_cn, (arJ G 2048 z32)), (a_nx, (arJ G 2048 z30))]) hP hD hS hA [0, 1, 2, 4, 3] (by decide +kernel) rfl
                                  refine va_callv (va_runV (As := [.int 15]) (rest := []) ⟨hx, hb, hml, hown, hts⟩ (th_step l G a_th a_ba a_ad a_cn a_nx a_h a_k a_hp a_hl a_lv H.size e_fu 15 f_ba f_ad z32 z30 ⟨by decide, by decide⟩ (e_tk)) (cwV 1 hts gV_X7_102 rfl rfl rfl hv_X7_stepTo ⟨Nat.le_of_ble_eq_true rfl, Nat.le_of_ble_eq_true rfl⟩) (g5_preV hPc hK hDc hN hT hS hFc (ci := 7) (q0 := 0) rfl rfl) rfl rfl hl.1 rfl (lv_room (Nat.le_of_ble_eq_true rfl)) dX7_countRows_72 ⟨Nat.le_of_ble_eq_true rfl, Nat.le_of_ble_eq_true rfl⟩) hS (fun q _ h => hFc q h) hFc (fun u t H locs ht hvm hw hB hz1 hk1 hS => ?_)
                                  obtain ⟨hP1, hD1⟩ := hB
                                  have hP1 := g5_ht ht hP1
                                  obtain ⟨z34, rfl⟩ := hw
                                  have hJ9 := va_join (wr := []) hP hD [0, 1, 2, 4, 3] [] rfl rfl (by decide +kernel) (by decide +kernel) hk1 hFc hP1 hD1
                                  clear hP hD hPc hDc hFc ht hvm hz1 hk1 hP1 hD1
                                  obtain ⟨hP, hD⟩ := hJ9
                                  refine g5_rs [(a_th, (oc7 a_h a_k a_ba a_ad e_fu a_nx a_cn a_hp a_hl a_lv)), (a_ba, (arJ G 24 f_ba)), (a_ad, (arI G 1536 f_ad)), (a_cn, (arJ G 2048 z32)), (a_nx, (arJ G 2048 z34))] hP hD ?_
                                  clear hP hD
                                  intro hP hD
                                  refine lv_iinc (v := 16) (lv' := [(2, .int 16), (1, .int (e_fu + 1)), (0, .ref a_th)]) hx hb dX7_countRows_75 hl (k := 0) rfl (by decide +kernel) (by decide +kernel) rfl ?_
                                  clear hl
                                  intro ls hl
                                  refine W.eq (g2 := F0 m 78 ls []) rfl ?_
                                  refine lv_goto (tgt := 64) hx hb dX7_countRows_78 (by decide +kernel) ?_
                                  refine lv_iload_n hx hb dX7_countRows_64 rfl (lv_at hl 0 rfl) ?_
                                  refine lv_bipush (v := 24) hx hb dX7_countRows_65 (by decide +kernel) ?_
                                  refine lv_icmp_ge (tgt := 81) hx hb dX7_countRows_67 (by decide +kernel) (fun c_35 => ?_) (fun c_35 => ?_)
                                  ·
                                    exact absurd c_35 (by decide +kernel)
                                  ·
                                    refine lv_aload_n hx hb dX7_countRows_70 rfl (lv_at hl 2 rfl) ?_
                                    refine lv_iload_n hx hb dX7_countRows_71 rfl (lv_at hl 0 rfl) ?_
                                    obtain ⟨hPc, hDc, hFc⟩ := g5_sub3 (wc := [(a_th, (oc7 a_h a_k a_ba a_ad e_fu a_nx a_cn a_hp a_hl a_lv)), (a_ba, (arJ G 24 f_ba)), (a_ad, (arI G 1536 f_ad)), (a_nx, (arJ G 2048 z34)), (a_cn, (arJ G 2048 z32))]) hP hD hS hA [0, 1, 2, 4, 3] (by decide +kernel) rfl
                                    refine va_callv (va_runV (As := [.int 16]) (rest := []) ⟨hx, hb, hml, hown, hts⟩ (th_step l G a_th a_ba a_ad a_nx a_cn a_h a_k a_hp a_hl a_lv H.size e_fu 16 f_ba f_ad z34 z32 ⟨by decide, by decide⟩ (e_tk)) (cwV 1 hts gV_X7_102 rfl rfl rfl hv_X7_stepTo ⟨Nat.le_of_ble_eq_true rfl, Nat.le_of_ble_eq_true rfl⟩) (g5_preV hPc hK hDc hN hT hS hFc (ci := 7) (q0 := 0) rfl rfl) rfl rfl hl.1 rfl (lv_room (Nat.le_of_ble_eq_true rfl)) dX7_countRows_72 ⟨Nat.le_of_ble_eq_true rfl, Nat.le_of_ble_eq_true rfl⟩) hS (fun q _ h => hFc q h) hFc (fun u t H locs ht hvm hw hB hz1 hk1 hS => ?_)
                                    obtain ⟨hP1, hD1⟩ := hB
                                    have hP1 := g5_ht ht hP1
                                    obtain ⟨z36, rfl⟩ := hw
                                    have hJ9 := va_join (wr := []) hP hD [0, 1, 2, 4, 3] [] rfl rfl (by decide +kernel) (by decide +kernel) hk1 hFc hP1 hD1
                                    clear hP hD hPc hDc hFc ht hvm hz1 hk1 hP1 hD1
                                    obtain ⟨hP, hD⟩ := hJ9
                                    refine g5_rs [(a_th, (oc7 a_h a_k a_ba a_ad e_fu a_cn a_nx a_hp a_hl a_lv)), (a_ba, (arJ G 24 f_ba)), (a_ad, (arI G 1536 f_ad)), (a_nx, (arJ G 2048 z34)), (a_cn, (arJ G 2048 z36))] hP hD ?_
                                    clear hP hD
                                    intro hP hD
                                    refine lv_iinc (v := 17) (lv' := [(2, .int 17), (1, .int (e_fu + 1)), (0, .ref a_th)]) hx hb dX7_countRows_75 hl (k := 0) rfl (by decide +kernel) (by decide +kernel) rfl ?_
                                    clear hl
                                    intro ls hl
                                    refine W.eq (g2 := F0 m 78 ls []) rfl ?_
                                    refine lv_goto (tgt := 64) hx hb dX7_countRows_78 (by decide +kernel) ?_
                                    refine lv_iload_n hx hb dX7_countRows_64 rfl (lv_at hl 0 rfl) ?_
                                    refine lv_bipush (v := 24) hx hb dX7_countRows_65 (by decide +kernel) ?_
                                    refine lv_icmp_ge (tgt := 81) hx hb dX7_countRows_67 (by decide +kernel) (fun c_37 => ?_) (fun c_37 => ?_)
                                    ·
                                      exact absurd c_37 (by decide +kernel)
                                    ·
                                      refine lv_aload_n hx hb dX7_countRows_70 rfl (lv_at hl 2 rfl) ?_
                                      refine lv_iload_n hx hb dX7_countRows_71 rfl (lv_at hl 0 rfl) ?_
                                      obtain ⟨hPc, hDc, hFc⟩ := g5_sub3 (wc := [(a_th, (oc7 a_h a_k a_ba a_ad e_fu a_cn a_nx a_hp a_hl a_lv)), (a_ba, (arJ G 24 f_ba)), (a_ad, (arI G 1536 f_ad)), (a_cn, (arJ G 2048 z36)), (a_nx, (arJ G 2048 z34))]) hP hD hS hA [0, 1, 2, 4, 3] (by decide +kernel) rfl
                                      refine va_callv (va_runV (As := [.int 17]) (rest := []) ⟨hx, hb, hml, hown, hts⟩ (th_step l G a_th a_ba a_ad a_cn a_nx a_h a_k a_hp a_hl a_lv H.size e_fu 17 f_ba f_ad z36 z34 ⟨by decide, by decide⟩ (e_tk)) (cwV 1 hts gV_X7_102 rfl rfl rfl hv_X7_stepTo ⟨Nat.le_of_ble_eq_true rfl, Nat.le_of_ble_eq_true rfl⟩) (g5_preV hPc hK hDc hN hT hS hFc (ci := 7) (q0 := 0) rfl rfl) rfl rfl hl.1 rfl (lv_room (Nat.le_of_ble_eq_true rfl)) dX7_countRows_72 ⟨Nat.le_of_ble_eq_true rfl, Nat.le_of_ble_eq_true rfl⟩) hS (fun q _ h => hFc q h) hFc (fun u t H locs ht hvm hw hB hz1 hk1 hS => ?_)
                                      obtain ⟨hP1, hD1⟩ := hB
                                      have hP1 := g5_ht ht hP1
                                      obtain ⟨z38, rfl⟩ := hw
                                      have hJ9 := va_join (wr := []) hP hD [0, 1, 2, 4, 3] [] rfl rfl (by decide +kernel) (by decide +kernel) hk1 hFc hP1 hD1
                                      clear hP hD hPc hDc hFc ht hvm hz1 hk1 hP1 hD1
                                      obtain ⟨hP, hD⟩ := hJ9
                                      refine g5_rs [(a_th, (oc7 a_h a_k a_ba a_ad e_fu a_nx a_cn a_hp a_hl a_lv)), (a_ba, (arJ G 24 f_ba)), (a_ad, (arI G 1536 f_ad)), (a_cn, (arJ G 2048 z36)), (a_nx, (arJ G 2048 z38))] hP hD ?_
                                      clear hP hD
                                      intro hP hD
                                      refine lv_iinc (v := 18) (lv' := [(2, .int 18), (1, .int (e_fu + 1)), (0, .ref a_th)]) hx hb dX7_countRows_75 hl (k := 0) rfl (by decide +kernel) (by decide +kernel) rfl ?_
                                      clear hl
                                      intro ls hl
                                      refine W.eq (g2 := F0 m 78 ls []) rfl ?_
                                      refine lv_goto (tgt := 64) hx hb dX7_countRows_78 (by decide +kernel) ?_
                                      refine lv_iload_n hx hb dX7_countRows_64 rfl (lv_at hl 0 rfl) ?_
                                      refine lv_bipush (v := 24) hx hb dX7_countRows_65 (by decide +kernel) ?_
                                      refine lv_icmp_ge (tgt := 81) hx hb dX7_countRows_67 (by decide +kernel) (fun c_39 => ?_) (fun c_39 => ?_)
                                      ·
                                        exact absurd c_39 (by decide +kernel)
                                      ·
                                        refine lv_aload_n hx hb dX7_countRows_70 rfl (lv_at hl 2 rfl) ?_
                                        refine lv_iload_n hx hb dX7_countRows_71 rfl (lv_at hl 0 rfl) ?_
                                        obtain ⟨hPc, hDc, hFc⟩ := g5_sub3 (wc := [(a_th, (oc7 a_h a_k a_ba a_ad e_fu a_nx a_cn a_hp a_hl a_lv)), (a_ba, (arJ G 24 f_ba)), (a_ad, (arI G 1536 f_ad)), (a_nx, (arJ G 2048 z38)), (a_cn, (arJ G 2048 z36))]) hP hD hS hA [0, 1, 2, 4, 3] (by decide +kernel) rfl
                                        refine va_callv (va_runV (As := [.int 18]) (rest := []) ⟨hx, hb, hml, hown, hts⟩ (th_step l G a_th a_ba a_ad a_nx a_cn a_h a_k a_hp a_hl a_lv H.size e_fu 18 f_ba f_ad z38 z36 ⟨by decide, by decide⟩ (e_tk)) (cwV 1 hts gV_X7_102 rfl rfl rfl hv_X7_stepTo ⟨Nat.le_of_ble_eq_true rfl, Nat.le_of_ble_eq_true rfl⟩) (g5_preV hPc hK hDc hN hT hS hFc (ci := 7) (q0 := 0) rfl rfl) rfl rfl hl.1 rfl (lv_room (Nat.le_of_ble_eq_true rfl)) dX7_countRows_72 ⟨Nat.le_of_ble_eq_true rfl, Nat.le_of_ble_eq_true rfl⟩) hS (fun q _ h => hFc q h) hFc (fun u t H locs ht hvm hw hB hz1 hk1 hS => ?_)
                                        obtain ⟨hP1, hD1⟩ := hB
                                        have hP1 := g5_ht ht hP1
                                        obtain ⟨z40, rfl⟩ := hw
                                        have hJ9 := va_join (wr := []) hP hD [0, 1, 2, 4, 3] [] rfl rfl (by decide +kernel) (by decide +kernel) hk1 hFc hP1 hD1
                                        clear hP hD hPc hDc hFc ht hvm hz1 hk1 hP1 hD1
                                        obtain ⟨hP, hD⟩ := hJ9
                                        refine g5_rs [(a_th, (oc7 a_h a_k a_ba a_ad e_fu a_cn a_nx a_hp a_hl a_lv)), (a_ba, (arJ G 24 f_ba)), (a_ad, (arI G 1536 f_ad)), (a_nx, (arJ G 2048 z38)), (a_cn, (arJ G 2048 z40))] hP hD ?_
                                        clear hP hD
                                        intro hP hD
                                        refine lv_iinc (v := 19) (lv' := [(2, .int 19), (1, .int (e_fu + 1)), (0, .ref a_th)]) hx hb dX7_countRows_75 hl (k := 0) rfl (by decide +kernel) (by decide +kernel) rfl ?_
                                        clear hl
                                        intro ls hl
                                        refine W.eq (g2 := F0 m 78 ls []) rfl ?_
                                        refine lv_goto (tgt := 64) hx hb dX7_countRows_78 (by decide +kernel) ?_
                                        refine lv_iload_n hx hb dX7_countRows_64 rfl (lv_at hl 0 rfl) ?_
                                        refine lv_bipush (v := 24) hx hb dX7_countRows_65 (by decide +kernel) ?_
                                        refine lv_icmp_ge (tgt := 81) hx hb dX7_countRows_67 (by decide +kernel) (fun c_41 => ?_) (fun c_41 => ?_)
                                        ·
                                          exact absurd c_41 (by decide +kernel)
                                        ·
                                          refine lv_aload_n hx hb dX7_countRows_70 rfl (lv_at hl 2 rfl) ?_
                                          refine lv_iload_n hx hb dX7_countRows_71 rfl (lv_at hl 0 rfl) ?_
                                          obtain ⟨hPc, hDc, hFc⟩ := g5_sub3 (wc := [(a_th, (oc7 a_h a_k a_ba a_ad e_fu a_cn a_nx a_hp a_hl a_lv)), (a_ba, (arJ G 24 f_ba)), (a_ad, (arI G 1536 f_ad)), (a_cn, (arJ G 2048 z40)), (a_nx, (arJ G 2048 z38))]) hP hD hS hA [0, 1, 2, 4, 3] (by decide +kernel) rfl
                                          refine va_callv (va_runV (As := [.int 19]) (rest := []) ⟨hx, hb, hml, hown, hts⟩ (th_step l G a_th a_ba a_ad a_cn a_nx a_h a_k a_hp a_hl a_lv H.size e_fu 19 f_ba f_ad z40 z38 ⟨by decide, by decide⟩ (e_tk)) (cwV 1 hts gV_X7_102 rfl rfl rfl hv_X7_stepTo ⟨Nat.le_of_ble_eq_true rfl, Nat.le_of_ble_eq_true rfl⟩) (g5_preV hPc hK hDc hN hT hS hFc (ci := 7) (q0 := 0) rfl rfl) rfl rfl hl.1 rfl (lv_room (Nat.le_of_ble_eq_true rfl)) dX7_countRows_72 ⟨Nat.le_of_ble_eq_true rfl, Nat.le_of_ble_eq_true rfl⟩) hS (fun q _ h => hFc q h) hFc (fun u t H locs ht hvm hw hB hz1 hk1 hS => ?_)
                                          obtain ⟨hP1, hD1⟩ := hB
                                          have hP1 := g5_ht ht hP1
                                          obtain ⟨z42, rfl⟩ := hw
                                          have hJ9 := va_join (wr := []) hP hD [0, 1, 2, 4, 3] [] rfl rfl (by decide +kernel) (by decide +kernel) hk1 hFc hP1 hD1
                                          clear hP hD hPc hDc hFc ht hvm hz1 hk1 hP1 hD1
                                          obtain ⟨hP, hD⟩ := hJ9
                                          refine g5_rs [(a_th, (oc7 a_h a_k a_ba a_ad e_fu a_nx a_cn a_hp a_hl a_lv)), (a_ba, (arJ G 24 f_ba)), (a_ad, (arI G 1536 f_ad)), (a_cn, (arJ G 2048 z40)), (a_nx, (arJ G 2048 z42))] hP hD ?_
                                          clear hP hD
                                          intro hP hD
                                          refine lv_iinc (v := 20) (lv' := [(2, .int 20), (1, .int (e_fu + 1)), (0, .ref a_th)]) hx hb dX7_countRows_75 hl (k := 0) rfl (by decide +kernel) (by decide +kernel) rfl ?_
                                          clear hl
                                          intro ls hl
                                          refine W.eq (g2 := F0 m 78 ls []) rfl ?_
                                          refine lv_goto (tgt := 64) hx hb dX7_countRows_78 (by decide +kernel) ?_
                                          refine lv_iload_n hx hb dX7_countRows_64 rfl (lv_at hl 0 rfl) ?_
                                          refine lv_bipush (v := 24) hx hb dX7_countRows_65 (by decide +kernel) ?_
                                          refine lv_icmp_ge (tgt := 81) hx hb dX7_countRows_67 (by decide +kernel) (fun c_43 => ?_) (fun c_43 => ?_)
                                          ·
                                            exact absurd c_43 (by decide +kernel)
                                          ·
                                            refine lv_aload_n hx hb dX7_countRows_70 rfl (lv_at hl 2 rfl) ?_
                                            refine lv_iload_n hx hb dX7_countRows_71 rfl (lv_at hl 0 rfl) ?_
                                            obtain ⟨hPc, hDc, hFc⟩ := g5_sub3 (wc := [(a_th, (oc7 a_h a_k a_ba a_ad e_fu a_nx a_cn a_hp a_hl a_lv)), (a_ba, (arJ G 24 f_ba)), (a_ad, (arI G 1536 f_ad)), (a_nx, (arJ G 2048 z42)), (a_cn, (arJ G 2048 z40))]) hP hD hS hA [0, 1, 2, 4, 3] (by decide +kernel) rfl
                                            refine va_callv (va_runV (As := [.int 20]) (rest := []) ⟨hx, hb, hml, hown, hts⟩ (th_step l G a_th a_ba a_ad a_nx a_cn a_h a_k a_hp a_hl a_lv H.size e_fu 20 f_ba f_ad z42 z40 ⟨by decide, by decide⟩ (e_tk)) (cwV 1 hts gV_X7_102 rfl rfl rfl hv_X7_stepTo ⟨Nat.le_of_ble_eq_true rfl, Nat.le_of_ble_eq_true rfl⟩) (g5_preV hPc hK hDc hN hT hS hFc (ci := 7) (q0 := 0) rfl rfl) rfl rfl hl.1 rfl (lv_room (Nat.le_of_ble_eq_true rfl)) dX7_countRows_72 ⟨Nat.le_of_ble_eq_true rfl, Nat.le_of_ble_eq_true rfl⟩) hS (fun q _ h => hFc q h) hFc (fun u t H locs ht hvm hw hB hz1 hk1 hS => ?_)
                                            obtain ⟨hP1, hD1⟩ := hB
                                            have hP1 := g5_ht ht hP1
                                            obtain ⟨z44, rfl⟩ := hw
                                            have hJ9 := va_join (wr := []) hP hD [0, 1, 2, 4, 3] [] rfl rfl (by decide +kernel) (by decide +kernel) hk1 hFc hP1 hD1
                                            clear hP hD hPc hDc hFc ht hvm hz1 hk1 hP1 hD1
                                            obtain ⟨hP, hD⟩ := hJ9
                                            refine g5_rs [(a_th, (oc7 a_h a_k a_ba a_ad e_fu a_cn a_nx a_hp a_hl a_lv)), (a_ba, (arJ G 24 f_ba)), (a_ad, (arI G 1536 f_ad)), (a_nx, (arJ G 2048 z42)), (a_cn, (arJ G 2048 z44))] hP hD ?_
                                            clear hP hD
                                            intro hP hD
                                            refine lv_iinc (v := 21) (lv' := [(2, .int 21), (1, .int (e_fu + 1)), (0, .ref a_th)]) hx hb dX7_countRows_75 hl (k := 0) rfl (by decide +kernel) (by decide +kernel) rfl ?_
                                            clear hl
                                            intro ls hl
                                            refine W.eq (g2 := F0 m 78 ls []) rfl ?_
                                            refine lv_goto (tgt := 64) hx hb dX7_countRows_78 (by decide +kernel) ?_
                                            refine lv_iload_n hx hb dX7_countRows_64 rfl (lv_at hl 0 rfl) ?_
                                            refine lv_bipush (v := 24) hx hb dX7_countRows_65 (by decide +kernel) ?_
                                            refine lv_icmp_ge (tgt := 81) hx hb dX7_countRows_67 (by decide +kernel) (fun c_45 => ?_) (fun c_45 => ?_)
                                            ·
                                              exact absurd c_45 (by decide +kernel)
                                            ·
                                              refine lv_aload_n hx hb dX7_countRows_70 rfl (lv_at hl 2 rfl) ?_
                                              refine lv_iload_n hx hb dX7_countRows_71 rfl (lv_at hl 0 rfl) ?_
                                              obtain ⟨hPc, hDc, hFc⟩ := g5_sub3 (wc := [(a_th, (oc7 a_h a_k a_ba a_ad e_fu a_cn a_nx a_hp a_hl a_lv)), (a_ba, (arJ G 24 f_ba)), (a_ad, (arI G 1536 f_ad)), (a_cn, (arJ G 2048 z44)), (a_nx, (arJ G 2048 z42))]) hP hD hS hA [0, 1, 2, 4, 3] (by decide +kernel) rfl
                                              refine va_callv (va_runV (As := [.int 21]) (rest := []) ⟨hx, hb, hml, hown, hts⟩ (th_step l G a_th a_ba a_ad a_cn a_nx a_h a_k a_hp a_hl a_lv H.size e_fu 21 f_ba f_ad z44 z42 ⟨by decide, by decide⟩ (e_tk)) (cwV 1 hts gV_X7_102 rfl rfl rfl hv_X7_stepTo ⟨Nat.le_of_ble_eq_true rfl, Nat.le_of_ble_eq_true rfl⟩) (g5_preV hPc hK hDc hN hT hS hFc (ci := 7) (q0 := 0) rfl rfl) rfl rfl hl.1 rfl (lv_room (Nat.le_of_ble_eq_true rfl)) dX7_countRows_72 ⟨Nat.le_of_ble_eq_true rfl, Nat.le_of_ble_eq_true rfl⟩) hS (fun q _ h => hFc q h) hFc (fun u t H locs ht hvm hw hB hz1 hk1 hS => ?_)
                                              obtain ⟨hP1, hD1⟩ := hB
                                              have hP1 := g5_ht ht hP1
                                              obtain ⟨z46, rfl⟩ := hw
                                              have hJ9 := va_join (wr := []) hP hD [0, 1, 2, 4, 3] [] rfl rfl (by decide +kernel) (by decide +kernel) hk1 hFc hP1 hD1
                                              clear hP hD hPc hDc hFc ht hvm hz1 hk1 hP1 hD1
                                              obtain ⟨hP, hD⟩ := hJ9
                                              refine g5_rs [(a_th, (oc7 a_h a_k a_ba a_ad e_fu a_nx a_cn a_hp a_hl a_lv)), (a_ba, (arJ G 24 f_ba)), (a_ad, (arI G 1536 f_ad)), (a_cn, (arJ G 2048 z44)), (a_nx, (arJ G 2048 z46))] hP hD ?_
                                              clear hP hD
                                              intro hP hD
                                              refine lv_iinc (v := 22) (lv' := [(2, .int 22), (1, .int (e_fu + 1)), (0, .ref a_th)]) hx hb dX7_countRows_75 hl (k := 0) rfl (by decide +kernel) (by decide +kernel) rfl ?_
                                              clear hl
                                              intro ls hl
                                              refine W.eq (g2 := F0 m 78 ls []) rfl ?_
                                              refine lv_goto (tgt := 64) hx hb dX7_countRows_78 (by decide +kernel) ?_
                                              refine lv_iload_n hx hb dX7_countRows_64 rfl (lv_at hl 0 rfl) ?_
                                              refine lv_bipush (v := 24) hx hb dX7_countRows_65 (by decide +kernel) ?_
                                              refine lv_icmp_ge (tgt := 81) hx hb dX7_countRows_67 (by decide +kernel) (fun c_47 => ?_) (fun c_47 => ?_)
                                              ·
                                                exact absurd c_47 (by decide +kernel)
                                              ·
                                                refine lv_aload_n hx hb dX7_countRows_70 rfl (lv_at hl 2 rfl) ?_
                                                refine lv_iload_n hx hb dX7_countRows_71 rfl (lv_at hl 0 rfl) ?_
                                                obtain ⟨hPc, hDc, hFc⟩ := g5_sub3 (wc := [(a_th, (oc7 a_h a_k a_ba a_ad e_fu a_nx a_cn a_hp a_hl a_lv)), (a_ba, (arJ G 24 f_ba)), (a_ad, (arI G 1536 f_ad)), (a_nx, (arJ G 2048 z46)), (a_cn, (arJ G 2048 z44))]) hP hD hS hA [0, 1, 2, 4, 3] (by decide +kernel) rfl
                                                refine va_callv (va_runV (As := [.int 22]) (rest := []) ⟨hx, hb, hml, hown, hts⟩ (th_step l G a_th a_ba a_ad a_nx a_cn a_h a_k a_hp a_hl a_lv H.size e_fu 22 f_ba f_ad z46 z44 ⟨by decide, by decide⟩ (e_tk)) (cwV 1 hts gV_X7_102 rfl rfl rfl hv_X7_stepTo ⟨Nat.le_of_ble_eq_true rfl, Nat.le_of_ble_eq_true rfl⟩) (g5_preV hPc hK hDc hN hT hS hFc (ci := 7) (q0 := 0) rfl rfl) rfl rfl hl.1 rfl (lv_room (Nat.le_of_ble_eq_true rfl)) dX7_countRows_72 ⟨Nat.le_of_ble_eq_true rfl, Nat.le_of_ble_eq_true rfl⟩) hS (fun q _ h => hFc q h) hFc (fun u t H locs ht hvm hw hB hz1 hk1 hS => ?_)
                                                obtain ⟨hP1, hD1⟩ := hB
                                                have hP1 := g5_ht ht hP1
                                                obtain ⟨z48, rfl⟩ := hw
                                                have hJ9 := va_join (wr := []) hP hD [0, 1, 2, 4, 3] [] rfl rfl (by decide +kernel) (by decide +kernel) hk1 hFc hP1 hD1
                                                clear hP hD hPc hDc hFc ht hvm hz1 hk1 hP1 hD1
                                                obtain ⟨hP, hD⟩ := hJ9
                                                refine g5_rs [(a_th, (oc7 a_h a_k a_ba a_ad e_fu a_cn a_nx a_hp a_hl a_lv)), (a_ba, (arJ G 24 f_ba)), (a_ad, (arI G 1536 f_ad)), (a_nx, (arJ G 2048 z46)), (a_cn, (arJ G 2048 z48))] hP hD ?_
                                                clear hP hD
                                                intro hP hD
                                                refine lv_iinc (v := 23) (lv' := [(2, .int 23), (1, .int (e_fu + 1)), (0, .ref a_th)]) hx hb dX7_countRows_75 hl (k := 0) rfl (by decide +kernel) (by decide +kernel) rfl ?_
                                                clear hl
                                                intro ls hl
                                                refine W.eq (g2 := F0 m 78 ls []) rfl ?_
                                                refine lv_goto (tgt := 64) hx hb dX7_countRows_78 (by decide +kernel) ?_
                                                refine lv_iload_n hx hb dX7_countRows_64 rfl (lv_at hl 0 rfl) ?_
                                                refine lv_bipush (v := 24) hx hb dX7_countRows_65 (by decide +kernel) ?_
                                                refine lv_icmp_ge (tgt := 81) hx hb dX7_countRows_67 (by decide +kernel) (fun c_49 => ?_) (fun c_49 => ?_)
                                                ·
                                                  exact absurd c_49 (by decide +kernel)
                                                ·
                                                  refine lv_aload_n hx hb dX7_countRows_70 rfl (lv_at hl 2 rfl) ?_
                                                  refine lv_iload_n hx hb dX7_countRows_71 rfl (lv_at hl 0 rfl) ?_
                                                  obtain ⟨hPc, hDc, hFc⟩ := g5_sub3 (wc := [(a_th, (oc7 a_h a_k a_ba a_ad e_fu a_cn a_nx a_hp a_hl a_lv)), (a_ba, (arJ G 24 f_ba)), (a_ad, (arI G 1536 f_ad)), (a_cn, (arJ G 2048 z48)), (a_nx, (arJ G 2048 z46))]) hP hD hS hA [0, 1, 2, 4, 3] (by decide +kernel) rfl
                                                  refine va_callv (va_runV (As := [.int 23]) (rest := []) ⟨hx, hb, hml, hown, hts⟩ (th_step l G a_th a_ba a_ad a_cn a_nx a_h a_k a_hp a_hl a_lv H.size e_fu 23 f_ba f_ad z48 z46 ⟨by decide, by decide⟩ (e_tk)) (cwV 1 hts gV_X7_102 rfl rfl rfl hv_X7_stepTo ⟨Nat.le_of_ble_eq_true rfl, Nat.le_of_ble_eq_true rfl⟩) (g5_preV hPc hK hDc hN hT hS hFc (ci := 7) (q0 := 0) rfl rfl) rfl rfl hl.1 rfl (lv_room (Nat.le_of_ble_eq_true rfl)) dX7_countRows_72 ⟨Nat.le_of_ble_eq_true rfl, Nat.le_of_ble_eq_true rfl⟩) hS (fun q _ h => hFc q h) hFc (fun u t H locs ht hvm hw hB hz1 hk1 hS => ?_)
                                                  obtain ⟨hP1, hD1⟩ := hB
                                                  have hP1 := g5_ht ht hP1
                                                  obtain ⟨z50, rfl⟩ := hw
                                                  have hJ9 := va_join (wr := []) hP hD [0, 1, 2, 4, 3] [] rfl rfl (by decide +kernel) (by decide +kernel) hk1 hFc hP1 hD1
                                                  clear hP hD hPc hDc hFc ht hvm hz1 hk1 hP1 hD1
                                                  obtain ⟨hP, hD⟩ := hJ9
                                                  refine g5_rs [(a_th, (oc7 a_h a_k a_ba a_ad e_fu a_nx a_cn a_hp a_hl a_lv)), (a_ba, (arJ G 24 f_ba)), (a_ad, (arI G 1536 f_ad)), (a_cn, (arJ G 2048 z48)), (a_nx, (arJ G 2048 z50))] hP hD ?_
                                                  clear hP hD
                                                  intro hP hD
                                                  refine lv_iinc (v := 24) (lv' := [(2, .int 24), (1, .int (e_fu + 1)), (0, .ref a_th)]) hx hb dX7_countRows_75 hl (k := 0) rfl (by decide +kernel) (by decide +kernel) rfl ?_
                                                  clear hl
                                                  intro ls hl
                                                  refine W.eq (g2 := F0 m 78 ls []) rfl ?_
                                                  refine lv_goto (tgt := 64) hx hb dX7_countRows_78 (by decide +kernel) ?_
                                                  refine lv_iload_n hx hb dX7_countRows_64 rfl (lv_at hl 0 rfl) ?_
                                                  refine lv_bipush (v := 24) hx hb dX7_countRows_65 (by decide +kernel) ?_
                                                  refine lv_icmp_ge (tgt := 81) hx hb dX7_countRows_67 (by decide +kernel) (fun c_51 => ?_) (fun c_51 => ?_)
                                                  ·
                                                    refine lv_lconst (v := 0) hx hb dX7_countRows_81 (by decide +kernel) ?_
                                                    refine lv_lstore_n (lv' := [(2, .long 0), (1, .int (e_fu + 1)), (0, .ref a_th)]) hx hb dX7_countRows_82 rfl hl (by decide +kernel) rfl ?_
                                                    clear hl
                                                    intro ls hl
                                                    refine lv_iconst (v := 0) hx hb dX7_countRows_83 (by decide +kernel) ?_
                                                    refine lv_istore (lv' := [(4, .int 0), (2, .long 0), (1, .int (e_fu + 1)), (0, .ref a_th)]) hx hb dX7_countRows_84 hl (by decide +kernel) rfl ?_
                                                    clear hl
                                                    intro ls hl
                                                    refine g5_loop (α := (Int32) × (Int64)) (fun (q : (Int32) × (Int64)) (ls : Array Slot) (H : Heap) (locs : List Loc) => match q with | (n_c, n_x) => lv_has ls 5 [(2, .long n_x), (4, .int n_c), (1, .int (e_fu + 1)), (0, .ref a_th)] ∧ va_P G.1 vwCl [(a_th, (oc7 a_h a_k a_ba a_ad e_fu a_nx a_cn a_hp a_hl a_lv)), (a_ba, (arJ G 24 f_ba)), (a_ad, (arI G 1536 f_ad)), (a_cn, (arJ G 2048 z48)), (a_nx, (arJ G 2048 z50))] H ∧ va_D A [(a_th, (oc7 a_h a_k a_ba a_ad e_fu a_nx a_cn a_hp a_hl a_lv)), (a_ba, (arJ G 24 f_ba)), (a_ad, (arI G 1536 f_ad)), (a_cn, (arJ G 2048 z48)), (a_nx, (arJ G 2048 z50))] ∧ va_S A s.heap H locs ∧ (0 ≤ n_c.toInt ∧ n_c.toInt ≤ 64)) (fun (q : (Int32) × (Int64)) => match q with | (n_c, n_x) => Int.toNat (64 - n_c.toInt)) (0, 0) ⟨lv_sub hl [1, 0, 2, 3] rfl, hP, hD, hS, ⟨by decide, by decide⟩⟩ ?_
                                                    rintro ⟨n_c, n_x⟩ ls H locs ⟨hl, hP, hD, hS, (i_52 : 0 ≤ n_c.toInt ∧ n_c.toInt ≤ 64)⟩ ih_86_53
                                                    replace hl : lv_has ls 5 [(2, .long n_x), (4, .int n_c), (1, .int (e_fu + 1)), (0, .ref a_th)] := hl
                                                    refine g5_rs [(a_th, (oc7 a_h a_k a_ba a_ad e_fu a_nx a_cn a_hp a_hl a_lv)), (a_ba, (arJ G 24 f_ba)), (a_ad, (arI G 1536 f_ad)), (a_cn, (arJ G 2048 z48)), (a_nx, (arJ G 2048 z50))] hP hD ?_
                                                    clear hP hD
                                                    intro hP hD
                                                    refine lv_iload hx hb dX7_countRows_86 (lv_at hl 1 rfl) ?_
                                                    refine lv_bipush (v := 64) hx hb dX7_countRows_88 (by decide +kernel) ?_
                                                    refine lv_icmp_ge (tgt := 116) hx hb dX7_countRows_90 (by decide +kernel) (fun c_54 => ?_) (fun c_54 => ?_)
                                                    ·
                                                      have i_54 : n_c.toInt ≥ 64 := g5_ge (a := n_c.toInt) (b := 64) rfl (by decide +kernel) c_54
                                                      refine lv_lload_n hx hb dX7_countRows_116 rfl (lv_at hl 0 rfl) ?_
                                                      exact W.lret (v := n_x) hx hb hr (fun t ht hW => ⟨⟨n_x, [(a_th, (oc7 a_h a_k a_ba a_ad e_fu a_nx a_cn a_hp a_hl a_lv)), (a_ba, (arJ G 24 f_ba)), (a_ad, (arI G 1536 f_ad)), (a_cn, (arJ G 2048 z48)), (a_nx, (arJ G 2048 z50))], rfl, ⟨n_x, z48, z50, rfl, rfl⟩, by rw [ht]; exact hP.sub [0, 1, 2, 3, 4] rfl, hD.sub [0, 1, 2, 3, 4] (by decide +kernel) rfl⟩, hS.F ht⟩) hS.2.2 dX7_countRows_117
                                                    ·
                                                      have i_54 : n_c.toInt < 64 := g5_geN (a := n_c.toInt) (b := 64) rfl (by decide +kernel) c_54
                                                      refine lv_lload_n hx hb dX7_countRows_93 rfl (lv_at hl 0 rfl) ?_
                                                      refine lv_aload_n hx hb dX7_countRows_94 rfl (lv_at hl 3 rfl) ?_
                                                      refine va_get (D := G.1) (ci := 7) (v := .ref a_nx) (C := RX7) (T := TX7) (N := 10) hx hb hts inG_X7 hown hK hP 0 rfl rfl 5 (by decide +kernel) (hts _ fl_X7_19) (fun _ h9 => h9) rfl dX7_countRows_95 ?_
                                                      refine lv_iload hx hb dX7_countRows_98 (lv_at hl 1 rfl) ?_
                                                      refine W.eq (g2 := F0 m 100 ls [.int n_c, .ref a_nx, .long n_x]) rfl ?_
                                                      refine lv_iload_n hx hb dX7_countRows_100 rfl (lv_at hl 2 rfl) ?_
                                                      refine lv_imul hx hb dX7_countRows_101 ?_
                                                      have hm_55 := g_mulc (c := n_c) (m := (e_fu + 1)) ⟨by omega, by omega⟩ ⟨by omega, by omega⟩
                                                      refine lv_aload_n hx hb dX7_countRows_102 rfl (lv_at hl 3 rfl) ?_
                                                      refine va_get (D := G.1) (ci := 7) (v := .int e_fu) (C := RX7) (T := TX7) (N := 10) hx hb hts inG_X7 hown hK hP 0 rfl rfl 4 (by decide +kernel) (hts _ fl_X7_89) (fun _ h9 => h9) rfl dX7_countRows_103 ?_
                                                      refine lv_iadd hx hb dX7_countRows_106 ?_
                                                      have t_56 : ((n_c * (e_fu + 1)) + e_fu).toInt = (n_c * (e_fu + 1)).toInt + e_fu.toInt := g5_iadd (a := (n_c * (e_fu + 1)).toInt) (b := e_fu.toInt) (by rfl) (by rfl) (by omega) (by omega)
                                                      refine W.eq (g2 := F0 m 107 ls [.int ((n_c * (e_fu + 1)) + e_fu), .ref a_nx, .long n_x]) rfl ?_
                                                      refine va_lald hx hb hK hP 4 1 rfl rfl (i := ((n_c * (e_fu + 1)) + e_fu)) (vp_in_iff.mpr ⟨by omega, by omega⟩) dX7_countRows_107 ?_
                                                      refine lv_ladd hx hb dX7_countRows_108 ?_
                                                      refine lv_lstore_n (lv' := [(2, .long (n_x + (z50 ((n_c * (e_fu + 1)) + e_fu).toNatClampNeg))), (4, .int n_c), (1, .int (e_fu + 1)), (0, .ref a_th)]) hx hb dX7_countRows_109 rfl hl (by decide +kernel) rfl ?_
                                                      clear hl
                                                      intro ls hl
                                                      refine lv_iinc (v := (n_c + 1)) (lv' := [(4, .int (n_c + 1)), (2, .long (n_x + (z50 ((n_c * (e_fu + 1)) + e_fu).toNatClampNeg))), (1, .int (e_fu + 1)), (0, .ref a_th)]) hx hb dX7_countRows_110 hl (k := 1) rfl rfl (by decide +kernel) rfl ?_
                                                      clear hl
                                                      intro ls hl
                                                      have t_57 : (n_c + 1).toInt = n_c.toInt + 1 := g5_iadd (a := n_c.toInt) (b := 1) rfl (by decide +kernel) (by omega) (by omega)
                                                      refine lv_goto (tgt := 86) hx hb dX7_countRows_113 (by decide +kernel) ?_
                                                      exact ih_86_53 ((n_c + 1), (n_x + (z50 ((n_c * (e_fu + 1)) + e_fu).toNatClampNeg))) ls H locs (show Int.toNat (64 - (n_c + 1).toInt) < Int.toNat (64 - n_c.toInt) from g_up (show n_c.toInt < (n_c + 1).toInt by omega) (show n_c.toInt < 64 by omega)) ⟨lv_sub hl [1, 0, 2, 3] rfl, hP, hD, hS, ⟨by omega, by omega⟩⟩
                                                  ·
                                                    exact absurd c_51 (by decide +kernel)
  ·
    have i_4 : k_c.toInt < 64 := g5_geN (a := k_c.toInt) (b := 64) rfl (by decide +kernel) c_4
    refine lv_aload_n hx hb dX7_countRows_23 rfl (lv_at hl 2 rfl) ?_
    refine va_get (D := G.1) (ci := 7) (v := .ref a_cn) (C := RX7) (T := TX7) (N := 10) hx hb hts inG_X7 hown hK hP 0 rfl rfl 5 (by decide +kernel) (hts _ fl_X7_19) (fun _ h9 => h9) rfl dX7_countRows_24 ?_
    refine lv_iload_n hx hb dX7_countRows_27 rfl (lv_at hl 0 rfl) ?_
    refine lv_iload_n hx hb dX7_countRows_28 rfl (lv_at hl 1 rfl) ?_
    refine W.eq (g2 := F0 m 29 ls [.int (e_fu + 1), .int k_c, .ref a_cn]) rfl ?_
    refine lv_imul hx hb dX7_countRows_29 ?_
    have hm_58 := g_mulc (c := k_c) (m := (e_fu + 1)) ⟨by omega, by omega⟩ ⟨by omega, by omega⟩
    refine lv_aload_n hx hb dX7_countRows_30 rfl (lv_at hl 2 rfl) ?_
    refine va_get (D := G.1) (ci := 7) (v := .ref a_ad) (C := RX7) (T := TX7) (N := 10) hx hb hts inG_X7 hown hK hP 0 rfl rfl 3 (by decide +kernel) (hts _ fl_X7_15) (fun _ h9 => h9) rfl dX7_countRows_31 ?_
    refine lv_iload_n hx hb dX7_countRows_34 rfl (lv_at hl 0 rfl) ?_
    refine va_iald hx hb hK hP 2 0 rfl rfl (i := k_c) (vp_in_iff.mpr ⟨by omega, by omega⟩) dX7_countRows_35 ?_
    have hp_59 : 0 ≤ (f_ad k_c.toNatClampNeg).toInt ∧ (f_ad k_c.toNatClampNeg).toInt ≤ e_fu.toInt := tk_ad e_tk (by have zz := g5_clamp k_c; omega)
    refine W.eq (g2 := F0 m 36 ls [.int (f_ad k_c.toNatClampNeg), .int (k_c * (e_fu + 1)), .ref a_cn]) rfl ?_
    refine lv_iadd hx hb dX7_countRows_36 ?_
    have t_60 : ((k_c * (e_fu + 1)) + (f_ad k_c.toNatClampNeg)).toInt = (k_c * (e_fu + 1)).toInt + (f_ad k_c.toNatClampNeg).toInt := g5_iadd (a := (k_c * (e_fu + 1)).toInt) (b := (f_ad k_c.toNatClampNeg).toInt) (by rfl) (by rfl) (by omega) (by omega)
    refine lv_aload_n hx hb dX7_countRows_37 rfl (lv_at hl 2 rfl) ?_
    refine va_get (D := G.1) (ci := 7) (v := .ref a_ba) (C := RX7) (T := TX7) (N := 10) hx hb hts inG_X7 hown hK hP 0 rfl rfl 2 (by decide +kernel) (hts _ fl_X7_9) (fun _ h9 => h9) rfl dX7_countRows_38 ?_
    refine lv_iconst (v := 0) hx hb dX7_countRows_41 (by decide +kernel) ?_
    refine va_lald hx hb hK hP 1 1 rfl rfl (i := 0) (by unfold vp_in; decide) dX7_countRows_42 ?_
    refine g5_tl (v := (f_ba 0)) rfl ?_
    refine W.eq (g2 := F0 m 43 ls [.long (f_ba 0), .int ((k_c * (e_fu + 1)) + (f_ad k_c.toNatClampNeg)), .ref a_cn]) rfl ?_
    refine lv_iload_n hx hb dX7_countRows_43 rfl (lv_at hl 0 rfl) ?_
    obtain ⟨hPc, hDc, hFc⟩ := g5_sub3 (wc := []) hP hD hS hA [] (by decide +kernel) rfl
    refine va_calli (va_runSN (As := [.long (f_ba 0), .int k_c]) (rest := [.int ((k_c * (e_fu + 1)) + (f_ad k_c.toNatClampNeg)), .ref a_cn]) ⟨hx, hb, hml, hown, hts⟩ (k_isOn l G H.size k_c (f_ba 0) ⟨by omega, by omega⟩) ⟨va_cnB 2 hts gW_X11_isOn rfl rfl rfl (hN.1 _ g5_nw_X7_98) (hts _ ini_X11) hs_X11_isOn ⟨Nat.le_of_ble_eq_true rfl, Nat.le_of_ble_eq_true rfl⟩, hts _ st_X11_isOn, trivial⟩ (g5_preS hPc hK hDc hN hT hS hFc) rfl rfl hl.1 rfl (lv_room (Nat.le_of_ble_eq_true rfl)) dX7_countRows_44 ⟨Nat.le_of_ble_eq_true rfl, Nat.le_of_ble_eq_true rfl⟩) hS (fun q _ h => hFc q h) hFc (fun r u t H locs ht hvm hw hB hz1 hk1 hS => ?_)
    obtain ⟨hP1, hD1⟩ := hB
    have hP1 := g5_ht ht hP1
    rcases hw with ⟨(i_61 : onB (f_ba 0) k_c.toInt = false), rfl, rfl⟩ | ⟨(i_62 : onB (f_ba 0) k_c.toInt = true), rfl, rfl⟩
    ·
      have hJ9 := g5_same hP hk1
      clear hP hPc hDc hFc ht hvm hz1 hk1 hP1 hD1
      have hP := hJ9
      clear hJ9
      refine lv_if_eq (tgt := 54) hx hb dX7_countRows_47 (by decide +kernel) (fun c_63 => ?_) (fun c_63 => ?_)
      ·
        refine lv_lconst (v := 1) hx hb dX7_countRows_54 (by decide +kernel) ?_
        refine va_last hx hb hK hP hD hS 4 1 rfl rfl (i := ((k_c * (e_fu + 1)) + (f_ad k_c.toNatClampNeg))) (x := 1) (vp_in_iff.mpr ⟨by omega, by omega⟩) dX7_countRows_55 ?_
        clear hP hD hS
        intro H locs hP hD hS
        refine g5_rs [(a_th, (oc7 a_h a_k a_ba a_ad e_fu a_cn a_nx a_hp a_hl a_lv)), (a_ba, (arJ G 24 f_ba)), (a_ad, (arI G 1536 f_ad)), (a_nx, (arJ G 2048 f_nx)), (a_cn, (arJ G 2048 (vp_updL k_f ((k_c * (e_fu + 1)) + (f_ad k_c.toNatClampNeg)).toNatClampNeg 1)))] hP hD ?_
        clear hP hD
        intro hP hD
        refine lv_iinc (v := (k_c + 1)) (lv' := [(2, .int (k_c + 1)), (1, .int (e_fu + 1)), (0, .ref a_th)]) hx hb dX7_countRows_56 hl (k := 0) rfl rfl (by decide +kernel) rfl ?_
        clear hl
        intro ls hl
        have t_64 : (k_c + 1).toInt = k_c.toInt + 1 := g5_iadd (a := k_c.toInt) (b := 1) rfl (by decide +kernel) (by omega) (by omega)
        refine lv_goto (tgt := 17) hx hb dX7_countRows_59 (by decide +kernel) ?_
        exact ih_17_3 ((k_c + 1), (vp_updL k_f ((k_c * (e_fu + 1)) + (f_ad k_c.toNatClampNeg)).toNatClampNeg 1)) ls H locs (show Int.toNat (64 - (k_c + 1).toInt) < Int.toNat (64 - k_c.toInt) from g_up (show k_c.toInt < (k_c + 1).toInt by omega) (show k_c.toInt < 64 by omega)) ⟨lv_sub hl [0, 1, 2] rfl, hP, hD, hS, ⟨by omega, by omega⟩⟩
      ·
        exact absurd c_63 (by decide +kernel)
    ·
      have hJ9 := g5_same hP hk1
      clear hP hPc hDc hFc ht hvm hz1 hk1 hP1 hD1
      have hP := hJ9
      clear hJ9
      refine lv_if_eq (tgt := 54) hx hb dX7_countRows_47 (by decide +kernel) (fun c_65 => ?_) (fun c_65 => ?_)
      ·
        exact absurd c_65 (by decide +kernel)
      ·
        refine lv_lconst (v := 0) hx hb dX7_countRows_50 (by decide +kernel) ?_
        refine lv_goto (tgt := 55) hx hb dX7_countRows_51 (by decide +kernel) ?_
        refine va_last hx hb hK hP hD hS 4 1 rfl rfl (i := ((k_c * (e_fu + 1)) + (f_ad k_c.toNatClampNeg))) (x := 0) (vp_in_iff.mpr ⟨by omega, by omega⟩) dX7_countRows_55 ?_
        clear hP hD hS
        intro H locs hP hD hS
        refine g5_rs [(a_th, (oc7 a_h a_k a_ba a_ad e_fu a_cn a_nx a_hp a_hl a_lv)), (a_ba, (arJ G 24 f_ba)), (a_ad, (arI G 1536 f_ad)), (a_nx, (arJ G 2048 f_nx)), (a_cn, (arJ G 2048 (vp_updL k_f ((k_c * (e_fu + 1)) + (f_ad k_c.toNatClampNeg)).toNatClampNeg 0)))] hP hD ?_
        clear hP hD
        intro hP hD
        refine lv_iinc (v := (k_c + 1)) (lv' := [(2, .int (k_c + 1)), (1, .int (e_fu + 1)), (0, .ref a_th)]) hx hb dX7_countRows_56 hl (k := 0) rfl rfl (by decide +kernel) rfl ?_
        clear hl
        intro ls hl
        have t_66 : (k_c + 1).toInt = k_c.toInt + 1 := g5_iadd (a := k_c.toInt) (b := 1) rfl (by decide +kernel) (by omega) (by omega)
        refine W.eq (g2 := F0 m 59 ls []) rfl ?_
        refine lv_goto (tgt := 17) hx hb dX7_countRows_59 (by decide +kernel) ?_
        exact ih_17_3 ((k_c + 1), (vp_updL k_f ((k_c * (e_fu + 1)) + (f_ad k_c.toNatClampNeg)).toNatClampNeg 0)) ls H locs (show Int.toNat (64 - (k_c + 1).toInt) < Int.toNat (64 - k_c.toInt) from g_up (show k_c.toInt < (k_c + 1).toInt by omega) (show k_c.toInt < 64 by omega)) ⟨lv_sub hl [0, 1, 2] rfl, hP, hD, hS, ⟨by omega, by omega⟩⟩
theorem dgX7_allSightings_0 : ∀ r ∈ ([(0, (.iconst 1, 1)), (1, (.aload_n 0, 1)), (2, (.getfield 34, 3)), (5, (.getfield 42, 3)), (8, (.getfield 48, 3)), (11, (.ishl, 1)), (12, (.iconst 1, 1)), (13, (.isub, 1)), (14, (.ireturn, 1))] : List (Nat × (Instr × Nat))), decode cX7_allSightings r.1 = .ok r.2 := by decide +kernel
theorem dX7_allSightings_0 : decode cX7_allSightings 0 = .ok (.iconst 1, 1) := dgX7_allSightings_0 (0, (.iconst 1, 1)) (List.mem_of_getElem? (i := 0) rfl)
theorem dX7_allSightings_1 : decode cX7_allSightings 1 = .ok (.aload_n 0, 1) := dgX7_allSightings_0 (1, (.aload_n 0, 1)) (List.mem_of_getElem? (i := 1) rfl)
theorem dX7_allSightings_2 : decode cX7_allSightings 2 = .ok (.getfield 34, 3) := dgX7_allSightings_0 (2, (.getfield 34, 3)) (List.mem_of_getElem? (i := 2) rfl)
theorem dX7_allSightings_5 : decode cX7_allSightings 5 = .ok (.getfield 42, 3) := dgX7_allSightings_0 (5, (.getfield 42, 3)) (List.mem_of_getElem? (i := 3) rfl)
theorem dX7_allSightings_8 : decode cX7_allSightings 8 = .ok (.getfield 48, 3) := dgX7_allSightings_0 (8, (.getfield 48, 3)) (List.mem_of_getElem? (i := 4) rfl)
theorem dX7_allSightings_11 : decode cX7_allSightings 11 = .ok (.ishl, 1) := dgX7_allSightings_0 (11, (.ishl, 1)) (List.mem_of_getElem? (i := 5) rfl)
theorem dX7_allSightings_12 : decode cX7_allSightings 12 = .ok (.iconst 1, 1) := dgX7_allSightings_0 (12, (.iconst 1, 1)) (List.mem_of_getElem? (i := 6) rfl)
theorem dX7_allSightings_13 : decode cX7_allSightings 13 = .ok (.isub, 1) := dgX7_allSightings_0 (13, (.isub, 1)) (List.mem_of_getElem? (i := 7) rfl)
theorem dX7_allSightings_14 : decode cX7_allSightings 14 = .ok (.ireturn, 1) := dgX7_allSightings_0 (14, (.ireturn, 1)) (List.mem_of_getElem? (i := 8) rfl)
set_option maxHeartbeats 4000000 in
set_option maxRecDepth 100000 in
theorem th_all (l : Launch) (G : g5_G) (a_th a_h a_s a_k a_ba a_ad a_cn a_nx a_hp a_hl a_lv a_l a_g a_b a_p a_w a_bb a_sn : Nat) (sz : Nat) (e_fu : Int32) (e_le : Int32) (e_st : Int32) (e_fo : Int32) (e_lc : Int32) (e_s : Int32) (e_wa : Int64) (e_gb : Int64) (h_e_s : 0 ≤ e_s.toInt ∧ e_s.toInt ≤ 10) : Met l yX7_allSightings (wsG yX7_allSightings cX7_allSightings 1 (some .int)) ({ frames := 0, cells := 0, slots := 0, locals := 0 }) (va_Pc [.ref a_th] (g5_P G [(a_th, (oc7 a_h a_k a_ba a_ad e_fu a_cn a_nx a_hp a_hl a_lv)), (a_h, (oc1 e_wa e_le e_st e_fo e_lc a_l a_g a_b a_s a_p a_w e_gb a_bb)), (a_s, (oc6 10 4 a_sn e_s))] sz)) (va_Qi (fun (r : Int32) (u : va_W) => (∃ (o_r : Int32), (r = o_r) ∧ (u = [(a_th, (oc7 a_h a_k a_ba a_ad e_fu a_cn a_nx a_hp a_hl a_lv)), (a_h, (oc1 e_wa e_le e_st e_fo e_lc a_l a_g a_b a_s a_p a_w e_gb a_bb)), (a_s, (oc6 10 4 a_sn e_s))]))) (g5_B G (va_A [(a_th, (oc7 a_h a_k a_ba a_ad e_fu a_cn a_nx a_hp a_hl a_lv)), (a_h, (oc1 e_wa e_le e_st e_fo e_lc a_l a_g a_b a_s a_p a_w e_gb a_bb)), (a_s, (oc6 10 4 a_sn e_s))] sz)) (va_A [(a_th, (oc7 a_h a_k a_ba a_ad e_fu a_cn a_nx a_hp a_hl a_lv)), (a_h, (oc1 e_wa e_le e_st e_fo e_lc a_l a_g a_b a_s a_p a_w e_gb a_bb)), (a_s, (oc6 10 4 a_sn e_s))] sz)) 0 0 (va_A [(a_th, (oc7 a_h a_k a_ba a_ad e_fu a_cn a_nx a_hp a_hl a_lv)), (a_h, (oc1 e_wa e_le e_st e_fo e_lc a_l a_g a_b a_s a_p a_w e_gb a_bb)), (a_s, (oc6 10 4 a_sn e_s))] sz) := by
  refine Met.ofW (cc := cX7_allSightings) (maxL := 1) (ret := (some .int)) (by decide) rfl ?_
  intro p e s m args below meth c s₁ B hml hv
  obtain ⟨rfl, hsz, hP, hK, hD0, hN, hT⟩ := hv
  have hx := B.exec
  have hb := B.bytes
  have hr := B.returns
  have hts : ∀ w ∈ tblG, w.before _ s = true := fun w h => atoms_spec (ws := (wsG yX7_allSightings cX7_allSightings 1 (some .int))) B.pre w (List.mem_cons_of_mem _ h)
  have hown : s.vm.findClass RX7 = some m.cls := findClass_of_methodNamed B.named
  have hlocks := B.notSynchronized
  subst hsz
  have hD := hD0.self (sz := s.heap.size)
  generalize hAe : va_A [(a_th, (oc7 a_h a_k a_ba a_ad e_fu a_cn a_nx a_hp a_hl a_lv)), (a_h, (oc1 e_wa e_le e_st e_fo e_lc a_l a_g a_b a_s a_p a_w e_gb a_bb)), (a_s, (oc6 10 4 a_sn e_s))] s.heap.size = A at hD hT ⊢
  have hA : ∀ q : Nat, s.heap.size ≤ q → A q := fun q h => by rw [← hAe]; exact Or.inr h
  have hS : va_S A s.heap s.heap [] := va_S.rf
  have hP : va_P G.1 vwCl [(a_th, (oc7 a_h a_k a_ba a_ad e_fu a_cn a_nx a_hp a_hl a_lv)), (a_h, (oc1 e_wa e_le e_st e_fo e_lc a_l a_g a_b a_s a_p a_w e_gb a_bb)), (a_s, (oc6 10 4 a_sn e_s))] s.heap := hP
  have hl := lv_entry ([.ref a_th]) (n := 1) (Nat.le_of_ble_eq_true rfl)
  rw [lg_entry_eq]
  generalize (lg_sl ([.ref a_th]) ++ List.replicate (1 - (lg_sl ([.ref a_th])).length) Slot.unset).toArray = ls at hl ⊢
  have hl : lv_has ls 1 [(0, .ref a_th)] := hl
  refine lv_iconst (v := 1) hx hb dX7_allSightings_0 (by decide) ?_
  refine lv_aload_n hx hb dX7_allSightings_1 rfl (lv_at hl 0 rfl) ?_
  refine va_get (D := G.1) (ci := 7) (v := .ref a_h) (C := RX7) (T := TX7) (N := 10) hx hb hts inG_X7 hown hK hP 0 rfl rfl 0 (by decide) (hts _ fl_X7_34) (fun _ h9 => h9) rfl dX7_allSightings_2 ?_
  refine va_get (D := G.1) (ci := 1) (v := .ref a_s) (C := RX1) (T := TX1) (N := 13) hx hb hts inG_X1 hown hK hP 1 rfl rfl 8 (by decide) (hts _ fl_X7_42) (fun _ h9 => h9) rfl dX7_allSightings_5 ?_
  refine W.eq (g2 := F0 m 8 ls [.ref a_s, .int 1]) rfl ?_
  refine va_get (D := G.1) (ci := 6) (v := .int e_s) (C := RX6) (T := TX6) (N := 4) hx hb hts inG_X6 hown hK hP 2 rfl rfl 3 (by decide) (hts _ fl_X7_48) (fun _ h9 => h9) rfl dX7_allSightings_8 ?_
  refine lv_ishl hx hb dX7_allSightings_11 ?_
  refine lv_iconst (v := 1) hx hb dX7_allSightings_12 (by decide) ?_
  refine lv_isub hx hb dX7_allSightings_13 ?_
  exact W.iret (v := ((1 <<< (e_s &&& 31)) - 1)) hx hb hr (fun t ht hW => ⟨⟨((1 <<< (e_s &&& 31)) - 1), [(a_th, (oc7 a_h a_k a_ba a_ad e_fu a_cn a_nx a_hp a_hl a_lv)), (a_h, (oc1 e_wa e_le e_st e_fo e_lc a_l a_g a_b a_s a_p a_w e_gb a_bb)), (a_s, (oc6 10 4 a_sn e_s))], rfl, ⟨((1 <<< (e_s &&& 31)) - 1), rfl, rfl⟩, by rw [ht]; exact hP.sub [0, 1, 2] rfl, hD.sub [0, 1, 2] (by decide) rfl⟩, hS.F ht⟩) hS.2.2 dX7_allSightings_14
theorem dgX7_findCore_0 : ∀ r ∈ ([(0, (.aload_n 0, 1)), (1, (.invokevirtual 134, 3)), (4, (.istore_n 1, 1)), (5, (.aload_n 0, 1)), (6, (.iload_n 1, 1)), (7, (.invokevirtual 138, 3)), (10, (.aload_n 0, 1)), (11, (.invokevirtual 117, 3)), (14, (.ifCond .eq 5, 3)), (17, (.iconst 0, 1)), (18, (.ireturn, 1)), (19, (.aload_n 0, 1)), (20, (.iconst 0, 1)), (21, (.invokevirtual 138, 3)), (24, (.aload_n 0, 1)), (25, (.invokevirtual 117, 3)), (28, (.ifCond .ne 5, 3)), (31, (.iconst (-1), 1)), (32, (.ireturn, 1)), (33, (.iconst 0, 1)), (34, (.istore_n 2, 1)), (35, (.iload_n 2, 1)), (36, (.aload_n 0, 1)), (37, (.getfield 34, 3)), (40, (.getfield 42, 3)), (43, (.getfield 48, 3)), (46, (.if_icmp .ge 35, 3)), (49, (.aload_n 0, 1)), (50, (.iload_n 1, 1)), (51, (.iconst 1, 1)), (52, (.iload_n 2, 1)), (53, (.ishl, 1)), (54, (.iconst (-1), 1)), (55, (.ixor, 1)), (56, (.iand, 1)), (57, (.invokevirtual 138, 3)), (60, (.aload_n 0, 1)), (61, (.invokevirtual 117, 3)), (64, (.ifCond .ne 11, 3)), (67, (.iload_n 1, 1))] : List (Nat × (Instr × Nat))), decode cX7_findCore r.1 = .ok r.2 := by decide +kernel
theorem dX7_findCore_0 : decode cX7_findCore 0 = .ok (.aload_n 0, 1) := dgX7_findCore_0 (0, (.aload_n 0, 1)) (List.mem_of_getElem? (i := 0) rfl)
theorem dX7_findCore_1 : decode cX7_findCore 1 = .ok (.invokevirtual 134, 3) := dgX7_findCore_0 (1, (.invokevirtual 134, 3)) (List.mem_of_getElem? (i := 1) rfl)
theorem dX7_findCore_4 : decode cX7_findCore 4 = .ok (.istore_n 1, 1) := dgX7_findCore_0 (4, (.istore_n 1, 1)) (List.mem_of_getElem? (i := 2) rfl)
theorem dX7_findCore_5 : decode cX7_findCore 5 = .ok (.aload_n 0, 1) := dgX7_findCore_0 (5, (.aload_n 0, 1)) (List.mem_of_getElem? (i := 3) rfl)
theorem dX7_findCore_6 : decode cX7_findCore 6 = .ok (.iload_n 1, 1) := dgX7_findCore_0 (6, (.iload_n 1, 1)) (List.mem_of_getElem? (i := 4) rfl)
theorem dX7_findCore_7 : decode cX7_findCore 7 = .ok (.invokevirtual 138, 3) := dgX7_findCore_0 (7, (.invokevirtual 138, 3)) (List.mem_of_getElem? (i := 5) rfl)
theorem dX7_findCore_10 : decode cX7_findCore 10 = .ok (.aload_n 0, 1) := dgX7_findCore_0 (10, (.aload_n 0, 1)) (List.mem_of_getElem? (i := 6) rfl)
theorem dX7_findCore_11 : decode cX7_findCore 11 = .ok (.invokevirtual 117, 3) := dgX7_findCore_0 (11, (.invokevirtual 117, 3)) (List.mem_of_getElem? (i := 7) rfl)
theorem dX7_findCore_14 : decode cX7_findCore 14 = .ok (.ifCond .eq 5, 3) := dgX7_findCore_0 (14, (.ifCond .eq 5, 3)) (List.mem_of_getElem? (i := 8) rfl)
theorem dX7_findCore_17 : decode cX7_findCore 17 = .ok (.iconst 0, 1) := dgX7_findCore_0 (17, (.iconst 0, 1)) (List.mem_of_getElem? (i := 9) rfl)
theorem dX7_findCore_18 : decode cX7_findCore 18 = .ok (.ireturn, 1) := dgX7_findCore_0 (18, (.ireturn, 1)) (List.mem_of_getElem? (i := 10) rfl)
theorem dX7_findCore_19 : decode cX7_findCore 19 = .ok (.aload_n 0, 1) := dgX7_findCore_0 (19, (.aload_n 0, 1)) (List.mem_of_getElem? (i := 11) rfl)
theorem dX7_findCore_20 : decode cX7_findCore 20 = .ok (.iconst 0, 1) := dgX7_findCore_0 (20, (.iconst 0, 1)) (List.mem_of_getElem? (i := 12) rfl)
theorem dX7_findCore_21 : decode cX7_findCore 21 = .ok (.invokevirtual 138, 3) := dgX7_findCore_0 (21, (.invokevirtual 138, 3)) (List.mem_of_getElem? (i := 13) rfl)
theorem dX7_findCore_24 : decode cX7_findCore 24 = .ok (.aload_n 0, 1) := dgX7_findCore_0 (24, (.aload_n 0, 1)) (List.mem_of_getElem? (i := 14) rfl)
theorem dX7_findCore_25 : decode cX7_findCore 25 = .ok (.invokevirtual 117, 3) := dgX7_findCore_0 (25, (.invokevirtual 117, 3)) (List.mem_of_getElem? (i := 15) rfl)
theorem dX7_findCore_28 : decode cX7_findCore 28 = .ok (.ifCond .ne 5, 3) := dgX7_findCore_0 (28, (.ifCond .ne 5, 3)) (List.mem_of_getElem? (i := 16) rfl)
theorem dX7_findCore_31 : decode cX7_findCore 31 = .ok (.iconst (-1), 1) := dgX7_findCore_0 (31, (.iconst (-1), 1)) (List.mem_of_getElem? (i := 17) rfl)
theorem dX7_findCore_32 : decode cX7_findCore 32 = .ok (.ireturn, 1) := dgX7_findCore_0 (32, (.ireturn, 1)) (List.mem_of_getElem? (i := 18) rfl)
theorem dX7_findCore_33 : decode cX7_findCore 33 = .ok (.iconst 0, 1) := dgX7_findCore_0 (33, (.iconst 0, 1)) (List.mem_of_getElem? (i := 19) rfl)
theorem dX7_findCore_34 : decode cX7_findCore 34 = .ok (.istore_n 2, 1) := dgX7_findCore_0 (34, (.istore_n 2, 1)) (List.mem_of_getElem? (i := 20) rfl)
theorem dX7_findCore_35 : decode cX7_findCore 35 = .ok (.iload_n 2, 1) := dgX7_findCore_0 (35, (.iload_n 2, 1)) (List.mem_of_getElem? (i := 21) rfl)
theorem dX7_findCore_36 : decode cX7_findCore 36 = .ok (.aload_n 0, 1) := dgX7_findCore_0 (36, (.aload_n 0, 1)) (List.mem_of_getElem? (i := 22) rfl)
theorem dX7_findCore_37 : decode cX7_findCore 37 = .ok (.getfield 34, 3) := dgX7_findCore_0 (37, (.getfield 34, 3)) (List.mem_of_getElem? (i := 23) rfl)
theorem dX7_findCore_40 : decode cX7_findCore 40 = .ok (.getfield 42, 3) := dgX7_findCore_0 (40, (.getfield 42, 3)) (List.mem_of_getElem? (i := 24) rfl)
theorem dX7_findCore_43 : decode cX7_findCore 43 = .ok (.getfield 48, 3) := dgX7_findCore_0 (43, (.getfield 48, 3)) (List.mem_of_getElem? (i := 25) rfl)
theorem dX7_findCore_46 : decode cX7_findCore 46 = .ok (.if_icmp .ge 35, 3) := dgX7_findCore_0 (46, (.if_icmp .ge 35, 3)) (List.mem_of_getElem? (i := 26) rfl)
theorem dX7_findCore_49 : decode cX7_findCore 49 = .ok (.aload_n 0, 1) := dgX7_findCore_0 (49, (.aload_n 0, 1)) (List.mem_of_getElem? (i := 27) rfl)
theorem dX7_findCore_50 : decode cX7_findCore 50 = .ok (.iload_n 1, 1) := dgX7_findCore_0 (50, (.iload_n 1, 1)) (List.mem_of_getElem? (i := 28) rfl)
theorem dX7_findCore_51 : decode cX7_findCore 51 = .ok (.iconst 1, 1) := dgX7_findCore_0 (51, (.iconst 1, 1)) (List.mem_of_getElem? (i := 29) rfl)
theorem dX7_findCore_52 : decode cX7_findCore 52 = .ok (.iload_n 2, 1) := dgX7_findCore_0 (52, (.iload_n 2, 1)) (List.mem_of_getElem? (i := 30) rfl)
theorem dX7_findCore_53 : decode cX7_findCore 53 = .ok (.ishl, 1) := dgX7_findCore_0 (53, (.ishl, 1)) (List.mem_of_getElem? (i := 31) rfl)
theorem dX7_findCore_54 : decode cX7_findCore 54 = .ok (.iconst (-1), 1) := dgX7_findCore_0 (54, (.iconst (-1), 1)) (List.mem_of_getElem? (i := 32) rfl)
theorem dX7_findCore_55 : decode cX7_findCore 55 = .ok (.ixor, 1) := dgX7_findCore_0 (55, (.ixor, 1)) (List.mem_of_getElem? (i := 33) rfl)
theorem dX7_findCore_56 : decode cX7_findCore 56 = .ok (.iand, 1) := dgX7_findCore_0 (56, (.iand, 1)) (List.mem_of_getElem? (i := 34) rfl)
theorem dX7_findCore_57 : decode cX7_findCore 57 = .ok (.invokevirtual 138, 3) := dgX7_findCore_0 (57, (.invokevirtual 138, 3)) (List.mem_of_getElem? (i := 35) rfl)
theorem dX7_findCore_60 : decode cX7_findCore 60 = .ok (.aload_n 0, 1) := dgX7_findCore_0 (60, (.aload_n 0, 1)) (List.mem_of_getElem? (i := 36) rfl)
theorem dX7_findCore_61 : decode cX7_findCore 61 = .ok (.invokevirtual 117, 3) := dgX7_findCore_0 (61, (.invokevirtual 117, 3)) (List.mem_of_getElem? (i := 37) rfl)
theorem dX7_findCore_64 : decode cX7_findCore 64 = .ok (.ifCond .ne 11, 3) := dgX7_findCore_0 (64, (.ifCond .ne 11, 3)) (List.mem_of_getElem? (i := 38) rfl)
theorem dX7_findCore_67 : decode cX7_findCore 67 = .ok (.iload_n 1, 1) := dgX7_findCore_0 (67, (.iload_n 1, 1)) (List.mem_of_getElem? (i := 39) rfl)
theorem dgX7_findCore_1 : ∀ r ∈ ([(68, (.iconst 1, 1)), (69, (.iload_n 2, 1)), (70, (.ishl, 1)), (71, (.iconst (-1), 1)), (72, (.ixor, 1)), (73, (.iand, 1)), (74, (.istore_n 1, 1)), (75, (.iinc 2 1, 3)), (78, (.goto (-43), 3)), (81, (.iload_n 1, 1)), (82, (.ireturn, 1))] : List (Nat × (Instr × Nat))), decode cX7_findCore r.1 = .ok r.2 := by decide +kernel
theorem dX7_findCore_68 : decode cX7_findCore 68 = .ok (.iconst 1, 1) := dgX7_findCore_1 (68, (.iconst 1, 1)) (List.mem_of_getElem? (i := 0) rfl)
theorem dX7_findCore_69 : decode cX7_findCore 69 = .ok (.iload_n 2, 1) := dgX7_findCore_1 (69, (.iload_n 2, 1)) (List.mem_of_getElem? (i := 1) rfl)
theorem dX7_findCore_70 : decode cX7_findCore 70 = .ok (.ishl, 1) := dgX7_findCore_1 (70, (.ishl, 1)) (List.mem_of_getElem? (i := 2) rfl)
theorem dX7_findCore_71 : decode cX7_findCore 71 = .ok (.iconst (-1), 1) := dgX7_findCore_1 (71, (.iconst (-1), 1)) (List.mem_of_getElem? (i := 3) rfl)
theorem dX7_findCore_72 : decode cX7_findCore 72 = .ok (.ixor, 1) := dgX7_findCore_1 (72, (.ixor, 1)) (List.mem_of_getElem? (i := 4) rfl)
theorem dX7_findCore_73 : decode cX7_findCore 73 = .ok (.iand, 1) := dgX7_findCore_1 (73, (.iand, 1)) (List.mem_of_getElem? (i := 5) rfl)
theorem dX7_findCore_74 : decode cX7_findCore 74 = .ok (.istore_n 1, 1) := dgX7_findCore_1 (74, (.istore_n 1, 1)) (List.mem_of_getElem? (i := 6) rfl)
theorem dX7_findCore_75 : decode cX7_findCore 75 = .ok (.iinc 2 1, 3) := dgX7_findCore_1 (75, (.iinc 2 1, 3)) (List.mem_of_getElem? (i := 7) rfl)
theorem dX7_findCore_78 : decode cX7_findCore 78 = .ok (.goto (-43), 3) := dgX7_findCore_1 (78, (.goto (-43), 3)) (List.mem_of_getElem? (i := 8) rfl)
theorem dX7_findCore_81 : decode cX7_findCore 81 = .ok (.iload_n 1, 1) := dgX7_findCore_1 (81, (.iload_n 1, 1)) (List.mem_of_getElem? (i := 9) rfl)
theorem dX7_findCore_82 : decode cX7_findCore 82 = .ok (.ireturn, 1) := dgX7_findCore_1 (82, (.ireturn, 1)) (List.mem_of_getElem? (i := 10) rfl)
theorem ml_X7_134 : Cond.methodLink RX7 134 yX7_allSightings ∈ tblG := tg 1038 (by decide +kernel) (by decide +kernel)
theorem im_X7_allSightings : Cond.instanceMethod yX7_allSightings ∈ tblG := tg 956 (by decide +kernel) (by decide +kernel)
theorem se_X7_allSightings : Cond.selects RX7 yX7_allSightings yX7_allSightings ∈ tblG := tg 957 (by decide +kernel) (by decide +kernel)
theorem cd_X7_allSightings : Cond.code yX7_allSightings cX7_allSightings 1 (some .int) ∈ tblG := tg 958 (by decide +kernel) (by decide +kernel)
theorem gW_X7_allSightings : GoodIn tblG (wsG yX7_allSightings cX7_allSightings 1 (some .int)) := tgi cd_X7_allSightings
theorem gV_X7_134 : GoodIn tblG (wsV RX7 134 RX7 yX7_allSightings (wsG yX7_allSightings cX7_allSightings 1 (some .int))) := tgV ml_X7_134 im_X7_allSightings se_X7_allSightings ini_X7 gW_X7_allSightings
theorem hv_X7_allSightings : yX7_allSightings.cls = RX7 ∧ yX7_allSightings.cls ≠ "java/lang/invoke/MethodHandle" ∧ yX7_allSightings.cls ≠ "java/lang/invoke/VarHandle" ∧ (parseMethodDescriptor yX7_allSightings.desc).map (fun d => d.parameters.length) = some 0 := by decide +kernel
theorem ml_X7_138 : Cond.methodLink RX7 138 yX7_load ∈ tblG := tg 1039 (by decide +kernel) (by decide +kernel)
theorem im_X7_load : Cond.instanceMethod yX7_load ∈ tblG := tg 960 (by decide +kernel) (by decide +kernel)
theorem se_X7_load : Cond.selects RX7 yX7_load yX7_load ∈ tblG := tg 961 (by decide +kernel) (by decide +kernel)
theorem cd_X7_load : Cond.code yX7_load cX7_load 5 none ∈ tblG := tg 962 (by decide +kernel) (by decide +kernel)
theorem gW_X7_load : GoodIn tblG (wsG yX7_load cX7_load 5 none) := tgi cd_X7_load
theorem gV_X7_138 : GoodIn tblG (wsV RX7 138 RX7 yX7_load (wsG yX7_load cX7_load 5 none)) := tgV ml_X7_138 im_X7_load se_X7_load ini_X7 gW_X7_load
theorem hv_X7_load : yX7_load.cls = RX7 ∧ yX7_load.cls ≠ "java/lang/invoke/MethodHandle" ∧ yX7_load.cls ≠ "java/lang/invoke/VarHandle" ∧ (parseMethodDescriptor yX7_load.desc).map (fun d => d.parameters.length) = some 1 := by decide +kernel
set_option maxHeartbeats 4000000 in
set_option maxRecDepth 100000 in
theorem th_coreN (l : Launch) (G : g5_G) (a_k a_h a_g a_gn a_b a_bn a_p a_pn a_s a_sn a_bb a_j a_as a_sk a_l a_pt a_th a_ba a_ad a_hp a_w a_cn a_nx a_hl a_lv : Nat) (sz : Nat) (e_le : Int32) (e_st : Int32) (e_fo : Int32) (e_lc : Int32) (e_g : Int32) (e_b : Int32) (e_p : Int32) (e_s : Int32) (e_ln : Int32) (e_se : Int32) (e_lh : Int32) (e_br : Int32) (e_we : Int32) (e_me : Int32) (e_ce : Int32) (e_wy : Int32) (e_ho : Int32) (e_ov : Int32) (e_fu : Int32) (e_wa : Int64) (e_gb : Int64) (f_g : Nat → Int32) (f_b : Nat → Int32) (f_p : Nat → Int32) (f_s : Nat → Int32) (f_bb : Nat → Int64) (f_as : Nat → Int32) (f_sk : Nat → Int64) (f_l : Nat → Option Nat) (f_pt : Nat → Int32) (f_ba : Nat → Int64) (f_ad : Nat → Int32) (f_hp : Nat → Int32) (h_e_g : 0 ≤ e_g.toInt ∧ e_g.toInt ≤ 6) (h_e_b : 0 ≤ e_b.toInt ∧ e_b.toInt ≤ 5) (h_e_p : 0 ≤ e_p.toInt ∧ e_p.toInt ≤ 8) (h_e_s : 0 ≤ e_s.toInt ∧ e_s.toInt ≤ 10) (h_e_ov : 0 ≤ e_ov.toInt ∧ e_ov.toInt ≤ 1) (e_gk : gOK f_g e_g.toInt) (e_pk : gOK f_p e_p.toInt) (e_gi : inT e_gb f_g e_g.toInt) (e_sh : ∀ r : Int, 0 ≤ r → r < e_s.toInt → 0 ≤ (tget f_s e_s.toInt 4 r (3 : Int32).toInt).toInt ∧ (tget f_s e_s.toInt 4 r (3 : Int32).toInt).toInt ≤ 1) (e_s5 : snS f_s e_s.toInt e_s.toInt.toNat ≤ 5) (e_f : e_fo.toInt < 0 ∨ e_lc.toInt ≤ e_fo.toInt) : Met l yX7_findCore (wsG yX7_findCore cX7_findCore 3 (some .int)) ({ frames := 15, cells := 0, slots := 0, locals := 580 }) (va_Pc [.ref a_th] (g5_P G [(a_k, (oc5 a_h a_j a_pt e_ln e_se e_lh e_br e_we e_me e_ce e_wy e_ho e_ov)), (a_h, (oc1 e_wa e_le e_st e_fo e_lc a_l a_g a_b a_s a_p a_w e_gb a_bb)), (a_g, (oc6 6 5 a_gn e_g)), (a_gn, (arI G 30 f_g)), (a_b, (oc6 5 24 a_bn e_b)), (a_bn, (arI G 120 f_b)), (a_p, (oc6 8 5 a_pn e_p)), (a_pn, (arI G 40 f_p)), (a_s, (oc6 10 4 a_sn e_s)), (a_sn, (arI G 40 f_s)), (a_bb, (arJ G 24 f_bb)), (a_j, (oc2 a_as a_sk)), (a_as, (arI G 8 f_as)), (a_sk, (arJ G 50 f_sk)), (a_l, (arW G 6 f_l)), (a_pt, (arI G 200 f_pt)), (a_th, (oc7 a_h a_k a_ba a_ad e_fu a_cn a_nx a_hp a_hl a_lv)), (a_ba, (arJ G 24 f_ba)), (a_ad, (arI G 1536 f_ad)), (a_hp, (arI G 1536 f_hp))] sz)) (va_Qi (fun (r : Int32) (u : va_W) => (∃ (o_r : Int32) (o_ln : Int32) (o_se : Int32) (o_lh : Int32) (o_br : Int32) (o_we : Int32) (o_me : Int32) (o_ce : Int32) (o_wy : Int32) (o_ho : Int32) (o_ov : Int32) (o_pt : Nat → Int32) (o_as : Nat → Int32) (o_sk : Nat → Int64) (o_fu : Int32) (o_ba : Nat → Int64) (o_ad : Nat → Int32) (o_hp : Nat → Int32), (0 ≤ o_ov.toInt ∧ o_ov.toInt ≤ 1) ∧ (TOK o_fu o_ad) ∧ (r = o_r) ∧ (u = [(a_k, (oc5 a_h a_j a_pt o_ln o_se o_lh o_br o_we o_me o_ce o_wy o_ho o_ov)), (a_h, (oc1 e_wa e_le e_st e_fo e_lc a_l a_g a_b a_s a_p a_w e_gb a_bb)), (a_g, (oc6 6 5 a_gn e_g)), (a_gn, (arI G 30 f_g)), (a_b, (oc6 5 24 a_bn e_b)), (a_bn, (arI G 120 f_b)), (a_p, (oc6 8 5 a_pn e_p)), (a_pn, (arI G 40 f_p)), (a_s, (oc6 10 4 a_sn e_s)), (a_sn, (arI G 40 f_s)), (a_bb, (arJ G 24 f_bb)), (a_j, (oc2 a_as a_sk)), (a_as, (arI G 8 o_as)), (a_sk, (arJ G 50 o_sk)), (a_l, (arW G 6 f_l)), (a_pt, (arI G 200 o_pt)), (a_th, (oc7 a_h a_k a_ba a_ad o_fu a_cn a_nx a_hp a_hl a_lv)), (a_ba, (arJ G 24 o_ba)), (a_ad, (arI G 1536 o_ad)), (a_hp, (arI G 1536 o_hp))]))) (g5_B G (va_A [(a_k, (oc5 a_h a_j a_pt e_ln e_se e_lh e_br e_we e_me e_ce e_wy e_ho e_ov)), (a_h, (oc1 e_wa e_le e_st e_fo e_lc a_l a_g a_b a_s a_p a_w e_gb a_bb)), (a_g, (oc6 6 5 a_gn e_g)), (a_gn, (arI G 30 f_g)), (a_b, (oc6 5 24 a_bn e_b)), (a_bn, (arI G 120 f_b)), (a_p, (oc6 8 5 a_pn e_p)), (a_pn, (arI G 40 f_p)), (a_s, (oc6 10 4 a_sn e_s)), (a_sn, (arI G 40 f_s)), (a_bb, (arJ G 24 f_bb)), (a_j, (oc2 a_as a_sk)), (a_as, (arI G 8 f_as)), (a_sk, (arJ G 50 f_sk)), (a_l, (arW G 6 f_l)), (a_pt, (arI G 200 f_pt)), (a_th, (oc7 a_h a_k a_ba a_ad e_fu a_cn a_nx a_hp a_hl a_lv)), (a_ba, (arJ G 24 f_ba)), (a_ad, (arI G 1536 f_ad)), (a_hp, (arI G 1536 f_hp))] sz)) (va_A [(a_k, (oc5 a_h a_j a_pt e_ln e_se e_lh e_br e_we e_me e_ce e_wy e_ho e_ov)), (a_h, (oc1 e_wa e_le e_st e_fo e_lc a_l a_g a_b a_s a_p a_w e_gb a_bb)), (a_g, (oc6 6 5 a_gn e_g)), (a_gn, (arI G 30 f_g)), (a_b, (oc6 5 24 a_bn e_b)), (a_bn, (arI G 120 f_b)), (a_p, (oc6 8 5 a_pn e_p)), (a_pn, (arI G 40 f_p)), (a_s, (oc6 10 4 a_sn e_s)), (a_sn, (arI G 40 f_s)), (a_bb, (arJ G 24 f_bb)), (a_j, (oc2 a_as a_sk)), (a_as, (arI G 8 f_as)), (a_sk, (arJ G 50 f_sk)), (a_l, (arW G 6 f_l)), (a_pt, (arI G 200 f_pt)), (a_th, (oc7 a_h a_k a_ba a_ad e_fu a_cn a_nx a_hp a_hl a_lv)), (a_ba, (arJ G 24 f_ba)), (a_ad, (arI G 1536 f_ad)), (a_hp, (arI G 1536 f_hp))] sz)) 0 0 (va_A [(a_k, (oc5 a_h a_j a_pt e_ln e_se e_lh e_br e_we e_me e_ce e_wy e_ho e_ov)), (a_h, (oc1 e_wa e_le e_st e_fo e_lc a_l a_g a_b a_s a_p a_w e_gb a_bb)), (a_g, (oc6 6 5 a_gn e_g)), (a_gn, (arI G 30 f_g)), (a_b, (oc6 5 24 a_bn e_b)), (a_bn, (arI G 120 f_b)), (a_p, (oc6 8 5 a_pn e_p)), (a_pn, (arI G 40 f_p)), (a_s, (oc6 10 4 a_sn e_s)), (a_sn, (arI G 40 f_s)), (a_bb, (arJ G 24 f_bb)), (a_j, (oc2 a_as a_sk)), (a_as, (arI G 8 f_as)), (a_sk, (arJ G 50 f_sk)), (a_l, (arW G 6 f_l)), (a_pt, (arI G 200 f_pt)), (a_th, (oc7 a_h a_k a_ba a_ad e_fu a_cn a_nx a_hp a_hl a_lv)), (a_ba, (arJ G 24 f_ba)), (a_ad, (arI G 1536 f_ad)), (a_hp, (arI G 1536 f_hp))] sz) := by
  refine Met.ofW (cc := cX7_findCore) (maxL := 3) (ret := (some .int)) (by decide +kernel) rfl ?_
  intro p e s m args below meth c s₁ B hml hv
  obtain ⟨rfl, hsz, hP, hK, hD0, hN, hT⟩ := hv
  have hx := B.exec
  have hb := B.bytes
  have hr := B.returns
  have hts : ∀ w ∈ tblG, w.before _ s = true := fun w h => atoms_spec (ws := (wsG yX7_findCore cX7_findCore 3 (some .int))) B.pre w (List.mem_cons_of_mem _ h)
  have hown : s.vm.findClass RX7 = some m.cls := findClass_of_methodNamed B.named
  have hlocks := B.notSynchronized
  subst hsz
  have hD := hD0.self (sz := s.heap.size)
  generalize hAe : va_A [(a_k, (oc5 a_h a_j a_pt e_ln e_se e_lh e_br e_we e_me e_ce e_wy e_ho e_ov)), (a_h, (oc1 e_wa e_le e_st e_fo e_lc a_l a_g a_b a_s a_p a_w e_gb a_bb)), (a_g, (oc6 6 5 a_gn e_g)), (a_gn, (arI G 30 f_g)), (a_b, (oc6 5 24 a_bn e_b)), (a_bn, (arI G 120 f_b)), (a_p, (oc6 8 5 a_pn e_p)), (a_pn, (arI G 40 f_p)), (a_s, (oc6 10 4 a_sn e_s)), (a_sn, (arI G 40 f_s)), (a_bb, (arJ G 24 f_bb)), (a_j, (oc2 a_as a_sk)), (a_as, (arI G 8 f_as)), (a_sk, (arJ G 50 f_sk)), (a_l, (arW G 6 f_l)), (a_pt, (arI G 200 f_pt)), (a_th, (oc7 a_h a_k a_ba a_ad e_fu a_cn a_nx a_hp a_hl a_lv)), (a_ba, (arJ G 24 f_ba)), (a_ad, (arI G 1536 f_ad)), (a_hp, (arI G 1536 f_hp))] s.heap.size = A at hD hT ⊢
  have hA : ∀ q : Nat, s.heap.size ≤ q → A q := fun q h => by rw [← hAe]; exact Or.inr h
  have hS : va_S A s.heap s.heap [] := va_S.rf
  replace hP : va_P G.1 vwCl [(a_k, (oc5 a_h a_j a_pt e_ln e_se e_lh e_br e_we e_me e_ce e_wy e_ho e_ov)), (a_h, (oc1 e_wa e_le e_st e_fo e_lc a_l a_g a_b a_s a_p a_w e_gb a_bb)), (a_g, (oc6 6 5 a_gn e_g)), (a_gn, (arI G 30 f_g)), (a_b, (oc6 5 24 a_bn e_b)), (a_bn, (arI G 120 f_b)), (a_p, (oc6 8 5 a_pn e_p)), (a_pn, (arI G 40 f_p)), (a_s, (oc6 10 4 a_sn e_s)), (a_sn, (arI G 40 f_s)), (a_bb, (arJ G 24 f_bb)), (a_j, (oc2 a_as a_sk)), (a_as, (arI G 8 f_as)), (a_sk, (arJ G 50 f_sk)), (a_l, (arW G 6 f_l)), (a_pt, (arI G 200 f_pt)), (a_th, (oc7 a_h a_k a_ba a_ad e_fu a_cn a_nx a_hp a_hl a_lv)), (a_ba, (arJ G 24 f_ba)), (a_ad, (arI G 1536 f_ad)), (a_hp, (arI G 1536 f_hp))] s.heap := hP
  have hl := lv_entry ([.ref a_th]) (n := 3) (Nat.le_of_ble_eq_true rfl)
  rw [lg_entry_eq]
  generalize (lg_sl ([.ref a_th]) ++ List.replicate (3 - (lg_sl ([.ref a_th])).length) Slot.unset).toArray = ls at hl ⊢
  replace hl : lv_has ls 3 [(0, .ref a_th)] := hl
  refine lv_aload_n hx hb dX7_findCore_0 rfl (lv_at hl 0 rfl) ?_
  obtain ⟨hPc, hDc, hFc⟩ := g5_sub3 (wc := [(a_th, (oc7 a_h a_k a_ba a_ad e_fu a_cn a_nx a_hp a_hl a_lv)), (a_h, (oc1 e_wa e_le e_st e_fo e_lc a_l a_g a_b a_s a_p a_w e_gb a_bb)), (a_s, (oc6 10 4 a_sn e_s))]) hP hD hS hA [16, 1, 8] (by decide +kernel) rfl
  refine va_calli (va_runV (As := []) (rest := []) ⟨hx, hb, hml, hown, hts⟩ (th_all l G a_th a_h a_s a_k a_ba a_ad a_cn a_nx a_hp a_hl a_lv a_l a_g a_b a_p a_w a_bb a_sn s.heap.size e_fu e_le e_st e_fo e_lc e_s e_wa e_gb h_e_s) (cwV 0 hts gV_X7_134 rfl rfl rfl hv_X7_allSightings ⟨Nat.le_of_ble_eq_true rfl, Nat.le_of_ble_eq_true rfl⟩) (g5_preV hPc hK hDc hN hT hS hFc (ci := 7) (q0 := 0) rfl rfl) rfl rfl hl.1 rfl (lv_room (Nat.le_of_ble_eq_true rfl)) dX7_findCore_1 ⟨Nat.le_of_ble_eq_true rfl, Nat.le_of_ble_eq_true rfl⟩) hS (fun q _ h => hFc q h) hFc (fun r u t H locs ht hvm hw hB hz1 hk1 hS => ?_)
  obtain ⟨hP1, hD1⟩ := hB
  have hP1 := g5_ht ht hP1
  obtain ⟨z1, y2, rfl⟩ := hw
  have hJ9 := va_join (wr := [(a_k, (oc5 a_h a_j a_pt e_ln e_se e_lh e_br e_we e_me e_ce e_wy e_ho e_ov)), (a_g, (oc6 6 5 a_gn e_g)), (a_gn, (arI G 30 f_g)), (a_b, (oc6 5 24 a_bn e_b)), (a_bn, (arI G 120 f_b)), (a_p, (oc6 8 5 a_pn e_p)), (a_pn, (arI G 40 f_p)), (a_sn, (arI G 40 f_s)), (a_bb, (arJ G 24 f_bb)), (a_j, (oc2 a_as a_sk)), (a_as, (arI G 8 f_as)), (a_sk, (arJ G 50 f_sk)), (a_l, (arW G 6 f_l)), (a_pt, (arI G 200 f_pt)), (a_ba, (arJ G 24 f_ba)), (a_ad, (arI G 1536 f_ad)), (a_hp, (arI G 1536 f_hp))]) hP hD [16, 1, 8] [0, 2, 3, 4, 5, 6, 7, 9, 10, 11, 12, 13, 14, 15, 17, 18, 19] rfl rfl (by decide +kernel) (by decide +kernel) hk1 hFc hP1 hD1
  clear hP hD hPc hDc hFc ht hvm hz1 hk1 hP1 hD1
  obtain ⟨hP, hD⟩ := hJ9
  refine g5_rs [(a_k, (oc5 a_h a_j a_pt e_ln e_se e_lh e_br e_we e_me e_ce e_wy e_ho e_ov)), (a_g, (oc6 6 5 a_gn e_g)), (a_gn, (arI G 30 f_g)), (a_b, (oc6 5 24 a_bn e_b)), (a_bn, (arI G 120 f_b)), (a_p, (oc6 8 5 a_pn e_p)), (a_pn, (arI G 40 f_p)), (a_sn, (arI G 40 f_s)), (a_bb, (arJ G 24 f_bb)), (a_j, (oc2 a_as a_sk)), (a_as, (arI G 8 f_as)), (a_sk, (arJ G 50 f_sk)), (a_l, (arW G 6 f_l)), (a_pt, (arI G 200 f_pt)), (a_ba, (arJ G 24 f_ba)), (a_ad, (arI G 1536 f_ad)), (a_hp, (arI G 1536 f_hp)), (a_th, (oc7 a_h a_k a_ba a_ad e_fu a_cn a_nx a_hp a_hl a_lv)), (a_h, (oc1 e_wa e_le e_st e_fo e_lc a_l a_g a_b a_s a_p a_w e_gb a_bb)), (a_s, (oc6 10 4 a_sn e_s))] hP hD ?_
  clear hP hD
  intro hP hD
  refine g5_ti (v := z1) y2 ?_
  refine lv_istore_n (lv' := [(1, .int z1), (0, .ref a_th)]) hx hb dX7_findCore_4 rfl hl (by decide +kernel) rfl ?_
  clear hl
  intro ls hl
  refine lv_aload_n hx hb dX7_findCore_5 rfl (lv_at hl 1 rfl) ?_
  refine W.eq (g2 := F0 m 6 ls [.ref a_th]) rfl ?_
  refine lv_iload_n hx hb dX7_findCore_6 rfl (lv_at hl 0 rfl) ?_
  obtain ⟨hPc, hDc, hFc⟩ := g5_sub3 (wc := [(a_k, (oc5 a_h a_j a_pt e_ln e_se e_lh e_br e_we e_me e_ce e_wy e_ho e_ov)), (a_h, (oc1 e_wa e_le e_st e_fo e_lc a_l a_g a_b a_s a_p a_w e_gb a_bb)), (a_g, (oc6 6 5 a_gn e_g)), (a_gn, (arI G 30 f_g)), (a_b, (oc6 5 24 a_bn e_b)), (a_bn, (arI G 120 f_b)), (a_p, (oc6 8 5 a_pn e_p)), (a_pn, (arI G 40 f_p)), (a_s, (oc6 10 4 a_sn e_s)), (a_sn, (arI G 40 f_s)), (a_bb, (arJ G 24 f_bb)), (a_j, (oc2 a_as a_sk)), (a_as, (arI G 8 f_as)), (a_sk, (arJ G 50 f_sk)), (a_l, (arW G 6 f_l)), (a_pt, (arI G 200 f_pt)), (a_th, (oc7 a_h a_k a_ba a_ad e_fu a_cn a_nx a_hp a_hl a_lv)), (a_ba, (arJ G 24 f_ba)), (a_ad, (arI G 1536 f_ad))]) hP hD hS hA [0, 18, 1, 2, 3, 4, 5, 6, 19, 7, 8, 9, 10, 11, 12, 13, 17, 14, 15] (by decide +kernel) rfl
  refine va_callv (va_runV (As := [.int z1]) (rest := []) ⟨hx, hb, hml, hown, hts⟩ (th_loadN l G a_k a_h a_g a_gn a_b a_bn a_p a_pn a_s a_sn a_bb a_j a_as a_sk a_l a_pt a_th a_ba a_ad a_w a_cn a_nx a_hp a_hl a_lv H.size e_le e_st e_fo e_lc e_g e_b e_p e_s e_ln e_se e_lh e_br e_we e_me e_ce e_wy e_ho e_ov e_fu z1 e_wa e_gb f_g f_b f_p f_s f_bb f_as f_sk f_l f_pt f_ba f_ad h_e_g h_e_b h_e_p h_e_s h_e_ov (e_gk) (e_pk) (e_gi) (e_sh) (e_s5) (e_f)) (cwV 1 hts gV_X7_138 rfl rfl rfl hv_X7_load ⟨Nat.le_of_ble_eq_true rfl, Nat.le_of_ble_eq_true rfl⟩) (g5_preV hPc hK hDc hN hT hS hFc (ci := 7) (q0 := 16) rfl rfl) rfl rfl hl.1 rfl (lv_room (Nat.le_of_ble_eq_true rfl)) dX7_findCore_7 ⟨Nat.le_of_ble_eq_true rfl, Nat.le_of_ble_eq_true rfl⟩) hS (fun q _ h => hFc q h) hFc (fun u t H locs ht hvm hw hB hz1 hk1 hS => ?_)
  obtain ⟨hP1, hD1⟩ := hB
  have hP1 := g5_ht ht hP1
  obtain ⟨z5, z6, z7, z8, z9, z10, z11, z12, z13, z14, z15, z16, z17, z18, z19, z20, (i_3 : 0 ≤ z14.toInt ∧ z14.toInt ≤ 1), (i_4 : TOK z18 z20), rfl⟩ := hw
  have hJ9 := va_join (wr := [(a_hp, (arI G 1536 f_hp))]) hP hD [0, 18, 1, 2, 3, 4, 5, 6, 19, 7, 8, 9, 10, 11, 12, 13, 17, 14, 15] [16] rfl rfl (by decide +kernel) (by decide +kernel) hk1 hFc hP1 hD1
  clear hP hD hPc hDc hFc ht hvm hz1 hk1 hP1 hD1
  obtain ⟨hP, hD⟩ := hJ9
  refine g5_rs [(a_hp, (arI G 1536 f_hp)), (a_k, (oc5 a_h a_j a_pt z5 z6 z7 z8 z9 z10 z11 z12 z13 z14)), (a_h, (oc1 e_wa e_le e_st e_fo e_lc a_l a_g a_b a_s a_p a_w e_gb a_bb)), (a_g, (oc6 6 5 a_gn e_g)), (a_gn, (arI G 30 f_g)), (a_b, (oc6 5 24 a_bn e_b)), (a_bn, (arI G 120 f_b)), (a_p, (oc6 8 5 a_pn e_p)), (a_pn, (arI G 40 f_p)), (a_s, (oc6 10 4 a_sn e_s)), (a_sn, (arI G 40 f_s)), (a_bb, (arJ G 24 f_bb)), (a_j, (oc2 a_as a_sk)), (a_as, (arI G 8 z16)), (a_sk, (arJ G 50 z17)), (a_l, (arW G 6 f_l)), (a_pt, (arI G 200 z15)), (a_th, (oc7 a_h a_k a_ba a_ad z18 a_cn a_nx a_hp a_hl a_lv)), (a_ba, (arJ G 24 z19)), (a_ad, (arI G 1536 z20))] hP hD ?_
  clear hP hD
  intro hP hD
  refine lv_aload_n hx hb dX7_findCore_10 rfl (lv_at hl 1 rfl) ?_
  obtain ⟨hPc, hDc, hFc⟩ := g5_sub3 (wc := [(a_th, (oc7 a_h a_k a_ba a_ad z18 a_cn a_nx a_hp a_hl a_lv)), (a_ba, (arJ G 24 z19)), (a_ad, (arI G 1536 z20)), (a_hp, (arI G 1536 f_hp))]) hP hD hS hA [17, 18, 19, 0] (by decide +kernel) rfl
  refine va_calli (va_runV (As := []) (rest := []) ⟨hx, hb, hml, hown, hts⟩ (th_anyFits l G a_th a_ba a_ad a_hp a_h a_k a_cn a_nx a_hl a_lv H.size z18 z19 z20 f_hp) (cwV 0 hts gV_X7_117 rfl rfl rfl hv_X7_anyFits ⟨Nat.le_of_ble_eq_true rfl, Nat.le_of_ble_eq_true rfl⟩) (g5_preV hPc hK hDc hN hT hS hFc (ci := 7) (q0 := 0) rfl rfl) rfl rfl hl.1 rfl (lv_room (Nat.le_of_ble_eq_true rfl)) dX7_findCore_11 ⟨Nat.le_of_ble_eq_true rfl, Nat.le_of_ble_eq_true rfl⟩) hS (fun q _ h => hFc q h) hFc (fun r u t H locs ht hvm hw hB hz1 hk1 hS => ?_)
  obtain ⟨hP1, hD1⟩ := hB
  have hP1 := g5_ht ht hP1
  obtain ⟨z22, z23, (i_21 : 0 ≤ z22.toInt ∧ z22.toInt ≤ 1), y24, rfl⟩ := hw
  have hJ9 := va_join (wr := [(a_k, (oc5 a_h a_j a_pt z5 z6 z7 z8 z9 z10 z11 z12 z13 z14)), (a_h, (oc1 e_wa e_le e_st e_fo e_lc a_l a_g a_b a_s a_p a_w e_gb a_bb)), (a_g, (oc6 6 5 a_gn e_g)), (a_gn, (arI G 30 f_g)), (a_b, (oc6 5 24 a_bn e_b)), (a_bn, (arI G 120 f_b)), (a_p, (oc6 8 5 a_pn e_p)), (a_pn, (arI G 40 f_p)), (a_s, (oc6 10 4 a_sn e_s)), (a_sn, (arI G 40 f_s)), (a_bb, (arJ G 24 f_bb)), (a_j, (oc2 a_as a_sk)), (a_as, (arI G 8 z16)), (a_sk, (arJ G 50 z17)), (a_l, (arW G 6 f_l)), (a_pt, (arI G 200 z15))]) hP hD [17, 18, 19, 0] [1, 2, 3, 4, 5, 6, 7, 8, 9, 10, 11, 12, 13, 14, 15, 16] rfl rfl (by decide +kernel) (by decide +kernel) hk1 hFc hP1 hD1
  clear hP hD hPc hDc hFc ht hvm hz1 hk1 hP1 hD1
  obtain ⟨hP, hD⟩ := hJ9
  refine g5_rs [(a_k, (oc5 a_h a_j a_pt z5 z6 z7 z8 z9 z10 z11 z12 z13 z14)), (a_h, (oc1 e_wa e_le e_st e_fo e_lc a_l a_g a_b a_s a_p a_w e_gb a_bb)), (a_g, (oc6 6 5 a_gn e_g)), (a_gn, (arI G 30 f_g)), (a_b, (oc6 5 24 a_bn e_b)), (a_bn, (arI G 120 f_b)), (a_p, (oc6 8 5 a_pn e_p)), (a_pn, (arI G 40 f_p)), (a_s, (oc6 10 4 a_sn e_s)), (a_sn, (arI G 40 f_s)), (a_bb, (arJ G 24 f_bb)), (a_j, (oc2 a_as a_sk)), (a_as, (arI G 8 z16)), (a_sk, (arJ G 50 z17)), (a_l, (arW G 6 f_l)), (a_pt, (arI G 200 z15)), (a_th, (oc7 a_h a_k a_ba a_ad z18 a_cn a_nx a_hp a_hl a_lv)), (a_ba, (arJ G 24 z19)), (a_ad, (arI G 1536 z20)), (a_hp, (arI G 1536 z23))] hP hD ?_
  clear hP hD
  intro hP hD
  refine g5_ti (v := z22) y24 ?_
  refine lv_if_eq (tgt := 19) hx hb dX7_findCore_14 (by decide +kernel) (fun c_25 => ?_) (fun c_25 => ?_)
  ·
    have i_25 : z22.toInt = 0 := g5_eq (a := z22.toInt) (b := 0) rfl (by decide +kernel) c_25
    refine lv_aload_n hx hb dX7_findCore_19 rfl (lv_at hl 1 rfl) ?_
    refine lv_iconst (v := 0) hx hb dX7_findCore_20 (by decide +kernel) ?_
    obtain ⟨hPc, hDc, hFc⟩ := g5_sub3 (wc := [(a_k, (oc5 a_h a_j a_pt z5 z6 z7 z8 z9 z10 z11 z12 z13 z14)), (a_h, (oc1 e_wa e_le e_st e_fo e_lc a_l a_g a_b a_s a_p a_w e_gb a_bb)), (a_g, (oc6 6 5 a_gn e_g)), (a_gn, (arI G 30 f_g)), (a_b, (oc6 5 24 a_bn e_b)), (a_bn, (arI G 120 f_b)), (a_p, (oc6 8 5 a_pn e_p)), (a_pn, (arI G 40 f_p)), (a_s, (oc6 10 4 a_sn e_s)), (a_sn, (arI G 40 f_s)), (a_bb, (arJ G 24 f_bb)), (a_j, (oc2 a_as a_sk)), (a_as, (arI G 8 z16)), (a_sk, (arJ G 50 z17)), (a_l, (arW G 6 f_l)), (a_pt, (arI G 200 z15)), (a_th, (oc7 a_h a_k a_ba a_ad z18 a_cn a_nx a_hp a_hl a_lv)), (a_ba, (arJ G 24 z19)), (a_ad, (arI G 1536 z20))]) hP hD hS hA [0, 1, 2, 3, 4, 5, 6, 7, 8, 9, 10, 11, 12, 13, 14, 15, 16, 17, 18] (by decide +kernel) rfl
    refine va_callv (va_runV (As := [.int 0]) (rest := []) ⟨hx, hb, hml, hown, hts⟩ (th_loadN l G a_k a_h a_g a_gn a_b a_bn a_p a_pn a_s a_sn a_bb a_j a_as a_sk a_l a_pt a_th a_ba a_ad a_w a_cn a_nx a_hp a_hl a_lv H.size e_le e_st e_fo e_lc e_g e_b e_p e_s z5 z6 z7 z8 z9 z10 z11 z12 z13 z14 z18 0 e_wa e_gb f_g f_b f_p f_s f_bb z16 z17 f_l z15 z19 z20 h_e_g h_e_b h_e_p h_e_s i_3 (e_gk) (e_pk) (e_gi) (e_sh) (e_s5) (e_f)) (cwV 1 hts gV_X7_138 rfl rfl rfl hv_X7_load ⟨Nat.le_of_ble_eq_true rfl, Nat.le_of_ble_eq_true rfl⟩) (g5_preV hPc hK hDc hN hT hS hFc (ci := 7) (q0 := 16) rfl rfl) rfl rfl hl.1 rfl (lv_room (Nat.le_of_ble_eq_true rfl)) dX7_findCore_21 ⟨Nat.le_of_ble_eq_true rfl, Nat.le_of_ble_eq_true rfl⟩) hS (fun q _ h => hFc q h) hFc (fun u t H locs ht hvm hw hB hz1 hk1 hS => ?_)
    obtain ⟨hP1, hD1⟩ := hB
    have hP1 := g5_ht ht hP1
    obtain ⟨z28, z29, z30, z31, z32, z33, z34, z35, z36, z37, z38, z39, z40, z41, z42, z43, (i_26 : 0 ≤ z37.toInt ∧ z37.toInt ≤ 1), (i_27 : TOK z41 z43), rfl⟩ := hw
    have hJ9 := va_join (wr := [(a_hp, (arI G 1536 z23))]) hP hD [0, 1, 2, 3, 4, 5, 6, 7, 8, 9, 10, 11, 12, 13, 14, 15, 16, 17, 18] [19] rfl rfl (by decide +kernel) (by decide +kernel) hk1 hFc hP1 hD1
    clear hP hD hPc hDc hFc ht hvm hz1 hk1 hP1 hD1
    obtain ⟨hP, hD⟩ := hJ9
    refine g5_rs [(a_hp, (arI G 1536 z23)), (a_k, (oc5 a_h a_j a_pt z28 z29 z30 z31 z32 z33 z34 z35 z36 z37)), (a_h, (oc1 e_wa e_le e_st e_fo e_lc a_l a_g a_b a_s a_p a_w e_gb a_bb)), (a_g, (oc6 6 5 a_gn e_g)), (a_gn, (arI G 30 f_g)), (a_b, (oc6 5 24 a_bn e_b)), (a_bn, (arI G 120 f_b)), (a_p, (oc6 8 5 a_pn e_p)), (a_pn, (arI G 40 f_p)), (a_s, (oc6 10 4 a_sn e_s)), (a_sn, (arI G 40 f_s)), (a_bb, (arJ G 24 f_bb)), (a_j, (oc2 a_as a_sk)), (a_as, (arI G 8 z39)), (a_sk, (arJ G 50 z40)), (a_l, (arW G 6 f_l)), (a_pt, (arI G 200 z38)), (a_th, (oc7 a_h a_k a_ba a_ad z41 a_cn a_nx a_hp a_hl a_lv)), (a_ba, (arJ G 24 z42)), (a_ad, (arI G 1536 z43))] hP hD ?_
    clear hP hD
    intro hP hD
    refine lv_aload_n hx hb dX7_findCore_24 rfl (lv_at hl 1 rfl) ?_
    refine W.eq (g2 := F0 m 25 ls [.ref a_th]) rfl ?_
    obtain ⟨hPc, hDc, hFc⟩ := g5_sub3 (wc := [(a_th, (oc7 a_h a_k a_ba a_ad z41 a_cn a_nx a_hp a_hl a_lv)), (a_ba, (arJ G 24 z42)), (a_ad, (arI G 1536 z43)), (a_hp, (arI G 1536 z23))]) hP hD hS hA [17, 18, 19, 0] (by decide +kernel) rfl
    refine va_calli (va_runV (As := []) (rest := []) ⟨hx, hb, hml, hown, hts⟩ (th_anyFits l G a_th a_ba a_ad a_hp a_h a_k a_cn a_nx a_hl a_lv H.size z41 z42 z43 z23) (cwV 0 hts gV_X7_117 rfl rfl rfl hv_X7_anyFits ⟨Nat.le_of_ble_eq_true rfl, Nat.le_of_ble_eq_true rfl⟩) (g5_preV hPc hK hDc hN hT hS hFc (ci := 7) (q0 := 0) rfl rfl) rfl rfl hl.1 rfl (lv_room (Nat.le_of_ble_eq_true rfl)) dX7_findCore_25 ⟨Nat.le_of_ble_eq_true rfl, Nat.le_of_ble_eq_true rfl⟩) hS (fun q _ h => hFc q h) hFc (fun r u t H locs ht hvm hw hB hz1 hk1 hS => ?_)
    obtain ⟨hP1, hD1⟩ := hB
    have hP1 := g5_ht ht hP1
    obtain ⟨z45, z46, (i_44 : 0 ≤ z45.toInt ∧ z45.toInt ≤ 1), y47, rfl⟩ := hw
    have hJ9 := va_join (wr := [(a_k, (oc5 a_h a_j a_pt z28 z29 z30 z31 z32 z33 z34 z35 z36 z37)), (a_h, (oc1 e_wa e_le e_st e_fo e_lc a_l a_g a_b a_s a_p a_w e_gb a_bb)), (a_g, (oc6 6 5 a_gn e_g)), (a_gn, (arI G 30 f_g)), (a_b, (oc6 5 24 a_bn e_b)), (a_bn, (arI G 120 f_b)), (a_p, (oc6 8 5 a_pn e_p)), (a_pn, (arI G 40 f_p)), (a_s, (oc6 10 4 a_sn e_s)), (a_sn, (arI G 40 f_s)), (a_bb, (arJ G 24 f_bb)), (a_j, (oc2 a_as a_sk)), (a_as, (arI G 8 z39)), (a_sk, (arJ G 50 z40)), (a_l, (arW G 6 f_l)), (a_pt, (arI G 200 z38))]) hP hD [17, 18, 19, 0] [1, 2, 3, 4, 5, 6, 7, 8, 9, 10, 11, 12, 13, 14, 15, 16] rfl rfl (by decide +kernel) (by decide +kernel) hk1 hFc hP1 hD1
    clear hP hD hPc hDc hFc ht hvm hz1 hk1 hP1 hD1
    obtain ⟨hP, hD⟩ := hJ9
    refine g5_rs [(a_k, (oc5 a_h a_j a_pt z28 z29 z30 z31 z32 z33 z34 z35 z36 z37)), (a_h, (oc1 e_wa e_le e_st e_fo e_lc a_l a_g a_b a_s a_p a_w e_gb a_bb)), (a_g, (oc6 6 5 a_gn e_g)), (a_gn, (arI G 30 f_g)), (a_b, (oc6 5 24 a_bn e_b)), (a_bn, (arI G 120 f_b)), (a_p, (oc6 8 5 a_pn e_p)), (a_pn, (arI G 40 f_p)), (a_s, (oc6 10 4 a_sn e_s)), (a_sn, (arI G 40 f_s)), (a_bb, (arJ G 24 f_bb)), (a_j, (oc2 a_as a_sk)), (a_as, (arI G 8 z39)), (a_sk, (arJ G 50 z40)), (a_l, (arW G 6 f_l)), (a_pt, (arI G 200 z38)), (a_th, (oc7 a_h a_k a_ba a_ad z41 a_cn a_nx a_hp a_hl a_lv)), (a_ba, (arJ G 24 z42)), (a_ad, (arI G 1536 z43)), (a_hp, (arI G 1536 z46))] hP hD ?_
    clear hP hD
    intro hP hD
    refine g5_ti (v := z45) y47 ?_
    refine lv_if_ne (tgt := 33) hx hb dX7_findCore_28 (by decide +kernel) (fun c_48 => ?_) (fun c_48 => ?_)
    ·
      have n_48 : gNe (z45.toInt) (0) := g5_ne (a := z45.toInt) (b := 0) rfl (by decide +kernel) c_48
      have i_48 : z45.toInt ≥ 1 := by have z := g5_ne (a := z45.toInt) (b := 0) (by rfl) (by decide +kernel) c_48; omega
      refine lv_iconst (v := 0) hx hb dX7_findCore_33 (by decide +kernel) ?_
      refine lv_istore_n (lv' := [(2, .int 0), (1, .int z1), (0, .ref a_th)]) hx hb dX7_findCore_34 rfl hl (by decide +kernel) rfl ?_
      clear hl
      intro ls hl
      refine g5_loop (α := (Int32) × (Int32) × (Int32) × (Int32) × (Int32) × (Int32) × (Int32) × (Int32) × (Int32) × (Int32) × (Int32) × (Nat → Int32) × (Nat → Int32) × (Nat → Int64) × (Int32) × (Int32) × (Nat → Int64) × (Nat → Int32) × (Nat → Int32)) (fun (q : (Int32) × (Int32) × (Int32) × (Int32) × (Int32) × (Int32) × (Int32) × (Int32) × (Int32) × (Int32) × (Int32) × (Nat → Int32) × (Nat → Int32) × (Nat → Int64) × (Int32) × (Int32) × (Nat → Int64) × (Nat → Int32) × (Nat → Int32)) (ls : Array Slot) (H : Heap) (locs : List Loc) => match q with | (k_b, k_i, k_se, k_lh, k_br, k_we, k_me, k_ce, k_wy, k_ho, k_ov, k_pt, k_as, k_sk, k_ln, k_fu, k_ba, k_ad, k_hp) => lv_has ls 3 [(1, .int k_b), (2, .int k_i), (0, .ref a_th)] ∧ va_P G.1 vwCl [(a_k, (oc5 a_h a_j a_pt k_ln k_se k_lh k_br k_we k_me k_ce k_wy k_ho k_ov)), (a_h, (oc1 e_wa e_le e_st e_fo e_lc a_l a_g a_b a_s a_p a_w e_gb a_bb)), (a_g, (oc6 6 5 a_gn e_g)), (a_gn, (arI G 30 f_g)), (a_b, (oc6 5 24 a_bn e_b)), (a_bn, (arI G 120 f_b)), (a_p, (oc6 8 5 a_pn e_p)), (a_pn, (arI G 40 f_p)), (a_s, (oc6 10 4 a_sn e_s)), (a_sn, (arI G 40 f_s)), (a_bb, (arJ G 24 f_bb)), (a_j, (oc2 a_as a_sk)), (a_as, (arI G 8 k_as)), (a_sk, (arJ G 50 k_sk)), (a_l, (arW G 6 f_l)), (a_pt, (arI G 200 k_pt)), (a_th, (oc7 a_h a_k a_ba a_ad k_fu a_cn a_nx a_hp a_hl a_lv)), (a_ba, (arJ G 24 k_ba)), (a_ad, (arI G 1536 k_ad)), (a_hp, (arI G 1536 k_hp))] H ∧ va_D A [(a_k, (oc5 a_h a_j a_pt k_ln k_se k_lh k_br k_we k_me k_ce k_wy k_ho k_ov)), (a_h, (oc1 e_wa e_le e_st e_fo e_lc a_l a_g a_b a_s a_p a_w e_gb a_bb)), (a_g, (oc6 6 5 a_gn e_g)), (a_gn, (arI G 30 f_g)), (a_b, (oc6 5 24 a_bn e_b)), (a_bn, (arI G 120 f_b)), (a_p, (oc6 8 5 a_pn e_p)), (a_pn, (arI G 40 f_p)), (a_s, (oc6 10 4 a_sn e_s)), (a_sn, (arI G 40 f_s)), (a_bb, (arJ G 24 f_bb)), (a_j, (oc2 a_as a_sk)), (a_as, (arI G 8 k_as)), (a_sk, (arJ G 50 k_sk)), (a_l, (arW G 6 f_l)), (a_pt, (arI G 200 k_pt)), (a_th, (oc7 a_h a_k a_ba a_ad k_fu a_cn a_nx a_hp a_hl a_lv)), (a_ba, (arJ G 24 k_ba)), (a_ad, (arI G 1536 k_ad)), (a_hp, (arI G 1536 k_hp))] ∧ va_S A s.heap H locs ∧ (0 ≤ k_i.toInt ∧ k_i.toInt ≤ 10) ∧ (0 ≤ k_ov.toInt ∧ k_ov.toInt ≤ 1) ∧ (k_i.toInt ≤ e_s.toInt) ∧ (TOK k_fu k_ad)) (fun (q : (Int32) × (Int32) × (Int32) × (Int32) × (Int32) × (Int32) × (Int32) × (Int32) × (Int32) × (Int32) × (Int32) × (Nat → Int32) × (Nat → Int32) × (Nat → Int64) × (Int32) × (Int32) × (Nat → Int64) × (Nat → Int32) × (Nat → Int32)) => match q with | (k_b, k_i, k_se, k_lh, k_br, k_we, k_me, k_ce, k_wy, k_ho, k_ov, k_pt, k_as, k_sk, k_ln, k_fu, k_ba, k_ad, k_hp) => Int.toNat (10 - k_i.toInt)) (z1, 0, z29, z30, z31, z32, z33, z34, z35, z36, z37, z38, z39, z40, z28, z41, z42, z43, z46) ⟨lv_sub hl [1, 0, 2] rfl, hP, hD, hS, ⟨by decide, by decide⟩, i_26, by have z0 : (0 : Int32).toInt = 0 := (by decide +kernel); omega, i_27⟩ ?_
      rintro ⟨k_b, k_i, k_se, k_lh, k_br, k_we, k_me, k_ce, k_wy, k_ho, k_ov, k_pt, k_as, k_sk, k_ln, k_fu, k_ba, k_ad, k_hp⟩ ls H locs ⟨hl, hP, hD, hS, (i_49 : 0 ≤ k_i.toInt ∧ k_i.toInt ≤ 10), (i_50 : 0 ≤ k_ov.toInt ∧ k_ov.toInt ≤ 1), (i_51 : k_i.toInt ≤ e_s.toInt), (i_52 : TOK k_fu k_ad)⟩ ih_35_53
      replace hl : lv_has ls 3 [(1, .int k_b), (2, .int k_i), (0, .ref a_th)] := hl
      refine g5_rs [(a_k, (oc5 a_h a_j a_pt k_ln k_se k_lh k_br k_we k_me k_ce k_wy k_ho k_ov)), (a_h, (oc1 e_wa e_le e_st e_fo e_lc a_l a_g a_b a_s a_p a_w e_gb a_bb)), (a_g, (oc6 6 5 a_gn e_g)), (a_gn, (arI G 30 f_g)), (a_b, (oc6 5 24 a_bn e_b)), (a_bn, (arI G 120 f_b)), (a_p, (oc6 8 5 a_pn e_p)), (a_pn, (arI G 40 f_p)), (a_s, (oc6 10 4 a_sn e_s)), (a_sn, (arI G 40 f_s)), (a_bb, (arJ G 24 f_bb)), (a_j, (oc2 a_as a_sk)), (a_as, (arI G 8 k_as)), (a_sk, (arJ G 50 k_sk)), (a_l, (arW G 6 f_l)), (a_pt, (arI G 200 k_pt)), (a_th, (oc7 a_h a_k a_ba a_ad k_fu a_cn a_nx a_hp a_hl a_lv)), (a_ba, (arJ G 24 k_ba)), (a_ad, (arI G 1536 k_ad)), (a_hp, (arI G 1536 k_hp))] hP hD ?_
      clear hP hD
      intro hP hD
      refine lv_iload_n hx hb dX7_findCore_35 rfl (lv_at hl 1 rfl) ?_
      refine lv_aload_n hx hb dX7_findCore_36 rfl (lv_at hl 2 rfl) ?_
      refine va_get (D := G.1) (ci := 7) (v := .ref a_h) (C := RX7) (T := TX7) (N := 10) hx hb hts inG_X7 hown hK hP 16 rfl rfl 0 (by decide +kernel) (hts _ fl_X7_34) (fun _ h9 => h9) rfl dX7_findCore_37 ?_
      refine va_get (D := G.1) (ci := 1) (v := .ref a_s) (C := RX1) (T := TX1) (N := 13) hx hb hts inG_X1 hown hK hP 1 rfl rfl 8 (by decide +kernel) (hts _ fl_X7_42) (fun _ h9 => h9) rfl dX7_findCore_40 ?_
      refine W.eq (g2 := F0 m 43 ls [.ref a_s, .int k_i]) rfl ?_
      refine va_get (D := G.1) (ci := 6) (v := .int e_s) (C := RX6) (T := TX6) (N := 4) hx hb hts inG_X6 hown hK hP 8 rfl rfl 3 (by decide +kernel) (hts _ fl_X7_48) (fun _ h9 => h9) rfl dX7_findCore_43 ?_
      refine lv_icmp_ge (tgt := 81) hx hb dX7_findCore_46 (by decide +kernel) (fun c_54 => ?_) (fun c_54 => ?_)
      ·
        have i_54 : k_i.toInt ≥ e_s.toInt := g5_ge (a := k_i.toInt) (b := e_s.toInt) rfl rfl c_54
        refine lv_iload_n hx hb dX7_findCore_81 rfl (lv_at hl 0 rfl) ?_
        exact W.iret (v := k_b) hx hb hr (fun t ht hW => ⟨⟨k_b, [(a_k, (oc5 a_h a_j a_pt k_ln k_se k_lh k_br k_we k_me k_ce k_wy k_ho k_ov)), (a_h, (oc1 e_wa e_le e_st e_fo e_lc a_l a_g a_b a_s a_p a_w e_gb a_bb)), (a_g, (oc6 6 5 a_gn e_g)), (a_gn, (arI G 30 f_g)), (a_b, (oc6 5 24 a_bn e_b)), (a_bn, (arI G 120 f_b)), (a_p, (oc6 8 5 a_pn e_p)), (a_pn, (arI G 40 f_p)), (a_s, (oc6 10 4 a_sn e_s)), (a_sn, (arI G 40 f_s)), (a_bb, (arJ G 24 f_bb)), (a_j, (oc2 a_as a_sk)), (a_as, (arI G 8 k_as)), (a_sk, (arJ G 50 k_sk)), (a_l, (arW G 6 f_l)), (a_pt, (arI G 200 k_pt)), (a_th, (oc7 a_h a_k a_ba a_ad k_fu a_cn a_nx a_hp a_hl a_lv)), (a_ba, (arJ G 24 k_ba)), (a_ad, (arI G 1536 k_ad)), (a_hp, (arI G 1536 k_hp))], rfl, ⟨k_b, k_ln, k_se, k_lh, k_br, k_we, k_me, k_ce, k_wy, k_ho, k_ov, k_pt, k_as, k_sk, k_fu, k_ba, k_ad, k_hp, i_50, i_52, rfl, rfl⟩, by rw [ht]; exact hP.sub [0, 1, 2, 3, 4, 5, 6, 7, 8, 9, 10, 11, 12, 13, 14, 15, 16, 17, 18, 19] rfl, hD.sub [0, 1, 2, 3, 4, 5, 6, 7, 8, 9, 10, 11, 12, 13, 14, 15, 16, 17, 18, 19] (by decide +kernel) rfl⟩, hS.F ht⟩) hS.2.2 dX7_findCore_82
      ·
        have i_54 : k_i.toInt < e_s.toInt := g5_geN (a := k_i.toInt) (b := e_s.toInt) rfl rfl c_54
        refine lv_aload_n hx hb dX7_findCore_49 rfl (lv_at hl 2 rfl) ?_
        refine lv_iload_n hx hb dX7_findCore_50 rfl (lv_at hl 0 rfl) ?_
        refine lv_iconst (v := 1) hx hb dX7_findCore_51 (by decide +kernel) ?_
        refine lv_iload_n hx hb dX7_findCore_52 rfl (lv_at hl 1 rfl) ?_
        refine W.eq (g2 := F0 m 53 ls [.int k_i, .int 1, .int k_b, .ref a_th]) rfl ?_
        refine lv_ishl hx hb dX7_findCore_53 ?_
        refine lv_iconst (v := (-1)) hx hb dX7_findCore_54 (by decide +kernel) ?_
        refine lv_ixor hx hb dX7_findCore_55 ?_
        refine lv_iand hx hb dX7_findCore_56 ?_
        obtain ⟨hPc, hDc, hFc⟩ := g5_sub3 (wc := [(a_k, (oc5 a_h a_j a_pt k_ln k_se k_lh k_br k_we k_me k_ce k_wy k_ho k_ov)), (a_h, (oc1 e_wa e_le e_st e_fo e_lc a_l a_g a_b a_s a_p a_w e_gb a_bb)), (a_g, (oc6 6 5 a_gn e_g)), (a_gn, (arI G 30 f_g)), (a_b, (oc6 5 24 a_bn e_b)), (a_bn, (arI G 120 f_b)), (a_p, (oc6 8 5 a_pn e_p)), (a_pn, (arI G 40 f_p)), (a_s, (oc6 10 4 a_sn e_s)), (a_sn, (arI G 40 f_s)), (a_bb, (arJ G 24 f_bb)), (a_j, (oc2 a_as a_sk)), (a_as, (arI G 8 k_as)), (a_sk, (arJ G 50 k_sk)), (a_l, (arW G 6 f_l)), (a_pt, (arI G 200 k_pt)), (a_th, (oc7 a_h a_k a_ba a_ad k_fu a_cn a_nx a_hp a_hl a_lv)), (a_ba, (arJ G 24 k_ba)), (a_ad, (arI G 1536 k_ad))]) hP hD hS hA [0, 1, 2, 3, 4, 5, 6, 7, 8, 9, 10, 11, 12, 13, 14, 15, 16, 17, 18] (by decide +kernel) rfl
        refine va_callv (va_runV (As := [.int (k_b &&& ((1 <<< (k_i &&& 31)) ^^^ (-1)))]) (rest := []) ⟨hx, hb, hml, hown, hts⟩ (th_loadN l G a_k a_h a_g a_gn a_b a_bn a_p a_pn a_s a_sn a_bb a_j a_as a_sk a_l a_pt a_th a_ba a_ad a_w a_cn a_nx a_hp a_hl a_lv H.size e_le e_st e_fo e_lc e_g e_b e_p e_s k_ln k_se k_lh k_br k_we k_me k_ce k_wy k_ho k_ov k_fu (k_b &&& ((1 <<< (k_i &&& 31)) ^^^ (-1))) e_wa e_gb f_g f_b f_p f_s f_bb k_as k_sk f_l k_pt k_ba k_ad h_e_g h_e_b h_e_p h_e_s i_50 (e_gk) (e_pk) (e_gi) (e_sh) (e_s5) (e_f)) (cwV 1 hts gV_X7_138 rfl rfl rfl hv_X7_load ⟨Nat.le_of_ble_eq_true rfl, Nat.le_of_ble_eq_true rfl⟩) (g5_preV hPc hK hDc hN hT hS hFc (ci := 7) (q0 := 16) rfl rfl) rfl rfl hl.1 rfl (lv_room (Nat.le_of_ble_eq_true rfl)) dX7_findCore_57 ⟨Nat.le_of_ble_eq_true rfl, Nat.le_of_ble_eq_true rfl⟩) hS (fun q _ h => hFc q h) hFc (fun u t H locs ht hvm hw hB hz1 hk1 hS => ?_)
        obtain ⟨hP1, hD1⟩ := hB
        have hP1 := g5_ht ht hP1
        obtain ⟨z57, z58, z59, z60, z61, z62, z63, z64, z65, z66, z67, z68, z69, z70, z71, z72, (i_55 : 0 ≤ z66.toInt ∧ z66.toInt ≤ 1), (i_56 : TOK z70 z72), rfl⟩ := hw
        have hJ9 := va_join (wr := [(a_hp, (arI G 1536 k_hp))]) hP hD [0, 1, 2, 3, 4, 5, 6, 7, 8, 9, 10, 11, 12, 13, 14, 15, 16, 17, 18] [19] rfl rfl (by decide +kernel) (by decide +kernel) hk1 hFc hP1 hD1
        clear hP hD hPc hDc hFc ht hvm hz1 hk1 hP1 hD1
        obtain ⟨hP, hD⟩ := hJ9
        refine g5_rs [(a_hp, (arI G 1536 k_hp)), (a_k, (oc5 a_h a_j a_pt z57 z58 z59 z60 z61 z62 z63 z64 z65 z66)), (a_h, (oc1 e_wa e_le e_st e_fo e_lc a_l a_g a_b a_s a_p a_w e_gb a_bb)), (a_g, (oc6 6 5 a_gn e_g)), (a_gn, (arI G 30 f_g)), (a_b, (oc6 5 24 a_bn e_b)), (a_bn, (arI G 120 f_b)), (a_p, (oc6 8 5 a_pn e_p)), (a_pn, (arI G 40 f_p)), (a_s, (oc6 10 4 a_sn e_s)), (a_sn, (arI G 40 f_s)), (a_bb, (arJ G 24 f_bb)), (a_j, (oc2 a_as a_sk)), (a_as, (arI G 8 z68)), (a_sk, (arJ G 50 z69)), (a_l, (arW G 6 f_l)), (a_pt, (arI G 200 z67)), (a_th, (oc7 a_h a_k a_ba a_ad z70 a_cn a_nx a_hp a_hl a_lv)), (a_ba, (arJ G 24 z71)), (a_ad, (arI G 1536 z72))] hP hD ?_
        clear hP hD
        intro hP hD
        refine W.eq (g2 := F0 m 60 ls []) rfl ?_
        refine lv_aload_n hx hb dX7_findCore_60 rfl (lv_at hl 2 rfl) ?_
        obtain ⟨hPc, hDc, hFc⟩ := g5_sub3 (wc := [(a_th, (oc7 a_h a_k a_ba a_ad z70 a_cn a_nx a_hp a_hl a_lv)), (a_ba, (arJ G 24 z71)), (a_ad, (arI G 1536 z72)), (a_hp, (arI G 1536 k_hp))]) hP hD hS hA [17, 18, 19, 0] (by decide +kernel) rfl
        refine va_calli (va_runV (As := []) (rest := []) ⟨hx, hb, hml, hown, hts⟩ (th_anyFits l G a_th a_ba a_ad a_hp a_h a_k a_cn a_nx a_hl a_lv H.size z70 z71 z72 k_hp) (cwV 0 hts gV_X7_117 rfl rfl rfl hv_X7_anyFits ⟨Nat.le_of_ble_eq_true rfl, Nat.le_of_ble_eq_true rfl⟩) (g5_preV hPc hK hDc hN hT hS hFc (ci := 7) (q0 := 0) rfl rfl) rfl rfl hl.1 rfl (lv_room (Nat.le_of_ble_eq_true rfl)) dX7_findCore_61 ⟨Nat.le_of_ble_eq_true rfl, Nat.le_of_ble_eq_true rfl⟩) hS (fun q _ h => hFc q h) hFc (fun r u t H locs ht hvm hw hB hz1 hk1 hS => ?_)
        obtain ⟨hP1, hD1⟩ := hB
        have hP1 := g5_ht ht hP1
        obtain ⟨z74, z75, (i_73 : 0 ≤ z74.toInt ∧ z74.toInt ≤ 1), y76, rfl⟩ := hw
        have hJ9 := va_join (wr := [(a_k, (oc5 a_h a_j a_pt z57 z58 z59 z60 z61 z62 z63 z64 z65 z66)), (a_h, (oc1 e_wa e_le e_st e_fo e_lc a_l a_g a_b a_s a_p a_w e_gb a_bb)), (a_g, (oc6 6 5 a_gn e_g)), (a_gn, (arI G 30 f_g)), (a_b, (oc6 5 24 a_bn e_b)), (a_bn, (arI G 120 f_b)), (a_p, (oc6 8 5 a_pn e_p)), (a_pn, (arI G 40 f_p)), (a_s, (oc6 10 4 a_sn e_s)), (a_sn, (arI G 40 f_s)), (a_bb, (arJ G 24 f_bb)), (a_j, (oc2 a_as a_sk)), (a_as, (arI G 8 z68)), (a_sk, (arJ G 50 z69)), (a_l, (arW G 6 f_l)), (a_pt, (arI G 200 z67))]) hP hD [17, 18, 19, 0] [1, 2, 3, 4, 5, 6, 7, 8, 9, 10, 11, 12, 13, 14, 15, 16] rfl rfl (by decide +kernel) (by decide +kernel) hk1 hFc hP1 hD1
        clear hP hD hPc hDc hFc ht hvm hz1 hk1 hP1 hD1
        obtain ⟨hP, hD⟩ := hJ9
        refine g5_rs [(a_k, (oc5 a_h a_j a_pt z57 z58 z59 z60 z61 z62 z63 z64 z65 z66)), (a_h, (oc1 e_wa e_le e_st e_fo e_lc a_l a_g a_b a_s a_p a_w e_gb a_bb)), (a_g, (oc6 6 5 a_gn e_g)), (a_gn, (arI G 30 f_g)), (a_b, (oc6 5 24 a_bn e_b)), (a_bn, (arI G 120 f_b)), (a_p, (oc6 8 5 a_pn e_p)), (a_pn, (arI G 40 f_p)), (a_s, (oc6 10 4 a_sn e_s)), (a_sn, (arI G 40 f_s)), (a_bb, (arJ G 24 f_bb)), (a_j, (oc2 a_as a_sk)), (a_as, (arI G 8 z68)), (a_sk, (arJ G 50 z69)), (a_l, (arW G 6 f_l)), (a_pt, (arI G 200 z67)), (a_th, (oc7 a_h a_k a_ba a_ad z70 a_cn a_nx a_hp a_hl a_lv)), (a_ba, (arJ G 24 z71)), (a_ad, (arI G 1536 z72)), (a_hp, (arI G 1536 z75))] hP hD ?_
        clear hP hD
        intro hP hD
        refine g5_ti (v := z74) y76 ?_
        refine lv_if_ne (tgt := 75) hx hb dX7_findCore_64 (by decide +kernel) (fun c_77 => ?_) (fun c_77 => ?_)
        ·
          have n_77 : gNe (z74.toInt) (0) := g5_ne (a := z74.toInt) (b := 0) rfl (by decide +kernel) c_77
          have i_77 : z74.toInt ≥ 1 := by have z := g5_ne (a := z74.toInt) (b := 0) (by rfl) (by decide +kernel) c_77; omega
          refine lv_iinc (v := (k_i + 1)) (lv' := [(2, .int (k_i + 1)), (1, .int k_b), (0, .ref a_th)]) hx hb dX7_findCore_75 hl (k := 1) rfl rfl (by decide +kernel) rfl ?_
          clear hl
          intro ls hl
          have t_78 : (k_i + 1).toInt = k_i.toInt + 1 := g5_iadd (a := k_i.toInt) (b := 1) rfl (by decide +kernel) (by omega) (by omega)
          refine lv_goto (tgt := 35) hx hb dX7_findCore_78 (by decide +kernel) ?_
          exact ih_35_53 (k_b, (k_i + 1), z58, z59, z60, z61, z62, z63, z64, z65, z66, z67, z68, z69, z57, z70, z71, z72, z75) ls H locs (show Int.toNat (10 - (k_i + 1).toInt) < Int.toNat (10 - k_i.toInt) from g_up (show k_i.toInt < (k_i + 1).toInt by omega) (show k_i.toInt < 10 by omega)) ⟨lv_sub hl [1, 0, 2] rfl, hP, hD, hS, ⟨by omega, by omega⟩, i_55, by omega, i_56⟩
        ·
          have i_77 : z74.toInt = 0 := g5_neN (a := z74.toInt) (b := 0) rfl (by decide +kernel) c_77
          refine lv_iload_n hx hb dX7_findCore_67 rfl (lv_at hl 0 rfl) ?_
          refine lv_iconst (v := 1) hx hb dX7_findCore_68 (by decide +kernel) ?_
          refine lv_iload_n hx hb dX7_findCore_69 rfl (lv_at hl 1 rfl) ?_
          refine lv_ishl hx hb dX7_findCore_70 ?_
          refine W.eq (g2 := F0 m 71 ls [.int (1 <<< (k_i &&& 31)), .int k_b]) rfl ?_
          refine lv_iconst (v := (-1)) hx hb dX7_findCore_71 (by decide +kernel) ?_
          refine lv_ixor hx hb dX7_findCore_72 ?_
          refine lv_iand hx hb dX7_findCore_73 ?_
          refine lv_istore_n (lv' := [(1, .int (k_b &&& ((1 <<< (k_i &&& 31)) ^^^ (-1)))), (2, .int k_i), (0, .ref a_th)]) hx hb dX7_findCore_74 rfl hl (by decide +kernel) rfl ?_
          clear hl
          intro ls hl
          refine lv_iinc (v := (k_i + 1)) (lv' := [(2, .int (k_i + 1)), (1, .int (k_b &&& ((1 <<< (k_i &&& 31)) ^^^ (-1)))), (0, .ref a_th)]) hx hb dX7_findCore_75 hl (k := 1) rfl rfl (by decide +kernel) rfl ?_
          clear hl
          intro ls hl
          have t_79 : (k_i + 1).toInt = k_i.toInt + 1 := g5_iadd (a := k_i.toInt) (b := 1) rfl (by decide +kernel) (by omega) (by omega)
          refine W.eq (g2 := F0 m 78 ls []) rfl ?_
          refine lv_goto (tgt := 35) hx hb dX7_findCore_78 (by decide +kernel) ?_
          exact ih_35_53 ((k_b &&& ((1 <<< (k_i &&& 31)) ^^^ (-1))), (k_i + 1), z58, z59, z60, z61, z62, z63, z64, z65, z66, z67, z68, z69, z57, z70, z71, z72, z75) ls H locs (show Int.toNat (10 - (k_i + 1).toInt) < Int.toNat (10 - k_i.toInt) from g_up (show k_i.toInt < (k_i + 1).toInt by omega) (show k_i.toInt < 10 by omega)) ⟨lv_sub hl [1, 0, 2] rfl, hP, hD, hS, ⟨by omega, by omega⟩, i_55, by omega, i_56⟩
    ·
      have i_48 : z45.toInt = 0 := g5_neN (a := z45.toInt) (b := 0) rfl (by decide +kernel) c_48
      refine lv_iconst (v := (-1)) hx hb dX7_findCore_31 (by decide +kernel) ?_
      exact W.iret (v := (-1)) hx hb hr (fun t ht hW => ⟨⟨(-1), [(a_k, (oc5 a_h a_j a_pt z28 z29 z30 z31 z32 z33 z34 z35 z36 z37)), (a_h, (oc1 e_wa e_le e_st e_fo e_lc a_l a_g a_b a_s a_p a_w e_gb a_bb)), (a_g, (oc6 6 5 a_gn e_g)), (a_gn, (arI G 30 f_g)), (a_b, (oc6 5 24 a_bn e_b)), (a_bn, (arI G 120 f_b)), (a_p, (oc6 8 5 a_pn e_p)), (a_pn, (arI G 40 f_p)), (a_s, (oc6 10 4 a_sn e_s)), (a_sn, (arI G 40 f_s)), (a_bb, (arJ G 24 f_bb)), (a_j, (oc2 a_as a_sk)), (a_as, (arI G 8 z39)), (a_sk, (arJ G 50 z40)), (a_l, (arW G 6 f_l)), (a_pt, (arI G 200 z38)), (a_th, (oc7 a_h a_k a_ba a_ad z41 a_cn a_nx a_hp a_hl a_lv)), (a_ba, (arJ G 24 z42)), (a_ad, (arI G 1536 z43)), (a_hp, (arI G 1536 z46))], rfl, ⟨(-1), z28, z29, z30, z31, z32, z33, z34, z35, z36, z37, z38, z39, z40, z41, z42, z43, z46, i_26, i_27, rfl, rfl⟩, by rw [ht]; exact hP.sub [0, 1, 2, 3, 4, 5, 6, 7, 8, 9, 10, 11, 12, 13, 14, 15, 16, 17, 18, 19] rfl, hD.sub [0, 1, 2, 3, 4, 5, 6, 7, 8, 9, 10, 11, 12, 13, 14, 15, 16, 17, 18, 19] (by decide +kernel) rfl⟩, hS.F ht⟩) hS.2.2 dX7_findCore_32
  ·
    have n_25 : gNe (z22.toInt) (0) := g5_eqN (a := z22.toInt) (b := 0) rfl (by decide +kernel) c_25
    have i_25 : z22.toInt ≥ 1 := by have z := g5_eqN (a := z22.toInt) (b := 0) (by rfl) (by decide +kernel) c_25; omega
    refine lv_iconst (v := 0) hx hb dX7_findCore_17 (by decide +kernel) ?_
    exact W.iret (v := 0) hx hb hr (fun t ht hW => ⟨⟨0, [(a_k, (oc5 a_h a_j a_pt z5 z6 z7 z8 z9 z10 z11 z12 z13 z14)), (a_h, (oc1 e_wa e_le e_st e_fo e_lc a_l a_g a_b a_s a_p a_w e_gb a_bb)), (a_g, (oc6 6 5 a_gn e_g)), (a_gn, (arI G 30 f_g)), (a_b, (oc6 5 24 a_bn e_b)), (a_bn, (arI G 120 f_b)), (a_p, (oc6 8 5 a_pn e_p)), (a_pn, (arI G 40 f_p)), (a_s, (oc6 10 4 a_sn e_s)), (a_sn, (arI G 40 f_s)), (a_bb, (arJ G 24 f_bb)), (a_j, (oc2 a_as a_sk)), (a_as, (arI G 8 z16)), (a_sk, (arJ G 50 z17)), (a_l, (arW G 6 f_l)), (a_pt, (arI G 200 z15)), (a_th, (oc7 a_h a_k a_ba a_ad z18 a_cn a_nx a_hp a_hl a_lv)), (a_ba, (arJ G 24 z19)), (a_ad, (arI G 1536 z20)), (a_hp, (arI G 1536 z23))], rfl, ⟨0, z5, z6, z7, z8, z9, z10, z11, z12, z13, z14, z15, z16, z17, z18, z19, z20, z23, i_3, i_4, rfl, rfl⟩, by rw [ht]; exact hP.sub [0, 1, 2, 3, 4, 5, 6, 7, 8, 9, 10, 11, 12, 13, 14, 15, 16, 17, 18, 19] rfl, hD.sub [0, 1, 2, 3, 4, 5, 6, 7, 8, 9, 10, 11, 12, 13, 14, 15, 16, 17, 18, 19] (by decide +kernel) rfl⟩, hS.F ht⟩) hS.2.2 dX7_findCore_18
set_option maxHeartbeats 4000000 in
set_option maxRecDepth 100000 in
theorem th_coreL (l : Launch) (G : g5_G) (a_k a_h a_g a_gn a_b a_bn a_p a_pn a_s a_sn a_bb a_j a_as a_sk a_l a_lo a_sr a_cd a_hd a_pt a_th a_ba a_ad a_hp a_w a_cn a_nx a_hl a_lv : Nat) (sz : Nat) (e_le : Int32) (e_st : Int32) (e_fo : Int32) (e_lc : Int32) (e_g : Int32) (e_b : Int32) (e_p : Int32) (e_s : Int32) (e_cl : Int32) (e_ln : Int32) (e_se : Int32) (e_lh : Int32) (e_br : Int32) (e_we : Int32) (e_me : Int32) (e_ce : Int32) (e_wy : Int32) (e_ho : Int32) (e_ov : Int32) (e_fu : Int32) (e_wa : Int64) (e_gb : Int64) (f_g : Nat → Int32) (f_b : Nat → Int32) (f_p : Nat → Int32) (f_s : Nat → Int32) (f_bb : Nat → Int64) (f_as : Nat → Int32) (f_sk : Nat → Int64) (f_l : Nat → Option Nat) (f_sr : Nat → Int32) (f_cd : Nat → Int32) (f_hd : Nat → Int32) (f_pt : Nat → Int32) (f_ba : Nat → Int64) (f_ad : Nat → Int32) (f_hp : Nat → Int32) (n_sr : Nat) (n_cd : Nat) (n_hd : Nat) (h_e_g : 0 ≤ e_g.toInt ∧ e_g.toInt ≤ 6) (h_e_b : 0 ≤ e_b.toInt ∧ e_b.toInt ≤ 5) (h_e_p : 0 ≤ e_p.toInt ∧ e_p.toInt ≤ 8) (h_e_s : 0 ≤ e_s.toInt ∧ e_s.toInt ≤ 10) (h_e_cl : 0 ≤ e_cl.toInt ∧ e_cl.toInt ≤ 12) (h_e_ov : 0 ≤ e_ov.toInt ∧ e_ov.toInt ≤ 1) (e_gk : gOK f_g e_g.toInt) (e_pk : gOK f_p e_p.toInt) (e_gi : inT e_gb f_g e_g.toInt) (e_sh : ∀ r : Int, 0 ≤ r → r < e_s.toInt → 0 ≤ (tget f_s e_s.toInt 4 r (3 : Int32).toInt).toInt ∧ (tget f_s e_s.toInt 4 r (3 : Int32).toInt).toInt ≤ 1) (e_s5 : snS f_s e_s.toInt e_s.toInt.toNat ≤ 5) (e_f : 0 ≤ e_fo.toInt ∧ e_fo.toInt < e_lc.toInt ∧ e_lc.toInt ≤ 6) (e_a : f_l e_fo.toNatClampNeg = some a_lo) (e_hn : n_cd ≤ 400) (e_hs : ∀ j : Nat, j < n_sr → 0 ≤ (f_sr j).toInt ∧ (f_sr j).toInt ≤ (n_cd : Int)) (e_hk : ∀ j : Nat, j < n_cd → (f_cd j >>> (12 &&& 31)).toInt = 1 → (f_cd j &&& 4095).toInt < 8) (e_c : (e_cl.toInt : Int) ≤ (n_hd : Int) ∧ (e_cl.toInt + 1 : Int) ≤ (n_sr : Int)) : Met l yX7_findCore (wsG yX7_findCore cX7_findCore 3 (some .int)) ({ frames := 15, cells := 0, slots := 0, locals := 580 }) (va_Pc [.ref a_th] (g5_P G [(a_k, (oc5 a_h a_j a_pt e_ln e_se e_lh e_br e_we e_me e_ce e_wy e_ho e_ov)), (a_h, (oc1 e_wa e_le e_st e_fo e_lc a_l a_g a_b a_s a_p a_w e_gb a_bb)), (a_g, (oc6 6 5 a_gn e_g)), (a_gn, (arI G 30 f_g)), (a_b, (oc6 5 24 a_bn e_b)), (a_bn, (arI G 120 f_b)), (a_p, (oc6 8 5 a_pn e_p)), (a_pn, (arI G 40 f_p)), (a_s, (oc6 10 4 a_sn e_s)), (a_sn, (arI G 40 f_s)), (a_bb, (arJ G 24 f_bb)), (a_j, (oc2 a_as a_sk)), (a_as, (arI G 8 f_as)), (a_sk, (arJ G 50 f_sk)), (a_l, (arW G 6 f_l)), (a_lo, (oc3 e_cl a_hd a_sr a_cd)), (a_sr, (arI G n_sr f_sr)), (a_cd, (arI G n_cd f_cd)), (a_hd, (arI G n_hd f_hd)), (a_pt, (arI G 200 f_pt)), (a_th, (oc7 a_h a_k a_ba a_ad e_fu a_cn a_nx a_hp a_hl a_lv)), (a_ba, (arJ G 24 f_ba)), (a_ad, (arI G 1536 f_ad)), (a_hp, (arI G 1536 f_hp))] sz)) (va_Qi (fun (r : Int32) (u : va_W) => (∃ (o_r : Int32) (o_ln : Int32) (o_se : Int32) (o_lh : Int32) (o_br : Int32) (o_we : Int32) (o_me : Int32) (o_ce : Int32) (o_wy : Int32) (o_ho : Int32) (o_ov : Int32) (o_pt : Nat → Int32) (o_as : Nat → Int32) (o_sk : Nat → Int64) (o_fu : Int32) (o_ba : Nat → Int64) (o_ad : Nat → Int32) (o_hp : Nat → Int32), (0 ≤ o_ov.toInt ∧ o_ov.toInt ≤ 1) ∧ (TOK o_fu o_ad) ∧ (r = o_r) ∧ (u = [(a_k, (oc5 a_h a_j a_pt o_ln o_se o_lh o_br o_we o_me o_ce o_wy o_ho o_ov)), (a_h, (oc1 e_wa e_le e_st e_fo e_lc a_l a_g a_b a_s a_p a_w e_gb a_bb)), (a_g, (oc6 6 5 a_gn e_g)), (a_gn, (arI G 30 f_g)), (a_b, (oc6 5 24 a_bn e_b)), (a_bn, (arI G 120 f_b)), (a_p, (oc6 8 5 a_pn e_p)), (a_pn, (arI G 40 f_p)), (a_s, (oc6 10 4 a_sn e_s)), (a_sn, (arI G 40 f_s)), (a_bb, (arJ G 24 f_bb)), (a_j, (oc2 a_as a_sk)), (a_as, (arI G 8 o_as)), (a_sk, (arJ G 50 o_sk)), (a_l, (arW G 6 f_l)), (a_lo, (oc3 e_cl a_hd a_sr a_cd)), (a_sr, (arI G n_sr f_sr)), (a_cd, (arI G n_cd f_cd)), (a_hd, (arI G n_hd f_hd)), (a_pt, (arI G 200 o_pt)), (a_th, (oc7 a_h a_k a_ba a_ad o_fu a_cn a_nx a_hp a_hl a_lv)), (a_ba, (arJ G 24 o_ba)), (a_ad, (arI G 1536 o_ad)), (a_hp, (arI G 1536 o_hp))]))) (g5_B G (va_A [(a_k, (oc5 a_h a_j a_pt e_ln e_se e_lh e_br e_we e_me e_ce e_wy e_ho e_ov)), (a_h, (oc1 e_wa e_le e_st e_fo e_lc a_l a_g a_b a_s a_p a_w e_gb a_bb)), (a_g, (oc6 6 5 a_gn e_g)), (a_gn, (arI G 30 f_g)), (a_b, (oc6 5 24 a_bn e_b)), (a_bn, (arI G 120 f_b)), (a_p, (oc6 8 5 a_pn e_p)), (a_pn, (arI G 40 f_p)), (a_s, (oc6 10 4 a_sn e_s)), (a_sn, (arI G 40 f_s)), (a_bb, (arJ G 24 f_bb)), (a_j, (oc2 a_as a_sk)), (a_as, (arI G 8 f_as)), (a_sk, (arJ G 50 f_sk)), (a_l, (arW G 6 f_l)), (a_lo, (oc3 e_cl a_hd a_sr a_cd)), (a_sr, (arI G n_sr f_sr)), (a_cd, (arI G n_cd f_cd)), (a_hd, (arI G n_hd f_hd)), (a_pt, (arI G 200 f_pt)), (a_th, (oc7 a_h a_k a_ba a_ad e_fu a_cn a_nx a_hp a_hl a_lv)), (a_ba, (arJ G 24 f_ba)), (a_ad, (arI G 1536 f_ad)), (a_hp, (arI G 1536 f_hp))] sz)) (va_A [(a_k, (oc5 a_h a_j a_pt e_ln e_se e_lh e_br e_we e_me e_ce e_wy e_ho e_ov)), (a_h, (oc1 e_wa e_le e_st e_fo e_lc a_l a_g a_b a_s a_p a_w e_gb a_bb)), (a_g, (oc6 6 5 a_gn e_g)), (a_gn, (arI G 30 f_g)), (a_b, (oc6 5 24 a_bn e_b)), (a_bn, (arI G 120 f_b)), (a_p, (oc6 8 5 a_pn e_p)), (a_pn, (arI G 40 f_p)), (a_s, (oc6 10 4 a_sn e_s)), (a_sn, (arI G 40 f_s)), (a_bb, (arJ G 24 f_bb)), (a_j, (oc2 a_as a_sk)), (a_as, (arI G 8 f_as)), (a_sk, (arJ G 50 f_sk)), (a_l, (arW G 6 f_l)), (a_lo, (oc3 e_cl a_hd a_sr a_cd)), (a_sr, (arI G n_sr f_sr)), (a_cd, (arI G n_cd f_cd)), (a_hd, (arI G n_hd f_hd)), (a_pt, (arI G 200 f_pt)), (a_th, (oc7 a_h a_k a_ba a_ad e_fu a_cn a_nx a_hp a_hl a_lv)), (a_ba, (arJ G 24 f_ba)), (a_ad, (arI G 1536 f_ad)), (a_hp, (arI G 1536 f_hp))] sz)) 0 0 (va_A [(a_k, (oc5 a_h a_j a_pt e_ln e_se e_lh e_br e_we e_me e_ce e_wy e_ho e_ov)), (a_h, (oc1 e_wa e_le e_st e_fo e_lc a_l a_g a_b a_s a_p a_w e_gb a_bb)), (a_g, (oc6 6 5 a_gn e_g)), (a_gn, (arI G 30 f_g)), (a_b, (oc6 5 24 a_bn e_b)), (a_bn, (arI G 120 f_b)), (a_p, (oc6 8 5 a_pn e_p)), (a_pn, (arI G 40 f_p)), (a_s, (oc6 10 4 a_sn e_s)), (a_sn, (arI G 40 f_s)), (a_bb, (arJ G 24 f_bb)), (a_j, (oc2 a_as a_sk)), (a_as, (arI G 8 f_as)), (a_sk, (arJ G 50 f_sk)), (a_l, (arW G 6 f_l)), (a_lo, (oc3 e_cl a_hd a_sr a_cd)), (a_sr, (arI G n_sr f_sr)), (a_cd, (arI G n_cd f_cd)), (a_hd, (arI G n_hd f_hd)), (a_pt, (arI G 200 f_pt)), (a_th, (oc7 a_h a_k a_ba a_ad e_fu a_cn a_nx a_hp a_hl a_lv)), (a_ba, (arJ G 24 f_ba)), (a_ad, (arI G 1536 f_ad)), (a_hp, (arI G 1536 f_hp))] sz) := by
  refine Met.ofW (cc := cX7_findCore) (maxL := 3) (ret := (some .int)) (by decide +kernel) rfl ?_
  intro p e s m args below meth c s₁ B hml hv
  obtain ⟨rfl, hsz, hP, hK, hD0, hN, hT⟩ := hv
  have hx := B.exec
  have hb := B.bytes
  have hr := B.returns
  have hts : ∀ w ∈ tblG, w.before _ s = true := fun w h => atoms_spec (ws := (wsG yX7_findCore cX7_findCore 3 (some .int))) B.pre w (List.mem_cons_of_mem _ h)
  have hown : s.vm.findClass RX7 = some m.cls := findClass_of_methodNamed B.named
  have hlocks := B.notSynchronized
  subst hsz
  have hD := hD0.self (sz := s.heap.size)
  generalize hAe : va_A [(a_k, (oc5 a_h a_j a_pt e_ln e_se e_lh e_br e_we e_me e_ce e_wy e_ho e_ov)), (a_h, (oc1 e_wa e_le e_st e_fo e_lc a_l a_g a_b a_s a_p a_w e_gb a_bb)), (a_g, (oc6 6 5 a_gn e_g)), (a_gn, (arI G 30 f_g)), (a_b, (oc6 5 24 a_bn e_b)), (a_bn, (arI G 120 f_b)), (a_p, (oc6 8 5 a_pn e_p)), (a_pn, (arI G 40 f_p)), (a_s, (oc6 10 4 a_sn e_s)), (a_sn, (arI G 40 f_s)), (a_bb, (arJ G 24 f_bb)), (a_j, (oc2 a_as a_sk)), (a_as, (arI G 8 f_as)), (a_sk, (arJ G 50 f_sk)), (a_l, (arW G 6 f_l)), (a_lo, (oc3 e_cl a_hd a_sr a_cd)), (a_sr, (arI G n_sr f_sr)), (a_cd, (arI G n_cd f_cd)), (a_hd, (arI G n_hd f_hd)), (a_pt, (arI G 200 f_pt)), (a_th, (oc7 a_h a_k a_ba a_ad e_fu a_cn a_nx a_hp a_hl a_lv)), (a_ba, (arJ G 24 f_ba)), (a_ad, (arI G 1536 f_ad)), (a_hp, (arI G 1536 f_hp))] s.heap.size = A at hD hT ⊢
  have hA : ∀ q : Nat, s.heap.size ≤ q → A q := fun q h => by rw [← hAe]; exact Or.inr h
  have hS : va_S A s.heap s.heap [] := va_S.rf
  replace hP : va_P G.1 vwCl [(a_k, (oc5 a_h a_j a_pt e_ln e_se e_lh e_br e_we e_me e_ce e_wy e_ho e_ov)), (a_h, (oc1 e_wa e_le e_st e_fo e_lc a_l a_g a_b a_s a_p a_w e_gb a_bb)), (a_g, (oc6 6 5 a_gn e_g)), (a_gn, (arI G 30 f_g)), (a_b, (oc6 5 24 a_bn e_b)), (a_bn, (arI G 120 f_b)), (a_p, (oc6 8 5 a_pn e_p)), (a_pn, (arI G 40 f_p)), (a_s, (oc6 10 4 a_sn e_s)), (a_sn, (arI G 40 f_s)), (a_bb, (arJ G 24 f_bb)), (a_j, (oc2 a_as a_sk)), (a_as, (arI G 8 f_as)), (a_sk, (arJ G 50 f_sk)), (a_l, (arW G 6 f_l)), (a_lo, (oc3 e_cl a_hd a_sr a_cd)), (a_sr, (arI G n_sr f_sr)), (a_cd, (arI G n_cd f_cd)), (a_hd, (arI G n_hd f_hd)), (a_pt, (arI G 200 f_pt)), (a_th, (oc7 a_h a_k a_ba a_ad e_fu a_cn a_nx a_hp a_hl a_lv)), (a_ba, (arJ G 24 f_ba)), (a_ad, (arI G 1536 f_ad)), (a_hp, (arI G 1536 f_hp))] s.heap := hP
  have hl := lv_entry ([.ref a_th]) (n := 3) (Nat.le_of_ble_eq_true rfl)
  rw [lg_entry_eq]
  generalize (lg_sl ([.ref a_th]) ++ List.replicate (3 - (lg_sl ([.ref a_th])).length) Slot.unset).toArray = ls at hl ⊢
  replace hl : lv_has ls 3 [(0, .ref a_th)] := hl
  refine lv_aload_n hx hb dX7_findCore_0 rfl (lv_at hl 0 rfl) ?_
  obtain ⟨hPc, hDc, hFc⟩ := g5_sub3 (wc := [(a_th, (oc7 a_h a_k a_ba a_ad e_fu a_cn a_nx a_hp a_hl a_lv)), (a_h, (oc1 e_wa e_le e_st e_fo e_lc a_l a_g a_b a_s a_p a_w e_gb a_bb)), (a_s, (oc6 10 4 a_sn e_s))]) hP hD hS hA [20, 1, 8] (by decide +kernel) rfl
  refine va_calli (va_runV (As := []) (rest := []) ⟨hx, hb, hml, hown, hts⟩ (th_all l G a_th a_h a_s a_k a_ba a_ad a_cn a_nx a_hp a_hl a_lv a_l a_g a_b a_p a_w a_bb a_sn s.heap.size e_fu e_le e_st e_fo e_lc e_s e_wa e_gb h_e_s) (cwV 0 hts gV_X7_134 rfl rfl rfl hv_X7_allSightings ⟨Nat.le_of_ble_eq_true rfl, Nat.le_of_ble_eq_true rfl⟩) (g5_preV hPc hK hDc hN hT hS hFc (ci := 7) (q0 := 0) rfl rfl) rfl rfl hl.1 rfl (lv_room (Nat.le_of_ble_eq_true rfl)) dX7_findCore_1 ⟨Nat.le_of_ble_eq_true rfl, Nat.le_of_ble_eq_true rfl⟩) hS (fun q _ h => hFc q h) hFc (fun r u t H locs ht hvm hw hB hz1 hk1 hS => ?_)
  obtain ⟨hP1, hD1⟩ := hB
  have hP1 := g5_ht ht hP1
  obtain ⟨z1, y2, rfl⟩ := hw
  have hJ9 := va_join (wr := [(a_k, (oc5 a_h a_j a_pt e_ln e_se e_lh e_br e_we e_me e_ce e_wy e_ho e_ov)), (a_g, (oc6 6 5 a_gn e_g)), (a_gn, (arI G 30 f_g)), (a_b, (oc6 5 24 a_bn e_b)), (a_bn, (arI G 120 f_b)), (a_p, (oc6 8 5 a_pn e_p)), (a_pn, (arI G 40 f_p)), (a_sn, (arI G 40 f_s)), (a_bb, (arJ G 24 f_bb)), (a_j, (oc2 a_as a_sk)), (a_as, (arI G 8 f_as)), (a_sk, (arJ G 50 f_sk)), (a_l, (arW G 6 f_l)), (a_lo, (oc3 e_cl a_hd a_sr a_cd)), (a_sr, (arI G n_sr f_sr)), (a_cd, (arI G n_cd f_cd)), (a_hd, (arI G n_hd f_hd)), (a_pt, (arI G 200 f_pt)), (a_ba, (arJ G 24 f_ba)), (a_ad, (arI G 1536 f_ad)), (a_hp, (arI G 1536 f_hp))]) hP hD [20, 1, 8] [0, 2, 3, 4, 5, 6, 7, 9, 10, 11, 12, 13, 14, 15, 16, 17, 18, 19, 21, 22, 23] rfl rfl (by decide +kernel) (by decide +kernel) hk1 hFc hP1 hD1
  clear hP hD hPc hDc hFc ht hvm hz1 hk1 hP1 hD1
  obtain ⟨hP, hD⟩ := hJ9
  refine g5_rs [(a_k, (oc5 a_h a_j a_pt e_ln e_se e_lh e_br e_we e_me e_ce e_wy e_ho e_ov)), (a_g, (oc6 6 5 a_gn e_g)), (a_gn, (arI G 30 f_g)), (a_b, (oc6 5 24 a_bn e_b)), (a_bn, (arI G 120 f_b)), (a_p, (oc6 8 5 a_pn e_p)), (a_pn, (arI G 40 f_p)), (a_sn, (arI G 40 f_s)), (a_bb, (arJ G 24 f_bb)), (a_j, (oc2 a_as a_sk)), (a_as, (arI G 8 f_as)), (a_sk, (arJ G 50 f_sk)), (a_l, (arW G 6 f_l)), (a_lo, (oc3 e_cl a_hd a_sr a_cd)), (a_sr, (arI G n_sr f_sr)), (a_cd, (arI G n_cd f_cd)), (a_hd, (arI G n_hd f_hd)), (a_pt, (arI G 200 f_pt)), (a_ba, (arJ G 24 f_ba)), (a_ad, (arI G 1536 f_ad)), (a_hp, (arI G 1536 f_hp)), (a_th, (oc7 a_h a_k a_ba a_ad e_fu a_cn a_nx a_hp a_hl a_lv)), (a_h, (oc1 e_wa e_le e_st e_fo e_lc a_l a_g a_b a_s a_p a_w e_gb a_bb)), (a_s, (oc6 10 4 a_sn e_s))] hP hD ?_
  clear hP hD
  intro hP hD
  refine g5_ti (v := z1) y2 ?_
  refine lv_istore_n (lv' := [(1, .int z1), (0, .ref a_th)]) hx hb dX7_findCore_4 rfl hl (by decide +kernel) rfl ?_
  clear hl
  intro ls hl
  refine lv_aload_n hx hb dX7_findCore_5 rfl (lv_at hl 1 rfl) ?_
  refine W.eq (g2 := F0 m 6 ls [.ref a_th]) rfl ?_
  refine lv_iload_n hx hb dX7_findCore_6 rfl (lv_at hl 0 rfl) ?_
  obtain ⟨hPc, hDc, hFc⟩ := g5_sub3 (wc := [(a_k, (oc5 a_h a_j a_pt e_ln e_se e_lh e_br e_we e_me e_ce e_wy e_ho e_ov)), (a_h, (oc1 e_wa e_le e_st e_fo e_lc a_l a_g a_b a_s a_p a_w e_gb a_bb)), (a_g, (oc6 6 5 a_gn e_g)), (a_gn, (arI G 30 f_g)), (a_b, (oc6 5 24 a_bn e_b)), (a_bn, (arI G 120 f_b)), (a_p, (oc6 8 5 a_pn e_p)), (a_pn, (arI G 40 f_p)), (a_s, (oc6 10 4 a_sn e_s)), (a_sn, (arI G 40 f_s)), (a_bb, (arJ G 24 f_bb)), (a_j, (oc2 a_as a_sk)), (a_as, (arI G 8 f_as)), (a_sk, (arJ G 50 f_sk)), (a_l, (arW G 6 f_l)), (a_lo, (oc3 e_cl a_hd a_sr a_cd)), (a_sr, (arI G n_sr f_sr)), (a_cd, (arI G n_cd f_cd)), (a_hd, (arI G n_hd f_hd)), (a_pt, (arI G 200 f_pt)), (a_th, (oc7 a_h a_k a_ba a_ad e_fu a_cn a_nx a_hp a_hl a_lv)), (a_ba, (arJ G 24 f_ba)), (a_ad, (arI G 1536 f_ad))]) hP hD hS hA [0, 22, 1, 2, 3, 4, 5, 6, 23, 7, 8, 9, 10, 11, 12, 13, 14, 15, 16, 17, 21, 18, 19] (by decide +kernel) rfl
  refine va_callv (va_runV (As := [.int z1]) (rest := []) ⟨hx, hb, hml, hown, hts⟩ (th_loadL l G a_k a_h a_g a_gn a_b a_bn a_p a_pn a_s a_sn a_bb a_j a_as a_sk a_l a_lo a_sr a_cd a_hd a_pt a_th a_ba a_ad a_w a_cn a_nx a_hp a_hl a_lv H.size e_le e_st e_fo e_lc e_g e_b e_p e_s e_cl e_ln e_se e_lh e_br e_we e_me e_ce e_wy e_ho e_ov e_fu z1 e_wa e_gb f_g f_b f_p f_s f_bb f_as f_sk f_l f_sr f_cd f_hd f_pt f_ba f_ad n_sr n_cd n_hd h_e_g h_e_b h_e_p h_e_s h_e_cl h_e_ov (e_gk) (e_pk) (e_gi) (e_sh) (e_s5) (e_f) (e_a) (e_hn) (e_hs) (e_hk) (e_c)) (cwV 1 hts gV_X7_138 rfl rfl rfl hv_X7_load ⟨Nat.le_of_ble_eq_true rfl, Nat.le_of_ble_eq_true rfl⟩) (g5_preV hPc hK hDc hN hT hS hFc (ci := 7) (q0 := 20) rfl rfl) rfl rfl hl.1 rfl (lv_room (Nat.le_of_ble_eq_true rfl)) dX7_findCore_7 ⟨Nat.le_of_ble_eq_true rfl, Nat.le_of_ble_eq_true rfl⟩) hS (fun q _ h => hFc q h) hFc (fun u t H locs ht hvm hw hB hz1 hk1 hS => ?_)
  obtain ⟨hP1, hD1⟩ := hB
  have hP1 := g5_ht ht hP1
  obtain ⟨z5, z6, z7, z8, z9, z10, z11, z12, z13, z14, z15, z16, z17, z18, z19, z20, (i_3 : 0 ≤ z14.toInt ∧ z14.toInt ≤ 1), (i_4 : TOK z18 z20), rfl⟩ := hw
  have hJ9 := va_join (wr := [(a_hp, (arI G 1536 f_hp))]) hP hD [0, 22, 1, 2, 3, 4, 5, 6, 23, 7, 8, 9, 10, 11, 12, 13, 14, 15, 16, 17, 21, 18, 19] [20] rfl rfl (by decide +kernel) (by decide +kernel) hk1 hFc hP1 hD1
  clear hP hD hPc hDc hFc ht hvm hz1 hk1 hP1 hD1
  obtain ⟨hP, hD⟩ := hJ9
  refine g5_rs [(a_hp, (arI G 1536 f_hp)), (a_k, (oc5 a_h a_j a_pt z5 z6 z7 z8 z9 z10 z11 z12 z13 z14)), (a_h, (oc1 e_wa e_le e_st e_fo e_lc a_l a_g a_b a_s a_p a_w e_gb a_bb)), (a_g, (oc6 6 5 a_gn e_g)), (a_gn, (arI G 30 f_g)), (a_b, (oc6 5 24 a_bn e_b)), (a_bn, (arI G 120 f_b)), (a_p, (oc6 8 5 a_pn e_p)), (a_pn, (arI G 40 f_p)), (a_s, (oc6 10 4 a_sn e_s)), (a_sn, (arI G 40 f_s)), (a_bb, (arJ G 24 f_bb)), (a_j, (oc2 a_as a_sk)), (a_as, (arI G 8 z16)), (a_sk, (arJ G 50 z17)), (a_l, (arW G 6 f_l)), (a_lo, (oc3 e_cl a_hd a_sr a_cd)), (a_sr, (arI G n_sr f_sr)), (a_cd, (arI G n_cd f_cd)), (a_hd, (arI G n_hd f_hd)), (a_pt, (arI G 200 z15)), (a_th, (oc7 a_h a_k a_ba a_ad z18 a_cn a_nx a_hp a_hl a_lv)), (a_ba, (arJ G 24 z19)), (a_ad, (arI G 1536 z20))] hP hD ?_
  clear hP hD
  intro hP hD
  refine lv_aload_n hx hb dX7_findCore_10 rfl (lv_at hl 1 rfl) ?_
  obtain ⟨hPc, hDc, hFc⟩ := g5_sub3 (wc := [(a_th, (oc7 a_h a_k a_ba a_ad z18 a_cn a_nx a_hp a_hl a_lv)), (a_ba, (arJ G 24 z19)), (a_ad, (arI G 1536 z20)), (a_hp, (arI G 1536 f_hp))]) hP hD hS hA [21, 22, 23, 0] (by decide +kernel) rfl
  refine va_calli (va_runV (As := []) (rest := []) ⟨hx, hb, hml, hown, hts⟩ (th_anyFits l G a_th a_ba a_ad a_hp a_h a_k a_cn a_nx a_hl a_lv H.size z18 z19 z20 f_hp) (cwV 0 hts gV_X7_117 rfl rfl rfl hv_X7_anyFits ⟨Nat.le_of_ble_eq_true rfl, Nat.le_of_ble_eq_true rfl⟩) (g5_preV hPc hK hDc hN hT hS hFc (ci := 7) (q0 := 0) rfl rfl) rfl rfl hl.1 rfl (lv_room (Nat.le_of_ble_eq_true rfl)) dX7_findCore_11 ⟨Nat.le_of_ble_eq_true rfl, Nat.le_of_ble_eq_true rfl⟩) hS (fun q _ h => hFc q h) hFc (fun r u t H locs ht hvm hw hB hz1 hk1 hS => ?_)
  obtain ⟨hP1, hD1⟩ := hB
  have hP1 := g5_ht ht hP1
  obtain ⟨z22, z23, (i_21 : 0 ≤ z22.toInt ∧ z22.toInt ≤ 1), y24, rfl⟩ := hw
  have hJ9 := va_join (wr := [(a_k, (oc5 a_h a_j a_pt z5 z6 z7 z8 z9 z10 z11 z12 z13 z14)), (a_h, (oc1 e_wa e_le e_st e_fo e_lc a_l a_g a_b a_s a_p a_w e_gb a_bb)), (a_g, (oc6 6 5 a_gn e_g)), (a_gn, (arI G 30 f_g)), (a_b, (oc6 5 24 a_bn e_b)), (a_bn, (arI G 120 f_b)), (a_p, (oc6 8 5 a_pn e_p)), (a_pn, (arI G 40 f_p)), (a_s, (oc6 10 4 a_sn e_s)), (a_sn, (arI G 40 f_s)), (a_bb, (arJ G 24 f_bb)), (a_j, (oc2 a_as a_sk)), (a_as, (arI G 8 z16)), (a_sk, (arJ G 50 z17)), (a_l, (arW G 6 f_l)), (a_lo, (oc3 e_cl a_hd a_sr a_cd)), (a_sr, (arI G n_sr f_sr)), (a_cd, (arI G n_cd f_cd)), (a_hd, (arI G n_hd f_hd)), (a_pt, (arI G 200 z15))]) hP hD [21, 22, 23, 0] [1, 2, 3, 4, 5, 6, 7, 8, 9, 10, 11, 12, 13, 14, 15, 16, 17, 18, 19, 20] rfl rfl (by decide +kernel) (by decide +kernel) hk1 hFc hP1 hD1
  clear hP hD hPc hDc hFc ht hvm hz1 hk1 hP1 hD1
  obtain ⟨hP, hD⟩ := hJ9
  refine g5_rs [(a_k, (oc5 a_h a_j a_pt z5 z6 z7 z8 z9 z10 z11 z12 z13 z14)), (a_h, (oc1 e_wa e_le e_st e_fo e_lc a_l a_g a_b a_s a_p a_w e_gb a_bb)), (a_g, (oc6 6 5 a_gn e_g)), (a_gn, (arI G 30 f_g)), (a_b, (oc6 5 24 a_bn e_b)), (a_bn, (arI G 120 f_b)), (a_p, (oc6 8 5 a_pn e_p)), (a_pn, (arI G 40 f_p)), (a_s, (oc6 10 4 a_sn e_s)), (a_sn, (arI G 40 f_s)), (a_bb, (arJ G 24 f_bb)), (a_j, (oc2 a_as a_sk)), (a_as, (arI G 8 z16)), (a_sk, (arJ G 50 z17)), (a_l, (arW G 6 f_l)), (a_lo, (oc3 e_cl a_hd a_sr a_cd)), (a_sr, (arI G n_sr f_sr)), (a_cd, (arI G n_cd f_cd)), (a_hd, (arI G n_hd f_hd)), (a_pt, (arI G 200 z15)), (a_th, (oc7 a_h a_k a_ba a_ad z18 a_cn a_nx a_hp a_hl a_lv)), (a_ba, (arJ G 24 z19)), (a_ad, (arI G 1536 z20)), (a_hp, (arI G 1536 z23))] hP hD ?_
  clear hP hD
  intro hP hD
  refine g5_ti (v := z22) y24 ?_
  refine lv_if_eq (tgt := 19) hx hb dX7_findCore_14 (by decide +kernel) (fun c_25 => ?_) (fun c_25 => ?_)
  ·
    have i_25 : z22.toInt = 0 := g5_eq (a := z22.toInt) (b := 0) rfl (by decide +kernel) c_25
    refine lv_aload_n hx hb dX7_findCore_19 rfl (lv_at hl 1 rfl) ?_
    refine lv_iconst (v := 0) hx hb dX7_findCore_20 (by decide +kernel) ?_
    obtain ⟨hPc, hDc, hFc⟩ := g5_sub3 (wc := [(a_k, (oc5 a_h a_j a_pt z5 z6 z7 z8 z9 z10 z11 z12 z13 z14)), (a_h, (oc1 e_wa e_le e_st e_fo e_lc a_l a_g a_b a_s a_p a_w e_gb a_bb)), (a_g, (oc6 6 5 a_gn e_g)), (a_gn, (arI G 30 f_g)), (a_b, (oc6 5 24 a_bn e_b)), (a_bn, (arI G 120 f_b)), (a_p, (oc6 8 5 a_pn e_p)), (a_pn, (arI G 40 f_p)), (a_s, (oc6 10 4 a_sn e_s)), (a_sn, (arI G 40 f_s)), (a_bb, (arJ G 24 f_bb)), (a_j, (oc2 a_as a_sk)), (a_as, (arI G 8 z16)), (a_sk, (arJ G 50 z17)), (a_l, (arW G 6 f_l)), (a_lo, (oc3 e_cl a_hd a_sr a_cd)), (a_sr, (arI G n_sr f_sr)), (a_cd, (arI G n_cd f_cd)), (a_hd, (arI G n_hd f_hd)), (a_pt, (arI G 200 z15)), (a_th, (oc7 a_h a_k a_ba a_ad z18 a_cn a_nx a_hp a_hl a_lv)), (a_ba, (arJ G 24 z19)), (a_ad, (arI G 1536 z20))]) hP hD hS hA [0, 1, 2, 3, 4, 5, 6, 7, 8, 9, 10, 11, 12, 13, 14, 15, 16, 17, 18, 19, 20, 21, 22] (by decide +kernel) rfl
    refine va_callv (va_runV (As := [.int 0]) (rest := []) ⟨hx, hb, hml, hown, hts⟩ (th_loadL l G a_k a_h a_g a_gn a_b a_bn a_p a_pn a_s a_sn a_bb a_j a_as a_sk a_l a_lo a_sr a_cd a_hd a_pt a_th a_ba a_ad a_w a_cn a_nx a_hp a_hl a_lv H.size e_le e_st e_fo e_lc e_g e_b e_p e_s e_cl z5 z6 z7 z8 z9 z10 z11 z12 z13 z14 z18 0 e_wa e_gb f_g f_b f_p f_s f_bb z16 z17 f_l f_sr f_cd f_hd z15 z19 z20 n_sr n_cd n_hd h_e_g h_e_b h_e_p h_e_s h_e_cl i_3 (e_gk) (e_pk) (e_gi) (e_sh) (e_s5) (e_f) (e_a) (e_hn) (e_hs) (e_hk) (e_c)) (cwV 1 hts gV_X7_138 rfl rfl rfl hv_X7_load ⟨Nat.le_of_ble_eq_true rfl, Nat.le_of_ble_eq_true rfl⟩) (g5_preV hPc hK hDc hN hT hS hFc (ci := 7) (q0 := 20) rfl rfl) rfl rfl hl.1 rfl (lv_room (Nat.le_of_ble_eq_true rfl)) dX7_findCore_21 ⟨Nat.le_of_ble_eq_true rfl, Nat.le_of_ble_eq_true rfl⟩) hS (fun q _ h => hFc q h) hFc (fun u t H locs ht hvm hw hB hz1 hk1 hS => ?_)
    obtain ⟨hP1, hD1⟩ := hB
    have hP1 := g5_ht ht hP1
    obtain ⟨z28, z29, z30, z31, z32, z33, z34, z35, z36, z37, z38, z39, z40, z41, z42, z43, (i_26 : 0 ≤ z37.toInt ∧ z37.toInt ≤ 1), (i_27 : TOK z41 z43), rfl⟩ := hw
    have hJ9 := va_join (wr := [(a_hp, (arI G 1536 z23))]) hP hD [0, 1, 2, 3, 4, 5, 6, 7, 8, 9, 10, 11, 12, 13, 14, 15, 16, 17, 18, 19, 20, 21, 22] [23] rfl rfl (by decide +kernel) (by decide +kernel) hk1 hFc hP1 hD1
    clear hP hD hPc hDc hFc ht hvm hz1 hk1 hP1 hD1
    obtain ⟨hP, hD⟩ := hJ9
    refine g5_rs [(a_hp, (arI G 1536 z23)), (a_k, (oc5 a_h a_j a_pt z28 z29 z30 z31 z32 z33 z34 z35 z36 z37)), (a_h, (oc1 e_wa e_le e_st e_fo e_lc a_l a_g a_b a_s a_p a_w e_gb a_bb)), (a_g, (oc6 6 5 a_gn e_g)), (a_gn, (arI G 30 f_g)), (a_b, (oc6 5 24 a_bn e_b)), (a_bn, (arI G 120 f_b)), (a_p, (oc6 8 5 a_pn e_p)), (a_pn, (arI G 40 f_p)), (a_s, (oc6 10 4 a_sn e_s)), (a_sn, (arI G 40 f_s)), (a_bb, (arJ G 24 f_bb)), (a_j, (oc2 a_as a_sk)), (a_as, (arI G 8 z39)), (a_sk, (arJ G 50 z40)), (a_l, (arW G 6 f_l)), (a_lo, (oc3 e_cl a_hd a_sr a_cd)), (a_sr, (arI G n_sr f_sr)), (a_cd, (arI G n_cd f_cd)), (a_hd, (arI G n_hd f_hd)), (a_pt, (arI G 200 z38)), (a_th, (oc7 a_h a_k a_ba a_ad z41 a_cn a_nx a_hp a_hl a_lv)), (a_ba, (arJ G 24 z42)), (a_ad, (arI G 1536 z43))] hP hD ?_
    clear hP hD
    intro hP hD
    refine lv_aload_n hx hb dX7_findCore_24 rfl (lv_at hl 1 rfl) ?_
    refine W.eq (g2 := F0 m 25 ls [.ref a_th]) rfl ?_
    obtain ⟨hPc, hDc, hFc⟩ := g5_sub3 (wc := [(a_th, (oc7 a_h a_k a_ba a_ad z41 a_cn a_nx a_hp a_hl a_lv)), (a_ba, (arJ G 24 z42)), (a_ad, (arI G 1536 z43)), (a_hp, (arI G 1536 z23))]) hP hD hS hA [21, 22, 23, 0] (by decide +kernel) rfl
    refine va_calli (va_runV (As := []) (rest := []) ⟨hx, hb, hml, hown, hts⟩ (th_anyFits l G a_th a_ba a_ad a_hp a_h a_k a_cn a_nx a_hl a_lv H.size z41 z42 z43 z23) (cwV 0 hts gV_X7_117 rfl rfl rfl hv_X7_anyFits ⟨Nat.le_of_ble_eq_true rfl, Nat.le_of_ble_eq_true rfl⟩) (g5_preV hPc hK hDc hN hT hS hFc (ci := 7) (q0 := 0) rfl rfl) rfl rfl hl.1 rfl (lv_room (Nat.le_of_ble_eq_true rfl)) dX7_findCore_25 ⟨Nat.le_of_ble_eq_true rfl, Nat.le_of_ble_eq_true rfl⟩) hS (fun q _ h => hFc q h) hFc (fun r u t H locs ht hvm hw hB hz1 hk1 hS => ?_)
    obtain ⟨hP1, hD1⟩ := hB
    have hP1 := g5_ht ht hP1
    obtain ⟨z45, z46, (i_44 : 0 ≤ z45.toInt ∧ z45.toInt ≤ 1), y47, rfl⟩ := hw
    have hJ9 := va_join (wr := [(a_k, (oc5 a_h a_j a_pt z28 z29 z30 z31 z32 z33 z34 z35 z36 z37)), (a_h, (oc1 e_wa e_le e_st e_fo e_lc a_l a_g a_b a_s a_p a_w e_gb a_bb)), (a_g, (oc6 6 5 a_gn e_g)), (a_gn, (arI G 30 f_g)), (a_b, (oc6 5 24 a_bn e_b)), (a_bn, (arI G 120 f_b)), (a_p, (oc6 8 5 a_pn e_p)), (a_pn, (arI G 40 f_p)), (a_s, (oc6 10 4 a_sn e_s)), (a_sn, (arI G 40 f_s)), (a_bb, (arJ G 24 f_bb)), (a_j, (oc2 a_as a_sk)), (a_as, (arI G 8 z39)), (a_sk, (arJ G 50 z40)), (a_l, (arW G 6 f_l)), (a_lo, (oc3 e_cl a_hd a_sr a_cd)), (a_sr, (arI G n_sr f_sr)), (a_cd, (arI G n_cd f_cd)), (a_hd, (arI G n_hd f_hd)), (a_pt, (arI G 200 z38))]) hP hD [21, 22, 23, 0] [1, 2, 3, 4, 5, 6, 7, 8, 9, 10, 11, 12, 13, 14, 15, 16, 17, 18, 19, 20] rfl rfl (by decide +kernel) (by decide +kernel) hk1 hFc hP1 hD1
    clear hP hD hPc hDc hFc ht hvm hz1 hk1 hP1 hD1
    obtain ⟨hP, hD⟩ := hJ9
    refine g5_rs [(a_k, (oc5 a_h a_j a_pt z28 z29 z30 z31 z32 z33 z34 z35 z36 z37)), (a_h, (oc1 e_wa e_le e_st e_fo e_lc a_l a_g a_b a_s a_p a_w e_gb a_bb)), (a_g, (oc6 6 5 a_gn e_g)), (a_gn, (arI G 30 f_g)), (a_b, (oc6 5 24 a_bn e_b)), (a_bn, (arI G 120 f_b)), (a_p, (oc6 8 5 a_pn e_p)), (a_pn, (arI G 40 f_p)), (a_s, (oc6 10 4 a_sn e_s)), (a_sn, (arI G 40 f_s)), (a_bb, (arJ G 24 f_bb)), (a_j, (oc2 a_as a_sk)), (a_as, (arI G 8 z39)), (a_sk, (arJ G 50 z40)), (a_l, (arW G 6 f_l)), (a_lo, (oc3 e_cl a_hd a_sr a_cd)), (a_sr, (arI G n_sr f_sr)), (a_cd, (arI G n_cd f_cd)), (a_hd, (arI G n_hd f_hd)), (a_pt, (arI G 200 z38)), (a_th, (oc7 a_h a_k a_ba a_ad z41 a_cn a_nx a_hp a_hl a_lv)), (a_ba, (arJ G 24 z42)), (a_ad, (arI G 1536 z43)), (a_hp, (arI G 1536 z46))] hP hD ?_
    clear hP hD
    intro hP hD
    refine g5_ti (v := z45) y47 ?_
    refine lv_if_ne (tgt := 33) hx hb dX7_findCore_28 (by decide +kernel) (fun c_48 => ?_) (fun c_48 => ?_)
    ·
      have n_48 : gNe (z45.toInt) (0) := g5_ne (a := z45.toInt) (b := 0) rfl (by decide +kernel) c_48
      have i_48 : z45.toInt ≥ 1 := by have z := g5_ne (a := z45.toInt) (b := 0) (by rfl) (by decide +kernel) c_48; omega
      refine lv_iconst (v := 0) hx hb dX7_findCore_33 (by decide +kernel) ?_
      refine lv_istore_n (lv' := [(2, .int 0), (1, .int z1), (0, .ref a_th)]) hx hb dX7_findCore_34 rfl hl (by decide +kernel) rfl ?_
      clear hl
      intro ls hl
      refine g5_loop (α := (Int32) × (Int32) × (Int32) × (Int32) × (Int32) × (Int32) × (Int32) × (Int32) × (Int32) × (Int32) × (Int32) × (Nat → Int32) × (Nat → Int32) × (Nat → Int64) × (Int32) × (Int32) × (Nat → Int64) × (Nat → Int32) × (Nat → Int32)) (fun (q : (Int32) × (Int32) × (Int32) × (Int32) × (Int32) × (Int32) × (Int32) × (Int32) × (Int32) × (Int32) × (Int32) × (Nat → Int32) × (Nat → Int32) × (Nat → Int64) × (Int32) × (Int32) × (Nat → Int64) × (Nat → Int32) × (Nat → Int32)) (ls : Array Slot) (H : Heap) (locs : List Loc) => match q with | (k_b, k_i, k_se, k_lh, k_br, k_we, k_me, k_ce, k_wy, k_ho, k_ov, k_pt, k_as, k_sk, k_ln, k_fu, k_ba, k_ad, k_hp) => lv_has ls 3 [(1, .int k_b), (2, .int k_i), (0, .ref a_th)] ∧ va_P G.1 vwCl [(a_k, (oc5 a_h a_j a_pt k_ln k_se k_lh k_br k_we k_me k_ce k_wy k_ho k_ov)), (a_h, (oc1 e_wa e_le e_st e_fo e_lc a_l a_g a_b a_s a_p a_w e_gb a_bb)), (a_g, (oc6 6 5 a_gn e_g)), (a_gn, (arI G 30 f_g)), (a_b, (oc6 5 24 a_bn e_b)), (a_bn, (arI G 120 f_b)), (a_p, (oc6 8 5 a_pn e_p)), (a_pn, (arI G 40 f_p)), (a_s, (oc6 10 4 a_sn e_s)), (a_sn, (arI G 40 f_s)), (a_bb, (arJ G 24 f_bb)), (a_j, (oc2 a_as a_sk)), (a_as, (arI G 8 k_as)), (a_sk, (arJ G 50 k_sk)), (a_l, (arW G 6 f_l)), (a_lo, (oc3 e_cl a_hd a_sr a_cd)), (a_sr, (arI G n_sr f_sr)), (a_cd, (arI G n_cd f_cd)), (a_hd, (arI G n_hd f_hd)), (a_pt, (arI G 200 k_pt)), (a_th, (oc7 a_h a_k a_ba a_ad k_fu a_cn a_nx a_hp a_hl a_lv)), (a_ba, (arJ G 24 k_ba)), (a_ad, (arI G 1536 k_ad)), (a_hp, (arI G 1536 k_hp))] H ∧ va_D A [(a_k, (oc5 a_h a_j a_pt k_ln k_se k_lh k_br k_we k_me k_ce k_wy k_ho k_ov)), (a_h, (oc1 e_wa e_le e_st e_fo e_lc a_l a_g a_b a_s a_p a_w e_gb a_bb)), (a_g, (oc6 6 5 a_gn e_g)), (a_gn, (arI G 30 f_g)), (a_b, (oc6 5 24 a_bn e_b)), (a_bn, (arI G 120 f_b)), (a_p, (oc6 8 5 a_pn e_p)), (a_pn, (arI G 40 f_p)), (a_s, (oc6 10 4 a_sn e_s)), (a_sn, (arI G 40 f_s)), (a_bb, (arJ G 24 f_bb)), (a_j, (oc2 a_as a_sk)), (a_as, (arI G 8 k_as)), (a_sk, (arJ G 50 k_sk)), (a_l, (arW G 6 f_l)), (a_lo, (oc3 e_cl a_hd a_sr a_cd)), (a_sr, (arI G n_sr f_sr)), (a_cd, (arI G n_cd f_cd)), (a_hd, (arI G n_hd f_hd)), (a_pt, (arI G 200 k_pt)), (a_th, (oc7 a_h a_k a_ba a_ad k_fu a_cn a_nx a_hp a_hl a_lv)), (a_ba, (arJ G 24 k_ba)), (a_ad, (arI G 1536 k_ad)), (a_hp, (arI G 1536 k_hp))] ∧ va_S A s.heap H locs ∧ (0 ≤ k_i.toInt ∧ k_i.toInt ≤ 10) ∧ (0 ≤ k_ov.toInt ∧ k_ov.toInt ≤ 1) ∧ (k_i.toInt ≤ e_s.toInt) ∧ (TOK k_fu k_ad)) (fun (q : (Int32) × (Int32) × (Int32) × (Int32) × (Int32) × (Int32) × (Int32) × (Int32) × (Int32) × (Int32) × (Int32) × (Nat → Int32) × (Nat → Int32) × (Nat → Int64) × (Int32) × (Int32) × (Nat → Int64) × (Nat → Int32) × (Nat → Int32)) => match q with | (k_b, k_i, k_se, k_lh, k_br, k_we, k_me, k_ce, k_wy, k_ho, k_ov, k_pt, k_as, k_sk, k_ln, k_fu, k_ba, k_ad, k_hp) => Int.toNat (10 - k_i.toInt)) (z1, 0, z29, z30, z31, z32, z33, z34, z35, z36, z37, z38, z39, z40, z28, z41, z42, z43, z46) ⟨lv_sub hl [1, 0, 2] rfl, hP, hD, hS, ⟨by decide, by decide⟩, i_26, by have z0 : (0 : Int32).toInt = 0 := (by decide +kernel); omega, i_27⟩ ?_
      rintro ⟨k_b, k_i, k_se, k_lh, k_br, k_we, k_me, k_ce, k_wy, k_ho, k_ov, k_pt, k_as, k_sk, k_ln, k_fu, k_ba, k_ad, k_hp⟩ ls H locs ⟨hl, hP, hD, hS, (i_49 : 0 ≤ k_i.toInt ∧ k_i.toInt ≤ 10), (i_50 : 0 ≤ k_ov.toInt ∧ k_ov.toInt ≤ 1), (i_51 : k_i.toInt ≤ e_s.toInt), (i_52 : TOK k_fu k_ad)⟩ ih_35_53
      replace hl : lv_has ls 3 [(1, .int k_b), (2, .int k_i), (0, .ref a_th)] := hl
      refine g5_rs [(a_k, (oc5 a_h a_j a_pt k_ln k_se k_lh k_br k_we k_me k_ce k_wy k_ho k_ov)), (a_h, (oc1 e_wa e_le e_st e_fo e_lc a_l a_g a_b a_s a_p a_w e_gb a_bb)), (a_g, (oc6 6 5 a_gn e_g)), (a_gn, (arI G 30 f_g)), (a_b, (oc6 5 24 a_bn e_b)), (a_bn, (arI G 120 f_b)), (a_p, (oc6 8 5 a_pn e_p)), (a_pn, (arI G 40 f_p)), (a_s, (oc6 10 4 a_sn e_s)), (a_sn, (arI G 40 f_s)), (a_bb, (arJ G 24 f_bb)), (a_j, (oc2 a_as a_sk)), (a_as, (arI G 8 k_as)), (a_sk, (arJ G 50 k_sk)), (a_l, (arW G 6 f_l)), (a_lo, (oc3 e_cl a_hd a_sr a_cd)), (a_sr, (arI G n_sr f_sr)), (a_cd, (arI G n_cd f_cd)), (a_hd, (arI G n_hd f_hd)), (a_pt, (arI G 200 k_pt)), (a_th, (oc7 a_h a_k a_ba a_ad k_fu a_cn a_nx a_hp a_hl a_lv)), (a_ba, (arJ G 24 k_ba)), (a_ad, (arI G 1536 k_ad)), (a_hp, (arI G 1536 k_hp))] hP hD ?_
      clear hP hD
      intro hP hD
      refine lv_iload_n hx hb dX7_findCore_35 rfl (lv_at hl 1 rfl) ?_
      refine lv_aload_n hx hb dX7_findCore_36 rfl (lv_at hl 2 rfl) ?_
      refine va_get (D := G.1) (ci := 7) (v := .ref a_h) (C := RX7) (T := TX7) (N := 10) hx hb hts inG_X7 hown hK hP 20 rfl rfl 0 (by decide +kernel) (hts _ fl_X7_34) (fun _ h9 => h9) rfl dX7_findCore_37 ?_
      refine va_get (D := G.1) (ci := 1) (v := .ref a_s) (C := RX1) (T := TX1) (N := 13) hx hb hts inG_X1 hown hK hP 1 rfl rfl 8 (by decide +kernel) (hts _ fl_X7_42) (fun _ h9 => h9) rfl dX7_findCore_40 ?_
      refine W.eq (g2 := F0 m 43 ls [.ref a_s, .int k_i]) rfl ?_
      refine va_get (D := G.1) (ci := 6) (v := .int e_s) (C := RX6) (T := TX6) (N := 4) hx hb hts inG_X6 hown hK hP 8 rfl rfl 3 (by decide +kernel) (hts _ fl_X7_48) (fun _ h9 => h9) rfl dX7_findCore_43 ?_
      refine lv_icmp_ge (tgt := 81) hx hb dX7_findCore_46 (by decide +kernel) (fun c_54 => ?_) (fun c_54 => ?_)
      ·
        have i_54 : k_i.toInt ≥ e_s.toInt := g5_ge (a := k_i.toInt) (b := e_s.toInt) rfl rfl c_54
        refine lv_iload_n hx hb dX7_findCore_81 rfl (lv_at hl 0 rfl) ?_
        exact W.iret (v := k_b) hx hb hr (fun t ht hW => ⟨⟨k_b, [(a_k, (oc5 a_h a_j a_pt k_ln k_se k_lh k_br k_we k_me k_ce k_wy k_ho k_ov)), (a_h, (oc1 e_wa e_le e_st e_fo e_lc a_l a_g a_b a_s a_p a_w e_gb a_bb)), (a_g, (oc6 6 5 a_gn e_g)), (a_gn, (arI G 30 f_g)), (a_b, (oc6 5 24 a_bn e_b)), (a_bn, (arI G 120 f_b)), (a_p, (oc6 8 5 a_pn e_p)), (a_pn, (arI G 40 f_p)), (a_s, (oc6 10 4 a_sn e_s)), (a_sn, (arI G 40 f_s)), (a_bb, (arJ G 24 f_bb)), (a_j, (oc2 a_as a_sk)), (a_as, (arI G 8 k_as)), (a_sk, (arJ G 50 k_sk)), (a_l, (arW G 6 f_l)), (a_lo, (oc3 e_cl a_hd a_sr a_cd)), (a_sr, (arI G n_sr f_sr)), (a_cd, (arI G n_cd f_cd)), (a_hd, (arI G n_hd f_hd)), (a_pt, (arI G 200 k_pt)), (a_th, (oc7 a_h a_k a_ba a_ad k_fu a_cn a_nx a_hp a_hl a_lv)), (a_ba, (arJ G 24 k_ba)), (a_ad, (arI G 1536 k_ad)), (a_hp, (arI G 1536 k_hp))], rfl, ⟨k_b, k_ln, k_se, k_lh, k_br, k_we, k_me, k_ce, k_wy, k_ho, k_ov, k_pt, k_as, k_sk, k_fu, k_ba, k_ad, k_hp, i_50, i_52, rfl, rfl⟩, by rw [ht]; exact hP.sub [0, 1, 2, 3, 4, 5, 6, 7, 8, 9, 10, 11, 12, 13, 14, 15, 16, 17, 18, 19, 20, 21, 22, 23] rfl, hD.sub [0, 1, 2, 3, 4, 5, 6, 7, 8, 9, 10, 11, 12, 13, 14, 15, 16, 17, 18, 19, 20, 21, 22, 23] (by decide +kernel) rfl⟩, hS.F ht⟩) hS.2.2 dX7_findCore_82
      ·
        have i_54 : k_i.toInt < e_s.toInt := g5_geN (a := k_i.toInt) (b := e_s.toInt) rfl rfl c_54
        refine lv_aload_n hx hb dX7_findCore_49 rfl (lv_at hl 2 rfl) ?_
        refine lv_iload_n hx hb dX7_findCore_50 rfl (lv_at hl 0 rfl) ?_
        refine lv_iconst (v := 1) hx hb dX7_findCore_51 (by decide +kernel) ?_
        refine lv_iload_n hx hb dX7_findCore_52 rfl (lv_at hl 1 rfl) ?_
        refine W.eq (g2 := F0 m 53 ls [.int k_i, .int 1, .int k_b, .ref a_th]) rfl ?_
        refine lv_ishl hx hb dX7_findCore_53 ?_
        refine lv_iconst (v := (-1)) hx hb dX7_findCore_54 (by decide +kernel) ?_
        refine lv_ixor hx hb dX7_findCore_55 ?_
        refine lv_iand hx hb dX7_findCore_56 ?_
        obtain ⟨hPc, hDc, hFc⟩ := g5_sub3 (wc := [(a_k, (oc5 a_h a_j a_pt k_ln k_se k_lh k_br k_we k_me k_ce k_wy k_ho k_ov)), (a_h, (oc1 e_wa e_le e_st e_fo e_lc a_l a_g a_b a_s a_p a_w e_gb a_bb)), (a_g, (oc6 6 5 a_gn e_g)), (a_gn, (arI G 30 f_g)), (a_b, (oc6 5 24 a_bn e_b)), (a_bn, (arI G 120 f_b)), (a_p, (oc6 8 5 a_pn e_p)), (a_pn, (arI G 40 f_p)), (a_s, (oc6 10 4 a_sn e_s)), (a_sn, (arI G 40 f_s)), (a_bb, (arJ G 24 f_bb)), (a_j, (oc2 a_as a_sk)), (a_as, (arI G 8 k_as)), (a_sk, (arJ G 50 k_sk)), (a_l, (arW G 6 f_l)), (a_lo, (oc3 e_cl a_hd a_sr a_cd)), (a_sr, (arI G n_sr f_sr)), (a_cd, (arI G n_cd f_cd)), (a_hd, (arI G n_hd f_hd)), (a_pt, (arI G 200 k_pt)), (a_th, (oc7 a_h a_k a_ba a_ad k_fu a_cn a_nx a_hp a_hl a_lv)), (a_ba, (arJ G 24 k_ba)), (a_ad, (arI G 1536 k_ad))]) hP hD hS hA [0, 1, 2, 3, 4, 5, 6, 7, 8, 9, 10, 11, 12, 13, 14, 15, 16, 17, 18, 19, 20, 21, 22] (by decide +kernel) rfl
        refine va_callv (va_runV (As := [.int (k_b &&& ((1 <<< (k_i &&& 31)) ^^^ (-1)))]) (rest := []) ⟨hx, hb, hml, hown, hts⟩ (th_loadL l G a_k a_h a_g a_gn a_b a_bn a_p a_pn a_s a_sn a_bb a_j a_as a_sk a_l a_lo a_sr a_cd a_hd a_pt a_th a_ba a_ad a_w a_cn a_nx a_hp a_hl a_lv H.size e_le e_st e_fo e_lc e_g e_b e_p e_s e_cl k_ln k_se k_lh k_br k_we k_me k_ce k_wy k_ho k_ov k_fu (k_b &&& ((1 <<< (k_i &&& 31)) ^^^ (-1))) e_wa e_gb f_g f_b f_p f_s f_bb k_as k_sk f_l f_sr f_cd f_hd k_pt k_ba k_ad n_sr n_cd n_hd h_e_g h_e_b h_e_p h_e_s h_e_cl i_50 (e_gk) (e_pk) (e_gi) (e_sh) (e_s5) (e_f) (e_a) (e_hn) (e_hs) (e_hk) (e_c)) (cwV 1 hts gV_X7_138 rfl rfl rfl hv_X7_load ⟨Nat.le_of_ble_eq_true rfl, Nat.le_of_ble_eq_true rfl⟩) (g5_preV hPc hK hDc hN hT hS hFc (ci := 7) (q0 := 20) rfl rfl) rfl rfl hl.1 rfl (lv_room (Nat.le_of_ble_eq_true rfl)) dX7_findCore_57 ⟨Nat.le_of_ble_eq_true rfl, Nat.le_of_ble_eq_true rfl⟩) hS (fun q _ h => hFc q h) hFc (fun u t H locs ht hvm hw hB hz1 hk1 hS => ?_)
        obtain ⟨hP1, hD1⟩ := hB
        have hP1 := g5_ht ht hP1
        obtain ⟨z57, z58, z59, z60, z61, z62, z63, z64, z65, z66, z67, z68, z69, z70, z71, z72, (i_55 : 0 ≤ z66.toInt ∧ z66.toInt ≤ 1), (i_56 : TOK z70 z72), rfl⟩ := hw
        have hJ9 := va_join (wr := [(a_hp, (arI G 1536 k_hp))]) hP hD [0, 1, 2, 3, 4, 5, 6, 7, 8, 9, 10, 11, 12, 13, 14, 15, 16, 17, 18, 19, 20, 21, 22] [23] rfl rfl (by decide +kernel) (by decide +kernel) hk1 hFc hP1 hD1
        clear hP hD hPc hDc hFc ht hvm hz1 hk1 hP1 hD1
        obtain ⟨hP, hD⟩ := hJ9
        refine g5_rs [(a_hp, (arI G 1536 k_hp)), (a_k, (oc5 a_h a_j a_pt z57 z58 z59 z60 z61 z62 z63 z64 z65 z66)), (a_h, (oc1 e_wa e_le e_st e_fo e_lc a_l a_g a_b a_s a_p a_w e_gb a_bb)), (a_g, (oc6 6 5 a_gn e_g)), (a_gn, (arI G 30 f_g)), (a_b, (oc6 5 24 a_bn e_b)), (a_bn, (arI G 120 f_b)), (a_p, (oc6 8 5 a_pn e_p)), (a_pn, (arI G 40 f_p)), (a_s, (oc6 10 4 a_sn e_s)), (a_sn, (arI G 40 f_s)), (a_bb, (arJ G 24 f_bb)), (a_j, (oc2 a_as a_sk)), (a_as, (arI G 8 z68)), (a_sk, (arJ G 50 z69)), (a_l, (arW G 6 f_l)), (a_lo, (oc3 e_cl a_hd a_sr a_cd)), (a_sr, (arI G n_sr f_sr)), (a_cd, (arI G n_cd f_cd)), (a_hd, (arI G n_hd f_hd)), (a_pt, (arI G 200 z67)), (a_th, (oc7 a_h a_k a_ba a_ad z70 a_cn a_nx a_hp a_hl a_lv)), (a_ba, (arJ G 24 z71)), (a_ad, (arI G 1536 z72))] hP hD ?_
        clear hP hD
        intro hP hD
        refine W.eq (g2 := F0 m 60 ls []) rfl ?_
        refine lv_aload_n hx hb dX7_findCore_60 rfl (lv_at hl 2 rfl) ?_
        obtain ⟨hPc, hDc, hFc⟩ := g5_sub3 (wc := [(a_th, (oc7 a_h a_k a_ba a_ad z70 a_cn a_nx a_hp a_hl a_lv)), (a_ba, (arJ G 24 z71)), (a_ad, (arI G 1536 z72)), (a_hp, (arI G 1536 k_hp))]) hP hD hS hA [21, 22, 23, 0] (by decide +kernel) rfl
        refine va_calli (va_runV (As := []) (rest := []) ⟨hx, hb, hml, hown, hts⟩ (th_anyFits l G a_th a_ba a_ad a_hp a_h a_k a_cn a_nx a_hl a_lv H.size z70 z71 z72 k_hp) (cwV 0 hts gV_X7_117 rfl rfl rfl hv_X7_anyFits ⟨Nat.le_of_ble_eq_true rfl, Nat.le_of_ble_eq_true rfl⟩) (g5_preV hPc hK hDc hN hT hS hFc (ci := 7) (q0 := 0) rfl rfl) rfl rfl hl.1 rfl (lv_room (Nat.le_of_ble_eq_true rfl)) dX7_findCore_61 ⟨Nat.le_of_ble_eq_true rfl, Nat.le_of_ble_eq_true rfl⟩) hS (fun q _ h => hFc q h) hFc (fun r u t H locs ht hvm hw hB hz1 hk1 hS => ?_)
        obtain ⟨hP1, hD1⟩ := hB
        have hP1 := g5_ht ht hP1
        obtain ⟨z74, z75, (i_73 : 0 ≤ z74.toInt ∧ z74.toInt ≤ 1), y76, rfl⟩ := hw
        have hJ9 := va_join (wr := [(a_k, (oc5 a_h a_j a_pt z57 z58 z59 z60 z61 z62 z63 z64 z65 z66)), (a_h, (oc1 e_wa e_le e_st e_fo e_lc a_l a_g a_b a_s a_p a_w e_gb a_bb)), (a_g, (oc6 6 5 a_gn e_g)), (a_gn, (arI G 30 f_g)), (a_b, (oc6 5 24 a_bn e_b)), (a_bn, (arI G 120 f_b)), (a_p, (oc6 8 5 a_pn e_p)), (a_pn, (arI G 40 f_p)), (a_s, (oc6 10 4 a_sn e_s)), (a_sn, (arI G 40 f_s)), (a_bb, (arJ G 24 f_bb)), (a_j, (oc2 a_as a_sk)), (a_as, (arI G 8 z68)), (a_sk, (arJ G 50 z69)), (a_l, (arW G 6 f_l)), (a_lo, (oc3 e_cl a_hd a_sr a_cd)), (a_sr, (arI G n_sr f_sr)), (a_cd, (arI G n_cd f_cd)), (a_hd, (arI G n_hd f_hd)), (a_pt, (arI G 200 z67))]) hP hD [21, 22, 23, 0] [1, 2, 3, 4, 5, 6, 7, 8, 9, 10, 11, 12, 13, 14, 15, 16, 17, 18, 19, 20] rfl rfl (by decide +kernel) (by decide +kernel) hk1 hFc hP1 hD1
        clear hP hD hPc hDc hFc ht hvm hz1 hk1 hP1 hD1
        obtain ⟨hP, hD⟩ := hJ9
        refine g5_rs [(a_k, (oc5 a_h a_j a_pt z57 z58 z59 z60 z61 z62 z63 z64 z65 z66)), (a_h, (oc1 e_wa e_le e_st e_fo e_lc a_l a_g a_b a_s a_p a_w e_gb a_bb)), (a_g, (oc6 6 5 a_gn e_g)), (a_gn, (arI G 30 f_g)), (a_b, (oc6 5 24 a_bn e_b)), (a_bn, (arI G 120 f_b)), (a_p, (oc6 8 5 a_pn e_p)), (a_pn, (arI G 40 f_p)), (a_s, (oc6 10 4 a_sn e_s)), (a_sn, (arI G 40 f_s)), (a_bb, (arJ G 24 f_bb)), (a_j, (oc2 a_as a_sk)), (a_as, (arI G 8 z68)), (a_sk, (arJ G 50 z69)), (a_l, (arW G 6 f_l)), (a_lo, (oc3 e_cl a_hd a_sr a_cd)), (a_sr, (arI G n_sr f_sr)), (a_cd, (arI G n_cd f_cd)), (a_hd, (arI G n_hd f_hd)), (a_pt, (arI G 200 z67)), (a_th, (oc7 a_h a_k a_ba a_ad z70 a_cn a_nx a_hp a_hl a_lv)), (a_ba, (arJ G 24 z71)), (a_ad, (arI G 1536 z72)), (a_hp, (arI G 1536 z75))] hP hD ?_
        clear hP hD
        intro hP hD
        refine g5_ti (v := z74) y76 ?_
        refine lv_if_ne (tgt := 75) hx hb dX7_findCore_64 (by decide +kernel) (fun c_77 => ?_) (fun c_77 => ?_)
        ·
          have n_77 : gNe (z74.toInt) (0) := g5_ne (a := z74.toInt) (b := 0) rfl (by decide +kernel) c_77
          have i_77 : z74.toInt ≥ 1 := by have z := g5_ne (a := z74.toInt) (b := 0) (by rfl) (by decide +kernel) c_77; omega
          refine lv_iinc (v := (k_i + 1)) (lv' := [(2, .int (k_i + 1)), (1, .int k_b), (0, .ref a_th)]) hx hb dX7_findCore_75 hl (k := 1) rfl rfl (by decide +kernel) rfl ?_
          clear hl
          intro ls hl
          have t_78 : (k_i + 1).toInt = k_i.toInt + 1 := g5_iadd (a := k_i.toInt) (b := 1) rfl (by decide +kernel) (by omega) (by omega)
          refine lv_goto (tgt := 35) hx hb dX7_findCore_78 (by decide +kernel) ?_
          exact ih_35_53 (k_b, (k_i + 1), z58, z59, z60, z61, z62, z63, z64, z65, z66, z67, z68, z69, z57, z70, z71, z72, z75) ls H locs (show Int.toNat (10 - (k_i + 1).toInt) < Int.toNat (10 - k_i.toInt) from g_up (show k_i.toInt < (k_i + 1).toInt by omega) (show k_i.toInt < 10 by omega)) ⟨lv_sub hl [1, 0, 2] rfl, hP, hD, hS, ⟨by omega, by omega⟩, i_55, by omega, i_56⟩
        ·
          have i_77 : z74.toInt = 0 := g5_neN (a := z74.toInt) (b := 0) rfl (by decide +kernel) c_77
          refine lv_iload_n hx hb dX7_findCore_67 rfl (lv_at hl 0 rfl) ?_
          refine lv_iconst (v := 1) hx hb dX7_findCore_68 (by decide +kernel) ?_
          refine lv_iload_n hx hb dX7_findCore_69 rfl (lv_at hl 1 rfl) ?_
          refine lv_ishl hx hb dX7_findCore_70 ?_
          refine W.eq (g2 := F0 m 71 ls [.int (1 <<< (k_i &&& 31)), .int k_b]) rfl ?_
          refine lv_iconst (v := (-1)) hx hb dX7_findCore_71 (by decide +kernel) ?_
          refine lv_ixor hx hb dX7_findCore_72 ?_
          refine lv_iand hx hb dX7_findCore_73 ?_
          refine lv_istore_n (lv' := [(1, .int (k_b &&& ((1 <<< (k_i &&& 31)) ^^^ (-1)))), (2, .int k_i), (0, .ref a_th)]) hx hb dX7_findCore_74 rfl hl (by decide +kernel) rfl ?_
          clear hl
          intro ls hl
          refine lv_iinc (v := (k_i + 1)) (lv' := [(2, .int (k_i + 1)), (1, .int (k_b &&& ((1 <<< (k_i &&& 31)) ^^^ (-1)))), (0, .ref a_th)]) hx hb dX7_findCore_75 hl (k := 1) rfl rfl (by decide +kernel) rfl ?_
          clear hl
          intro ls hl
          have t_79 : (k_i + 1).toInt = k_i.toInt + 1 := g5_iadd (a := k_i.toInt) (b := 1) rfl (by decide +kernel) (by omega) (by omega)
          refine W.eq (g2 := F0 m 78 ls []) rfl ?_
          refine lv_goto (tgt := 35) hx hb dX7_findCore_78 (by decide +kernel) ?_
          exact ih_35_53 ((k_b &&& ((1 <<< (k_i &&& 31)) ^^^ (-1))), (k_i + 1), z58, z59, z60, z61, z62, z63, z64, z65, z66, z67, z68, z69, z57, z70, z71, z72, z75) ls H locs (show Int.toNat (10 - (k_i + 1).toInt) < Int.toNat (10 - k_i.toInt) from g_up (show k_i.toInt < (k_i + 1).toInt by omega) (show k_i.toInt < 10 by omega)) ⟨lv_sub hl [1, 0, 2] rfl, hP, hD, hS, ⟨by omega, by omega⟩, i_55, by omega, i_56⟩
    ·
      have i_48 : z45.toInt = 0 := g5_neN (a := z45.toInt) (b := 0) rfl (by decide +kernel) c_48
      refine lv_iconst (v := (-1)) hx hb dX7_findCore_31 (by decide +kernel) ?_
      exact W.iret (v := (-1)) hx hb hr (fun t ht hW => ⟨⟨(-1), [(a_k, (oc5 a_h a_j a_pt z28 z29 z30 z31 z32 z33 z34 z35 z36 z37)), (a_h, (oc1 e_wa e_le e_st e_fo e_lc a_l a_g a_b a_s a_p a_w e_gb a_bb)), (a_g, (oc6 6 5 a_gn e_g)), (a_gn, (arI G 30 f_g)), (a_b, (oc6 5 24 a_bn e_b)), (a_bn, (arI G 120 f_b)), (a_p, (oc6 8 5 a_pn e_p)), (a_pn, (arI G 40 f_p)), (a_s, (oc6 10 4 a_sn e_s)), (a_sn, (arI G 40 f_s)), (a_bb, (arJ G 24 f_bb)), (a_j, (oc2 a_as a_sk)), (a_as, (arI G 8 z39)), (a_sk, (arJ G 50 z40)), (a_l, (arW G 6 f_l)), (a_lo, (oc3 e_cl a_hd a_sr a_cd)), (a_sr, (arI G n_sr f_sr)), (a_cd, (arI G n_cd f_cd)), (a_hd, (arI G n_hd f_hd)), (a_pt, (arI G 200 z38)), (a_th, (oc7 a_h a_k a_ba a_ad z41 a_cn a_nx a_hp a_hl a_lv)), (a_ba, (arJ G 24 z42)), (a_ad, (arI G 1536 z43)), (a_hp, (arI G 1536 z46))], rfl, ⟨(-1), z28, z29, z30, z31, z32, z33, z34, z35, z36, z37, z38, z39, z40, z41, z42, z43, z46, i_26, i_27, rfl, rfl⟩, by rw [ht]; exact hP.sub [0, 1, 2, 3, 4, 5, 6, 7, 8, 9, 10, 11, 12, 13, 14, 15, 16, 17, 18, 19, 20, 21, 22, 23] rfl, hD.sub [0, 1, 2, 3, 4, 5, 6, 7, 8, 9, 10, 11, 12, 13, 14, 15, 16, 17, 18, 19, 20, 21, 22, 23] (by decide +kernel) rfl⟩, hS.F ht⟩) hS.2.2 dX7_findCore_32
  ·
    have n_25 : gNe (z22.toInt) (0) := g5_eqN (a := z22.toInt) (b := 0) rfl (by decide +kernel) c_25
    have i_25 : z22.toInt ≥ 1 := by have z := g5_eqN (a := z22.toInt) (b := 0) (by rfl) (by decide +kernel) c_25; omega
    refine lv_iconst (v := 0) hx hb dX7_findCore_17 (by decide +kernel) ?_
    exact W.iret (v := 0) hx hb hr (fun t ht hW => ⟨⟨0, [(a_k, (oc5 a_h a_j a_pt z5 z6 z7 z8 z9 z10 z11 z12 z13 z14)), (a_h, (oc1 e_wa e_le e_st e_fo e_lc a_l a_g a_b a_s a_p a_w e_gb a_bb)), (a_g, (oc6 6 5 a_gn e_g)), (a_gn, (arI G 30 f_g)), (a_b, (oc6 5 24 a_bn e_b)), (a_bn, (arI G 120 f_b)), (a_p, (oc6 8 5 a_pn e_p)), (a_pn, (arI G 40 f_p)), (a_s, (oc6 10 4 a_sn e_s)), (a_sn, (arI G 40 f_s)), (a_bb, (arJ G 24 f_bb)), (a_j, (oc2 a_as a_sk)), (a_as, (arI G 8 z16)), (a_sk, (arJ G 50 z17)), (a_l, (arW G 6 f_l)), (a_lo, (oc3 e_cl a_hd a_sr a_cd)), (a_sr, (arI G n_sr f_sr)), (a_cd, (arI G n_cd f_cd)), (a_hd, (arI G n_hd f_hd)), (a_pt, (arI G 200 z15)), (a_th, (oc7 a_h a_k a_ba a_ad z18 a_cn a_nx a_hp a_hl a_lv)), (a_ba, (arJ G 24 z19)), (a_ad, (arI G 1536 z20)), (a_hp, (arI G 1536 z23))], rfl, ⟨0, z5, z6, z7, z8, z9, z10, z11, z12, z13, z14, z15, z16, z17, z18, z19, z20, z23, i_3, i_4, rfl, rfl⟩, by rw [ht]; exact hP.sub [0, 1, 2, 3, 4, 5, 6, 7, 8, 9, 10, 11, 12, 13, 14, 15, 16, 17, 18, 19, 20, 21, 22, 23] rfl, hD.sub [0, 1, 2, 3, 4, 5, 6, 7, 8, 9, 10, 11, 12, 13, 14, 15, 16, 17, 18, 19, 20, 21, 22, 23] (by decide +kernel) rfl⟩, hS.F ht⟩) hS.2.2 dX7_findCore_18
theorem dgJ3_checkIndex_8e157_0 : ∀ r ∈ ([(0, (.iload_n 0, 1)), (1, (.ifCond .lt 8, 3)), (4, (.iload_n 0, 1)), (5, (.iload_n 1, 1)), (6, (.if_icmp .lt 10, 3)), (9, (.aload_n 2, 1)), (10, (.iload_n 0, 1)), (11, (.iload_n 1, 1)), (12, (.invokestatic 95, 3)), (15, (.athrow, 1)), (16, (.iload_n 0, 1)), (17, (.ireturn, 1))] : List (Nat × (Instr × Nat))), decode cJ3_checkIndex_8e157 r.1 = .ok r.2 := by decide +kernel
theorem dJ3_checkIndex_8e157_0 : decode cJ3_checkIndex_8e157 0 = .ok (.iload_n 0, 1) := dgJ3_checkIndex_8e157_0 (0, (.iload_n 0, 1)) (List.mem_of_getElem? (i := 0) rfl)
theorem dJ3_checkIndex_8e157_1 : decode cJ3_checkIndex_8e157 1 = .ok (.ifCond .lt 8, 3) := dgJ3_checkIndex_8e157_0 (1, (.ifCond .lt 8, 3)) (List.mem_of_getElem? (i := 1) rfl)
theorem dJ3_checkIndex_8e157_4 : decode cJ3_checkIndex_8e157 4 = .ok (.iload_n 0, 1) := dgJ3_checkIndex_8e157_0 (4, (.iload_n 0, 1)) (List.mem_of_getElem? (i := 2) rfl)
theorem dJ3_checkIndex_8e157_5 : decode cJ3_checkIndex_8e157 5 = .ok (.iload_n 1, 1) := dgJ3_checkIndex_8e157_0 (5, (.iload_n 1, 1)) (List.mem_of_getElem? (i := 3) rfl)
theorem dJ3_checkIndex_8e157_6 : decode cJ3_checkIndex_8e157 6 = .ok (.if_icmp .lt 10, 3) := dgJ3_checkIndex_8e157_0 (6, (.if_icmp .lt 10, 3)) (List.mem_of_getElem? (i := 4) rfl)
theorem dJ3_checkIndex_8e157_16 : decode cJ3_checkIndex_8e157 16 = .ok (.iload_n 0, 1) := dgJ3_checkIndex_8e157_0 (16, (.iload_n 0, 1)) (List.mem_of_getElem? (i := 10) rfl)
theorem dJ3_checkIndex_8e157_17 : decode cJ3_checkIndex_8e157 17 = .ok (.ireturn, 1) := dgJ3_checkIndex_8e157_0 (17, (.ireturn, 1)) (List.mem_of_getElem? (i := 11) rfl)
set_option maxHeartbeats 4000000 in
set_option maxRecDepth 100000 in
theorem s_preN (l : Launch) (G : g5_G) (sz : Nat) (p_i : Int32) (h_p_i : 0 ≤ p_i.toInt ∧ p_i.toInt ≤ 73) : Met l yJ3_checkIndex_8e157 (wsG yJ3_checkIndex_8e157 cJ3_checkIndex_8e157 3 (some .int)) ({ frames := 0, cells := 0, slots := 0, locals := 0 }) (va_Pc [.int p_i, .int 74, .null] (g5_P G [] sz)) (va_Qi (fun (r : Int32) (u : va_W) => ((r = p_i) ∧ (u = []))) (g5_B G (va_A [] sz)) (va_A [] sz)) 0 0 (va_A [] sz) := by
  refine Met.ofW (cc := cJ3_checkIndex_8e157) (maxL := 3) (ret := (some .int)) (by decide) rfl ?_
  intro p e s m args below meth c s₁ B hml hv
  obtain ⟨rfl, hsz, hP, hK, hD0, hN, hT⟩ := hv
  have hx := B.exec
  have hb := B.bytes
  have hr := B.returns
  have hts : ∀ w ∈ tblG, w.before _ s = true := fun w h => atoms_spec (ws := (wsG yJ3_checkIndex_8e157 cJ3_checkIndex_8e157 3 (some .int))) B.pre w (List.mem_cons_of_mem _ h)
  have hown : s.vm.findClass RJ3 = some m.cls := findClass_of_methodNamed B.named
  have hlocks := B.notSynchronized
  subst hsz
  have hD := hD0.self (sz := s.heap.size)
  generalize hAe : va_A [] s.heap.size = A at hD hT ⊢
  have hA : ∀ q : Nat, s.heap.size ≤ q → A q := fun q h => by rw [← hAe]; exact Or.inr h
  have hS : va_S A s.heap s.heap [] := va_S.rf
  have hP : va_P G.1 vwCl [] s.heap := hP
  have hl := lv_entry ([.int p_i, .int 74, .null]) (n := 3) (Nat.le_of_ble_eq_true rfl)
  rw [lg_entry_eq]
  generalize (lg_sl ([.int p_i, .int 74, .null]) ++ List.replicate (3 - (lg_sl ([.int p_i, .int 74, .null])).length) Slot.unset).toArray = ls at hl ⊢
  have hl : lv_has ls 3 [(0, .int p_i), (1, .int 74), (2, .null)] := hl
  refine lv_iload_n hx hb dJ3_checkIndex_8e157_0 rfl (lv_at hl 0 rfl) ?_
  refine lv_if_lt (tgt := 9) hx hb dJ3_checkIndex_8e157_1 (by decide) (fun c_1 => ?_) (fun c_1 => ?_)
  ·
    have i_1 : p_i.toInt < 0 := by have z := g5_lt (a := p_i.toInt) (b := 0) (by rfl) (by decide) c_1; omega
    omega
  ·
    have i_1 : p_i.toInt ≥ 0 := by have z := g5_ltN (a := p_i.toInt) (b := 0) (by rfl) (by decide) c_1; omega
    refine lv_iload_n hx hb dJ3_checkIndex_8e157_4 rfl (lv_at hl 0 rfl) ?_
    refine lv_iload_n hx hb dJ3_checkIndex_8e157_5 rfl (lv_at hl 1 rfl) ?_
    refine lv_icmp_lt (tgt := 16) hx hb dJ3_checkIndex_8e157_6 (by decide) (fun c_2 => ?_) (fun c_2 => ?_)
    ·
      have i_2 : p_i.toInt < 74 := by have z := g5_lt (a := p_i.toInt) (b := 74) (by rfl) (by decide) c_2; omega
      refine lv_iload_n hx hb dJ3_checkIndex_8e157_16 rfl (lv_at hl 0 rfl) ?_
      exact W.iret (v := p_i) hx hb hr (fun t ht hW => ⟨⟨p_i, [], rfl, ⟨rfl, rfl⟩, by rw [ht]; exact hP.sub [] rfl, hD.sub [] (by decide) rfl⟩, hS.F ht⟩) hS.2.2 dJ3_checkIndex_8e157_17
    ·
      have i_2 : p_i.toInt ≥ 74 := by have z := g5_ltN (a := p_i.toInt) (b := 74) (by rfl) (by decide) c_2; omega
      omega
set_option maxHeartbeats 4000000 in
set_option maxRecDepth 100000 in
theorem s_preR (l : Launch) (G : g5_G) (a_f : Nat) (sz : Nat) (p_i : Int32) (h_p_i : 0 ≤ p_i.toInt ∧ p_i.toInt ≤ 73) : Met l yJ3_checkIndex_8e157 (wsG yJ3_checkIndex_8e157 cJ3_checkIndex_8e157 3 (some .int)) ({ frames := 0, cells := 0, slots := 0, locals := 0 }) (va_Pc [.int p_i, .int 74, .ref a_f] (g5_P G [] sz)) (va_Qi (fun (r : Int32) (u : va_W) => ((r = p_i) ∧ (u = []))) (g5_B G (va_A [] sz)) (va_A [] sz)) 0 0 (va_A [] sz) := by
  refine Met.ofW (cc := cJ3_checkIndex_8e157) (maxL := 3) (ret := (some .int)) (by decide) rfl ?_
  intro p e s m args below meth c s₁ B hml hv
  obtain ⟨rfl, hsz, hP, hK, hD0, hN, hT⟩ := hv
  have hx := B.exec
  have hb := B.bytes
  have hr := B.returns
  have hts : ∀ w ∈ tblG, w.before _ s = true := fun w h => atoms_spec (ws := (wsG yJ3_checkIndex_8e157 cJ3_checkIndex_8e157 3 (some .int))) B.pre w (List.mem_cons_of_mem _ h)
  have hown : s.vm.findClass RJ3 = some m.cls := findClass_of_methodNamed B.named
  have hlocks := B.notSynchronized
  subst hsz
  have hD := hD0.self (sz := s.heap.size)
  generalize hAe : va_A [] s.heap.size = A at hD hT ⊢
  have hA : ∀ q : Nat, s.heap.size ≤ q → A q := fun q h => by rw [← hAe]; exact Or.inr h
  have hS : va_S A s.heap s.heap [] := va_S.rf
  have hP : va_P G.1 vwCl [] s.heap := hP
  have hl := lv_entry ([.int p_i, .int 74, .ref a_f]) (n := 3) (Nat.le_of_ble_eq_true rfl)
  rw [lg_entry_eq]
  generalize (lg_sl ([.int p_i, .int 74, .ref a_f]) ++ List.replicate (3 - (lg_sl ([.int p_i, .int 74, .ref a_f])).length) Slot.unset).toArray = ls at hl ⊢
  have hl : lv_has ls 3 [(0, .int p_i), (1, .int 74), (2, .ref a_f)] := hl
  refine lv_iload_n hx hb dJ3_checkIndex_8e157_0 rfl (lv_at hl 0 rfl) ?_
  refine lv_if_lt (tgt := 9) hx hb dJ3_checkIndex_8e157_1 (by decide) (fun c_1 => ?_) (fun c_1 => ?_)
  ·
    have i_1 : p_i.toInt < 0 := by have z := g5_lt (a := p_i.toInt) (b := 0) (by rfl) (by decide) c_1; omega
    omega
  ·
    have i_1 : p_i.toInt ≥ 0 := by have z := g5_ltN (a := p_i.toInt) (b := 0) (by rfl) (by decide) c_1; omega
    refine lv_iload_n hx hb dJ3_checkIndex_8e157_4 rfl (lv_at hl 0 rfl) ?_
    refine lv_iload_n hx hb dJ3_checkIndex_8e157_5 rfl (lv_at hl 1 rfl) ?_
    refine lv_icmp_lt (tgt := 16) hx hb dJ3_checkIndex_8e157_6 (by decide) (fun c_2 => ?_) (fun c_2 => ?_)
    ·
      have i_2 : p_i.toInt < 74 := by have z := g5_lt (a := p_i.toInt) (b := 74) (by rfl) (by decide) c_2; omega
      refine lv_iload_n hx hb dJ3_checkIndex_8e157_16 rfl (lv_at hl 0 rfl) ?_
      exact W.iret (v := p_i) hx hb hr (fun t ht hW => ⟨⟨p_i, [], rfl, ⟨rfl, rfl⟩, by rw [ht]; exact hP.sub [] rfl, hD.sub [] (by decide) rfl⟩, hS.F ht⟩) hS.2.2 dJ3_checkIndex_8e157_17
    ·
      have i_2 : p_i.toInt ≥ 74 := by have z := g5_ltN (a := p_i.toInt) (b := 74) (by rfl) (by decide) c_2; omega
      omega
theorem dgJ0_checkIndex_df160_0 : ∀ r ∈ ([(0, (.iload_n 0, 1)), (1, (.iload_n 1, 1)), (2, (.getstatic 1053, 3)), (5, (.invokestatic 1059, 3)), (8, (.pop, 1)), (9, (.return_, 1))] : List (Nat × (Instr × Nat))), decode cJ0_checkIndex_df160 r.1 = .ok r.2 := by decide +kernel
theorem dJ0_checkIndex_df160_0 : decode cJ0_checkIndex_df160 0 = .ok (.iload_n 0, 1) := dgJ0_checkIndex_df160_0 (0, (.iload_n 0, 1)) (List.mem_of_getElem? (i := 0) rfl)
theorem dJ0_checkIndex_df160_1 : decode cJ0_checkIndex_df160 1 = .ok (.iload_n 1, 1) := dgJ0_checkIndex_df160_0 (1, (.iload_n 1, 1)) (List.mem_of_getElem? (i := 1) rfl)
theorem dJ0_checkIndex_df160_2 : decode cJ0_checkIndex_df160 2 = .ok (.getstatic 1053, 3) := dgJ0_checkIndex_df160_0 (2, (.getstatic 1053, 3)) (List.mem_of_getElem? (i := 2) rfl)
theorem dJ0_checkIndex_df160_5 : decode cJ0_checkIndex_df160 5 = .ok (.invokestatic 1059, 3) := dgJ0_checkIndex_df160_0 (5, (.invokestatic 1059, 3)) (List.mem_of_getElem? (i := 3) rfl)
theorem dJ0_checkIndex_df160_8 : decode cJ0_checkIndex_df160 8 = .ok (.pop, 1) := dgJ0_checkIndex_df160_0 (8, (.pop, 1)) (List.mem_of_getElem? (i := 4) rfl)
theorem dJ0_checkIndex_df160_9 : decode cJ0_checkIndex_df160 9 = .ok (.return_, 1) := dgJ0_checkIndex_df160_0 (9, (.return_, 1)) (List.mem_of_getElem? (i := 5) rfl)
theorem fl_J0_1053 : Cond.fieldLink RJ0 1053 "jdk/internal/util/Preconditions" "SIOOBE_FORMATTER" "Ljava/util/function/BiFunction;" ∈ tblG := tg 692 (by decide +kernel) (by decide +kernel)
theorem ml_J0_1059 : Cond.methodLink RJ0 1059 yJ3_checkIndex_8e157 ∈ tblG := tg 694 (by decide +kernel) (by decide +kernel)
theorem st_J3_checkIndex_8e157 : Cond.static yJ3_checkIndex_8e157 ∈ tblG := tg 695 (by decide +kernel) (by decide +kernel)
theorem ini_J3 : Cond.initialized RJ3 ∈ tblG := tg 102 (by decide +kernel) (by decide +kernel)
theorem cd_J3_checkIndex_8e157 : Cond.code yJ3_checkIndex_8e157 cJ3_checkIndex_8e157 3 (some .int) ∈ tblG := tg 696 (by decide +kernel) (by decide +kernel)
theorem gW_J3_checkIndex_8e157 : GoodIn tblG (wsG yJ3_checkIndex_8e157 cJ3_checkIndex_8e157 3 (some .int)) := tgi cd_J3_checkIndex_8e157
theorem gS_J0_1059 : GoodIn tblG (va_wsS RJ0 1059 yJ3_checkIndex_8e157 (wsG yJ3_checkIndex_8e157 cJ3_checkIndex_8e157 3 (some .int))) := tgS ml_J0_1059 st_J3_checkIndex_8e157 ini_J3 gW_J3_checkIndex_8e157
theorem hs_J3_checkIndex_8e157 : yJ3_checkIndex_8e157.cls ≠ "java/lang/invoke/MethodHandle" ∧ yJ3_checkIndex_8e157.cls ≠ "java/lang/invoke/VarHandle" ∧ (parseMethodDescriptor yJ3_checkIndex_8e157.desc).map (fun d => d.parameters.length) = some 3 := by decide +kernel
set_option maxHeartbeats 4000000 in
set_option maxRecDepth 100000 in
theorem s_check (l : Launch) (G : g5_G) (sz : Nat) (p_i : Int32) (h_p_i : 0 ≤ p_i.toInt ∧ p_i.toInt ≤ 73) : Met l yJ0_checkIndex_df160 (wsG yJ0_checkIndex_df160 cJ0_checkIndex_df160 2 none) ({ frames := 1, cells := 0, slots := 0, locals := 22 }) (va_Pc [.int p_i, .int 74] (g5_P G [] sz)) (va_Qv (fun (u : va_W) => ((u = []))) (g5_B G (va_A [] sz)) (va_A [] sz)) 0 0 (va_A [] sz) := by
  refine Met.ofW (cc := cJ0_checkIndex_df160) (maxL := 2) (ret := none) (by decide +kernel) rfl ?_
  intro p e s m args below meth c s₁ B hml hv
  obtain ⟨rfl, hsz, hP, hK, hD0, hN, hT⟩ := hv
  have hx := B.exec
  have hb := B.bytes
  have hr := B.returns
  have hts : ∀ w ∈ tblG, w.before _ s = true := fun w h => atoms_spec (ws := (wsG yJ0_checkIndex_df160 cJ0_checkIndex_df160 2 none)) B.pre w (List.mem_cons_of_mem _ h)
  have hown : s.vm.findClass RJ0 = some m.cls := findClass_of_methodNamed B.named
  have hlocks := B.notSynchronized
  subst hsz
  have hD := hD0.self (sz := s.heap.size)
  generalize hAe : va_A [] s.heap.size = A at hD hT ⊢
  have hA : ∀ q : Nat, s.heap.size ≤ q → A q := fun q h => by rw [← hAe]; exact Or.inr h
  have hS : va_S A s.heap s.heap [] := va_S.rf
  replace hP : va_P G.1 vwCl [] s.heap := hP
  have hl := lv_entry ([.int p_i, .int 74]) (n := 2) (Nat.le_of_ble_eq_true rfl)
  rw [lg_entry_eq]
  generalize (lg_sl ([.int p_i, .int 74]) ++ List.replicate (2 - (lg_sl ([.int p_i, .int 74])).length) Slot.unset).toArray = ls at hl ⊢
  replace hl : lv_has ls 2 [(0, .int p_i), (1, .int 74)] := hl
  obtain ⟨tH0, tL0, tK0, tV0, tF, hZH0, hTH0, hZL0, hTL0, hRK0, hVK0, hZC, hZF⟩ := id hT
  refine lv_iload_n hx hb dJ0_checkIndex_df160_0 rfl (lv_at hl 0 rfl) ?_
  refine lv_iload_n hx hb dJ0_checkIndex_df160_1 rfl (lv_at hl 1 rfl) ?_
  rcases tF with _ | tF
  ·
    refine va_gets hx hb hZF hS hown (hts _ fl_J0_1053) (fun _ h9 => h9) dJ0_checkIndex_df160_2 ?_
    refine g5_tv (v := .null) rfl ?_
    obtain ⟨hPc, hDc, hFc⟩ := g5_sub3 (wc := []) hP hD hS hA [] (by decide +kernel) rfl
    refine va_calli (va_runS (As := [.int p_i, .int 74, .null]) (rest := []) ⟨hx, hb, hml, hown, hts⟩ (s_preN l G s.heap.size p_i h_p_i) (va_cwS 3 hts gS_J0_1059 rfl rfl rfl hs_J3_checkIndex_8e157 ⟨Nat.le_of_ble_eq_true rfl, Nat.le_of_ble_eq_true rfl⟩) (g5_preS hPc hK hDc hN hT hS hFc) rfl rfl hl.1 rfl (lv_room (Nat.le_of_ble_eq_true rfl)) dJ0_checkIndex_df160_5 ⟨Nat.le_of_ble_eq_true rfl, Nat.le_of_ble_eq_true rfl⟩) hS (fun q _ h => hFc q h) hFc (fun r u t H locs ht hvm hw hB hz1 hk1 hS => ?_)
    obtain ⟨hP1, hD1⟩ := hB
    have hP1 := g5_ht ht hP1
    obtain ⟨rfl, rfl⟩ := hw
    have hJ9 := g5_same hP hk1
    clear hP hPc hDc hFc ht hvm hz1 hk1 hP1 hD1
    have hP := hJ9
    clear hJ9
    refine lv_pop hx hb dJ0_checkIndex_df160_8 rfl ?_
    exact W.vret hx hb hr (fun t ht hW => ⟨⟨[], rfl, rfl, by rw [ht]; exact hP.sub [] rfl, hD.sub [] (by decide +kernel) rfl⟩, hS.F ht⟩) hS.2.2 dJ0_checkIndex_df160_9
  ·
    refine va_gets hx hb hZF hS hown (hts _ fl_J0_1053) (fun _ h9 => h9) dJ0_checkIndex_df160_2 ?_
    refine g5_tv (v := .ref tF) rfl ?_
    obtain ⟨hPc, hDc, hFc⟩ := g5_sub3 (wc := []) hP hD hS hA [] (by decide +kernel) rfl
    refine va_calli (va_runS (As := [.int p_i, .int 74, .ref tF]) (rest := []) ⟨hx, hb, hml, hown, hts⟩ (s_preR l G tF s.heap.size p_i h_p_i) (va_cwS 3 hts gS_J0_1059 rfl rfl rfl hs_J3_checkIndex_8e157 ⟨Nat.le_of_ble_eq_true rfl, Nat.le_of_ble_eq_true rfl⟩) (g5_preS hPc hK hDc hN hT hS hFc) rfl rfl hl.1 rfl (lv_room (Nat.le_of_ble_eq_true rfl)) dJ0_checkIndex_df160_5 ⟨Nat.le_of_ble_eq_true rfl, Nat.le_of_ble_eq_true rfl⟩) hS (fun q _ h => hFc q h) hFc (fun r u t H locs ht hvm hw hB hz1 hk1 hS => ?_)
    obtain ⟨hP1, hD1⟩ := hB
    have hP1 := g5_ht ht hP1
    obtain ⟨rfl, rfl⟩ := hw
    have hJ9 := g5_same hP hk1
    clear hP hPc hDc hFc ht hvm hz1 hk1 hP1 hD1
    have hP := hJ9
    clear hJ9
    refine lv_pop hx hb dJ0_checkIndex_df160_8 rfl ?_
    exact W.vret hx hb hr (fun t ht hW => ⟨⟨[], rfl, rfl, by rw [ht]; exact hP.sub [] rfl, hD.sub [] (by decide +kernel) rfl⟩, hS.F ht⟩) hS.2.2 dJ0_checkIndex_df160_9
theorem dgJ0_coder_7d493_0 : ∀ r ∈ ([(0, (.getstatic 38, 3)), (3, (.ifCond .eq 10, 3)), (6, (.aload_n 0, 1)), (7, (.getfield 15, 3)), (10, (.goto 4, 3)), (13, (.iconst 1, 1)), (14, (.ireturn, 1))] : List (Nat × (Instr × Nat))), decode cJ0_coder_7d493 r.1 = .ok r.2 := by decide +kernel
theorem dJ0_coder_7d493_0 : decode cJ0_coder_7d493 0 = .ok (.getstatic 38, 3) := dgJ0_coder_7d493_0 (0, (.getstatic 38, 3)) (List.mem_of_getElem? (i := 0) rfl)
theorem dJ0_coder_7d493_3 : decode cJ0_coder_7d493 3 = .ok (.ifCond .eq 10, 3) := dgJ0_coder_7d493_0 (3, (.ifCond .eq 10, 3)) (List.mem_of_getElem? (i := 1) rfl)
theorem dJ0_coder_7d493_6 : decode cJ0_coder_7d493 6 = .ok (.aload_n 0, 1) := dgJ0_coder_7d493_0 (6, (.aload_n 0, 1)) (List.mem_of_getElem? (i := 2) rfl)
theorem dJ0_coder_7d493_7 : decode cJ0_coder_7d493 7 = .ok (.getfield 15, 3) := dgJ0_coder_7d493_0 (7, (.getfield 15, 3)) (List.mem_of_getElem? (i := 3) rfl)
theorem dJ0_coder_7d493_10 : decode cJ0_coder_7d493 10 = .ok (.goto 4, 3) := dgJ0_coder_7d493_0 (10, (.goto 4, 3)) (List.mem_of_getElem? (i := 4) rfl)
theorem dJ0_coder_7d493_14 : decode cJ0_coder_7d493 14 = .ok (.ireturn, 1) := dgJ0_coder_7d493_0 (14, (.ireturn, 1)) (List.mem_of_getElem? (i := 6) rfl)
theorem fl_J0_38 : Cond.fieldLink RJ0 38 "java/lang/String" "COMPACT_STRINGS" "Z" ∈ tblG := tg 676 (by decide +kernel) (by decide +kernel)
theorem fl_J0_15 : Cond.fieldLink RJ0 15 "java/lang/String" "coder" "B" ∈ tblG := tg 1834 (by decide +kernel) (by decide +kernel)
set_option maxHeartbeats 4000000 in
set_option maxRecDepth 100000 in
theorem s_coder (l : Launch) (G : g5_G) (a_q a_v : Nat) (sz : Nat) : Met l yJ0_coder_7d493 (wsG yJ0_coder_7d493 cJ0_coder_7d493 1 (some .byte)) ({ frames := 0, cells := 0, slots := 0, locals := 0 }) (va_Pc [.ref a_q] (g5_PK G a_q a_v [] sz)) (va_Qi (fun (r : Int32) (u : va_W) => ((r = 0) ∧ (u = []))) (g5_B G (va_A [] sz)) (va_A [] sz)) 0 0 (va_A [] sz) := by
  refine Met.ofW (cc := cJ0_coder_7d493) (maxL := 1) (ret := (some .byte)) (by decide) rfl ?_
  intro p e s m args below meth c s₁ B hml hv
  obtain ⟨rfl, ⟨hsz, hP, hK, hD0, hN, hT⟩, hRK, hVK⟩ := hv
  have hx := B.exec
  have hb := B.bytes
  have hr := B.returns
  have hts : ∀ w ∈ tblG, w.before _ s = true := fun w h => atoms_spec (ws := (wsG yJ0_coder_7d493 cJ0_coder_7d493 1 (some .byte))) B.pre w (List.mem_cons_of_mem _ h)
  have hown : s.vm.findClass RJ0 = some m.cls := findClass_of_methodNamed B.named
  have hlocks := B.notSynchronized
  subst hsz
  have hD := hD0.self (sz := s.heap.size)
  generalize hAe : va_A [] s.heap.size = A at hD hT hVK ⊢
  have hA : ∀ q : Nat, s.heap.size ≤ q → A q := fun q h => by rw [← hAe]; exact Or.inr h
  have hS : va_S A s.heap s.heap [] := va_S.rf
  have hP : va_P G.1 vwCl [] s.heap := hP
  have hl := lv_entry ([.ref a_q]) (n := 1) (Nat.le_of_ble_eq_true rfl)
  rw [lg_entry_eq]
  generalize (lg_sl ([.ref a_q]) ++ List.replicate (1 - (lg_sl ([.ref a_q])).length) Slot.unset).toArray = ls at hl ⊢
  have hl : lv_has ls 1 [(0, .ref a_q)] := hl
  obtain ⟨tH0, tL0, tK0, tV0, tF, hZH0, hTH0, hZL0, hTL0, hRK0, hVK0, hZC, hZF⟩ := id hT
  refine va_gets hx hb hZC hS hown (hts _ fl_J0_38) (fun _ h9 => h9) dJ0_coder_7d493_0 ?_
  refine lv_if_eq (tgt := 13) hx hb dJ0_coder_7d493_3 (by decide) (fun c_1 => ?_) (fun c_1 => ?_)
  ·
    exact absurd c_1 (by decide)
  ·
    refine lv_aload_n hx hb dJ0_coder_7d493_6 rfl (lv_at hl 0 rfl) ?_
    refine vk_getf hx hb (hVK.1 0 (by decide)).2.1 hS hown (hts _ fl_J0_15) (fun _ h9 => h9) dJ0_coder_7d493_7 ?_
    refine lv_goto (tgt := 14) hx hb dJ0_coder_7d493_10 (by decide) ?_
    exact W.zret (v := 0) hx hb hr rfl (fun t ht hW => ⟨⟨0, [], rfl, ⟨rfl, rfl⟩, by rw [ht]; exact hP.sub [] rfl, hD.sub [] (by decide) rfl⟩, hS.F ht⟩) hS.2.2 dJ0_coder_7d493_14
theorem dgJ0_isLatin1_aae02_0 : ∀ r ∈ ([(0, (.getstatic 38, 3)), (3, (.ifCond .eq 14, 3)), (6, (.aload_n 0, 1)), (7, (.getfield 15, 3)), (10, (.ifCond .ne 7, 3)), (13, (.iconst 1, 1)), (14, (.goto 4, 3)), (17, (.iconst 0, 1)), (18, (.ireturn, 1))] : List (Nat × (Instr × Nat))), decode cJ0_isLatin1_aae02 r.1 = .ok r.2 := by decide +kernel
theorem dJ0_isLatin1_aae02_0 : decode cJ0_isLatin1_aae02 0 = .ok (.getstatic 38, 3) := dgJ0_isLatin1_aae02_0 (0, (.getstatic 38, 3)) (List.mem_of_getElem? (i := 0) rfl)
theorem dJ0_isLatin1_aae02_3 : decode cJ0_isLatin1_aae02 3 = .ok (.ifCond .eq 14, 3) := dgJ0_isLatin1_aae02_0 (3, (.ifCond .eq 14, 3)) (List.mem_of_getElem? (i := 1) rfl)
theorem dJ0_isLatin1_aae02_6 : decode cJ0_isLatin1_aae02 6 = .ok (.aload_n 0, 1) := dgJ0_isLatin1_aae02_0 (6, (.aload_n 0, 1)) (List.mem_of_getElem? (i := 2) rfl)
theorem dJ0_isLatin1_aae02_7 : decode cJ0_isLatin1_aae02 7 = .ok (.getfield 15, 3) := dgJ0_isLatin1_aae02_0 (7, (.getfield 15, 3)) (List.mem_of_getElem? (i := 3) rfl)
theorem dJ0_isLatin1_aae02_10 : decode cJ0_isLatin1_aae02 10 = .ok (.ifCond .ne 7, 3) := dgJ0_isLatin1_aae02_0 (10, (.ifCond .ne 7, 3)) (List.mem_of_getElem? (i := 4) rfl)
theorem dJ0_isLatin1_aae02_13 : decode cJ0_isLatin1_aae02 13 = .ok (.iconst 1, 1) := dgJ0_isLatin1_aae02_0 (13, (.iconst 1, 1)) (List.mem_of_getElem? (i := 5) rfl)
theorem dJ0_isLatin1_aae02_14 : decode cJ0_isLatin1_aae02 14 = .ok (.goto 4, 3) := dgJ0_isLatin1_aae02_0 (14, (.goto 4, 3)) (List.mem_of_getElem? (i := 6) rfl)
theorem dJ0_isLatin1_aae02_18 : decode cJ0_isLatin1_aae02 18 = .ok (.ireturn, 1) := dgJ0_isLatin1_aae02_0 (18, (.ireturn, 1)) (List.mem_of_getElem? (i := 8) rfl)
set_option maxHeartbeats 4000000 in
set_option maxRecDepth 100000 in
theorem s_latin (l : Launch) (G : g5_G) (a_q a_v : Nat) (sz : Nat) : Met l yJ0_isLatin1_aae02 (wsG yJ0_isLatin1_aae02 cJ0_isLatin1_aae02 1 (some .boolean)) ({ frames := 0, cells := 0, slots := 0, locals := 0 }) (va_Pc [.ref a_q] (g5_PK G a_q a_v [] sz)) (va_Qi (fun (r : Int32) (u : va_W) => ((r = 1) ∧ (u = []))) (g5_B G (va_A [] sz)) (va_A [] sz)) 0 0 (va_A [] sz) := by
  refine Met.ofW (cc := cJ0_isLatin1_aae02) (maxL := 1) (ret := (some .boolean)) (by decide) rfl ?_
  intro p e s m args below meth c s₁ B hml hv
  obtain ⟨rfl, ⟨hsz, hP, hK, hD0, hN, hT⟩, hRK, hVK⟩ := hv
  have hx := B.exec
  have hb := B.bytes
  have hr := B.returns
  have hts : ∀ w ∈ tblG, w.before _ s = true := fun w h => atoms_spec (ws := (wsG yJ0_isLatin1_aae02 cJ0_isLatin1_aae02 1 (some .boolean))) B.pre w (List.mem_cons_of_mem _ h)
  have hown : s.vm.findClass RJ0 = some m.cls := findClass_of_methodNamed B.named
  have hlocks := B.notSynchronized
  subst hsz
  have hD := hD0.self (sz := s.heap.size)
  generalize hAe : va_A [] s.heap.size = A at hD hT hVK ⊢
  have hA : ∀ q : Nat, s.heap.size ≤ q → A q := fun q h => by rw [← hAe]; exact Or.inr h
  have hS : va_S A s.heap s.heap [] := va_S.rf
  have hP : va_P G.1 vwCl [] s.heap := hP
  have hl := lv_entry ([.ref a_q]) (n := 1) (Nat.le_of_ble_eq_true rfl)
  rw [lg_entry_eq]
  generalize (lg_sl ([.ref a_q]) ++ List.replicate (1 - (lg_sl ([.ref a_q])).length) Slot.unset).toArray = ls at hl ⊢
  have hl : lv_has ls 1 [(0, .ref a_q)] := hl
  obtain ⟨tH0, tL0, tK0, tV0, tF, hZH0, hTH0, hZL0, hTL0, hRK0, hVK0, hZC, hZF⟩ := id hT
  refine va_gets hx hb hZC hS hown (hts _ fl_J0_38) (fun _ h9 => h9) dJ0_isLatin1_aae02_0 ?_
  refine lv_if_eq (tgt := 17) hx hb dJ0_isLatin1_aae02_3 (by decide) (fun c_1 => ?_) (fun c_1 => ?_)
  ·
    exact absurd c_1 (by decide)
  ·
    refine lv_aload_n hx hb dJ0_isLatin1_aae02_6 rfl (lv_at hl 0 rfl) ?_
    refine vk_getf hx hb (hVK.1 0 (by decide)).2.1 hS hown (hts _ fl_J0_15) (fun _ h9 => h9) dJ0_isLatin1_aae02_7 ?_
    refine lv_if_ne (tgt := 17) hx hb dJ0_isLatin1_aae02_10 (by decide) (fun c_2 => ?_) (fun c_2 => ?_)
    ·
      exact absurd c_2 (by decide)
    ·
      refine lv_iconst (v := 1) hx hb dJ0_isLatin1_aae02_13 (by decide) ?_
      refine lv_goto (tgt := 18) hx hb dJ0_isLatin1_aae02_14 (by decide) ?_
      exact W.zret (v := 1) hx hb hr rfl (fun t ht hW => ⟨⟨1, [], rfl, ⟨rfl, rfl⟩, by rw [ht]; exact hP.sub [] rfl, hD.sub [] (by decide) rfl⟩, hS.F ht⟩) hS.2.2 dJ0_isLatin1_aae02_18
theorem dgJ0_length_8abf5_0 : ∀ r ∈ ([(0, (.aload_n 0, 1)), (1, (.getfield 9, 3)), (4, (.arraylength, 1)), (5, (.aload_n 0, 1)), (6, (.invokevirtual 335, 3)), (9, (.ishr, 1)), (10, (.ireturn, 1))] : List (Nat × (Instr × Nat))), decode cJ0_length_8abf5 r.1 = .ok r.2 := by decide +kernel
theorem dJ0_length_8abf5_0 : decode cJ0_length_8abf5 0 = .ok (.aload_n 0, 1) := dgJ0_length_8abf5_0 (0, (.aload_n 0, 1)) (List.mem_of_getElem? (i := 0) rfl)
theorem dJ0_length_8abf5_1 : decode cJ0_length_8abf5 1 = .ok (.getfield 9, 3) := dgJ0_length_8abf5_0 (1, (.getfield 9, 3)) (List.mem_of_getElem? (i := 1) rfl)
theorem dJ0_length_8abf5_4 : decode cJ0_length_8abf5 4 = .ok (.arraylength, 1) := dgJ0_length_8abf5_0 (4, (.arraylength, 1)) (List.mem_of_getElem? (i := 2) rfl)
theorem dJ0_length_8abf5_5 : decode cJ0_length_8abf5 5 = .ok (.aload_n 0, 1) := dgJ0_length_8abf5_0 (5, (.aload_n 0, 1)) (List.mem_of_getElem? (i := 3) rfl)
theorem dJ0_length_8abf5_6 : decode cJ0_length_8abf5 6 = .ok (.invokevirtual 335, 3) := dgJ0_length_8abf5_0 (6, (.invokevirtual 335, 3)) (List.mem_of_getElem? (i := 4) rfl)
theorem dJ0_length_8abf5_9 : decode cJ0_length_8abf5 9 = .ok (.ishr, 1) := dgJ0_length_8abf5_0 (9, (.ishr, 1)) (List.mem_of_getElem? (i := 5) rfl)
theorem dJ0_length_8abf5_10 : decode cJ0_length_8abf5 10 = .ok (.ireturn, 1) := dgJ0_length_8abf5_0 (10, (.ireturn, 1)) (List.mem_of_getElem? (i := 6) rfl)
theorem fl_J0_9 : Cond.fieldLink RJ0 9 "java/lang/String" "value" "[B" ∈ tblG := tg 1833 (by decide +kernel) (by decide +kernel)
theorem ml_J0_335 : Cond.methodLink RJ0 335 yJ0_coder_7d493 ∈ tblG := tg 672 (by decide +kernel) (by decide +kernel)
theorem im_J0_coder_7d493 : Cond.instanceMethod yJ0_coder_7d493 ∈ tblG := tg 673 (by decide +kernel) (by decide +kernel)
theorem se_J0_coder_7d493 : Cond.selects RJ0 yJ0_coder_7d493 yJ0_coder_7d493 ∈ tblG := tg 674 (by decide +kernel) (by decide +kernel)
theorem ini_J0 : Cond.initialized RJ0 ∈ tblG := tg 100 (by decide +kernel) (by decide +kernel)
theorem cd_J0_coder_7d493 : Cond.code yJ0_coder_7d493 cJ0_coder_7d493 1 (some .byte) ∈ tblG := tg 675 (by decide +kernel) (by decide +kernel)
theorem gW_J0_coder_7d493 : GoodIn tblG (wsG yJ0_coder_7d493 cJ0_coder_7d493 1 (some .byte)) := tgi cd_J0_coder_7d493
theorem gV_J0_335 : GoodIn tblG (wsV RJ0 335 RJ0 yJ0_coder_7d493 (wsG yJ0_coder_7d493 cJ0_coder_7d493 1 (some .byte))) := tgV ml_J0_335 im_J0_coder_7d493 se_J0_coder_7d493 ini_J0 gW_J0_coder_7d493
theorem hv_J0_coder_7d493 : yJ0_coder_7d493.cls = RJ0 ∧ yJ0_coder_7d493.cls ≠ "java/lang/invoke/MethodHandle" ∧ yJ0_coder_7d493.cls ≠ "java/lang/invoke/VarHandle" ∧ (parseMethodDescriptor yJ0_coder_7d493.desc).map (fun d => d.parameters.length) = some 0 := by decide +kernel
set_option maxHeartbeats 4000000 in
set_option maxRecDepth 100000 in
theorem s_length (l : Launch) (G : g5_G) (a_q a_v : Nat) (sz : Nat) : Met l yJ0_length_8abf5 (wsG yJ0_length_8abf5 cJ0_length_8abf5 1 (some .int)) ({ frames := 1, cells := 0, slots := 0, locals := 20 }) (va_Pc [.ref a_q] (g5_PK G a_q a_v [] sz)) (va_Qi (fun (r : Int32) (u : va_W) => ((r = 74) ∧ (u = []))) (g5_B G (va_A [] sz)) (va_A [] sz)) 0 0 (va_A [] sz) := by
  refine Met.ofW (cc := cJ0_length_8abf5) (maxL := 1) (ret := (some .int)) (by decide +kernel) rfl ?_
  intro p e s m args below meth c s₁ B hml hv
  obtain ⟨rfl, ⟨hsz, hP, hK, hD0, hN, hT⟩, hRK, hVK⟩ := hv
  have hx := B.exec
  have hb := B.bytes
  have hr := B.returns
  have hts : ∀ w ∈ tblG, w.before _ s = true := fun w h => atoms_spec (ws := (wsG yJ0_length_8abf5 cJ0_length_8abf5 1 (some .int))) B.pre w (List.mem_cons_of_mem _ h)
  have hown : s.vm.findClass RJ0 = some m.cls := findClass_of_methodNamed B.named
  have hlocks := B.notSynchronized
  subst hsz
  have hD := hD0.self (sz := s.heap.size)
  generalize hAe : va_A [] s.heap.size = A at hD hT hVK ⊢
  have hA : ∀ q : Nat, s.heap.size ≤ q → A q := fun q h => by rw [← hAe]; exact Or.inr h
  have hS : va_S A s.heap s.heap [] := va_S.rf
  replace hP : va_P G.1 vwCl [] s.heap := hP
  have hl := lv_entry ([.ref a_q]) (n := 1) (Nat.le_of_ble_eq_true rfl)
  rw [lg_entry_eq]
  generalize (lg_sl ([.ref a_q]) ++ List.replicate (1 - (lg_sl ([.ref a_q])).length) Slot.unset).toArray = ls at hl ⊢
  replace hl : lv_has ls 1 [(0, .ref a_q)] := hl
  obtain ⟨tH0, tL0, tK0, tV0, tF, hZH0, hTH0, hZL0, hTL0, hRK0, hVK0, hZC, hZF⟩ := id hT
  refine lv_aload_n hx hb dJ0_length_8abf5_0 rfl (lv_at hl 0 rfl) ?_
  refine vk_getf hx hb (hVK.1 0 (by decide +kernel)).2.2.1 hS hown (hts _ fl_J0_9) (fun _ h9 => h9) dJ0_length_8abf5_1 ?_
  refine g5_tv (v := .ref a_v) rfl ?_
  refine va_tlen hx hb (hVK.1 0 (by decide +kernel)).2.2.2 hS (v := 74) (by decide +kernel) dJ0_length_8abf5_4 ?_
  refine lv_aload_n hx hb dJ0_length_8abf5_5 rfl (lv_at hl 0 rfl) ?_
  refine W.eq (g2 := F0 m 6 ls [.ref a_q, .int 74]) rfl ?_
  obtain ⟨hPc, hDc, hFc⟩ := g5_sub3 (wc := []) hP hD hS hA [] (by decide +kernel) rfl
  refine va_calli (va_runV (As := []) (rest := [.int 74]) ⟨hx, hb, hml, hown, hts⟩ (s_coder l G a_q a_v s.heap.size) (cwV 0 hts gV_J0_335 rfl rfl rfl hv_J0_coder_7d493 ⟨Nat.le_of_ble_eq_true rfl, Nat.le_of_ble_eq_true rfl⟩) (g5_preVK hPc hK hDc hN hT hS hFc hRK hVK) rfl rfl hl.1 rfl (lv_room (Nat.le_of_ble_eq_true rfl)) dJ0_length_8abf5_6 ⟨Nat.le_of_ble_eq_true rfl, Nat.le_of_ble_eq_true rfl⟩) hS (fun q _ h => hFc q h) hFc (fun r u t H locs ht hvm hw hB hz1 hk1 hS => ?_)
  obtain ⟨hP1, hD1⟩ := hB
  have hP1 := g5_ht ht hP1
  obtain ⟨rfl, rfl⟩ := hw
  have hJ9 := g5_same hP hk1
  clear hP hPc hDc hFc ht hvm hz1 hk1 hP1 hD1
  have hP := hJ9
  clear hJ9
  refine lv_ishr hx hb dJ0_length_8abf5_9 ?_
  refine g5_ti (v := 74) (by decide +kernel) ?_
  exact W.iret (v := 74) hx hb hr (fun t ht hW => ⟨⟨74, [], rfl, ⟨rfl, rfl⟩, by rw [ht]; exact hP.sub [] rfl, hD.sub [] (by decide +kernel) rfl⟩, hS.F ht⟩) hS.2.2 dJ0_length_8abf5_10
theorem dgJ1_charAt_3b067_0 : ∀ r ∈ ([(0, (.iload_n 1, 1)), (1, (.aload_n 0, 1)), (2, (.arraylength, 1)), (3, (.invokestatic 9, 3)), (6, (.aload_n 0, 1)), (7, (.iload_n 1, 1)), (8, (.baload, 1)), (9, (.sipush 255, 3)), (12, (.iand, 1)), (13, (.i2c, 1)), (14, (.ireturn, 1))] : List (Nat × (Instr × Nat))), decode cJ1_charAt_3b067 r.1 = .ok r.2 := by decide +kernel
theorem dJ1_charAt_3b067_0 : decode cJ1_charAt_3b067 0 = .ok (.iload_n 1, 1) := dgJ1_charAt_3b067_0 (0, (.iload_n 1, 1)) (List.mem_of_getElem? (i := 0) rfl)
theorem dJ1_charAt_3b067_1 : decode cJ1_charAt_3b067 1 = .ok (.aload_n 0, 1) := dgJ1_charAt_3b067_0 (1, (.aload_n 0, 1)) (List.mem_of_getElem? (i := 1) rfl)
theorem dJ1_charAt_3b067_2 : decode cJ1_charAt_3b067 2 = .ok (.arraylength, 1) := dgJ1_charAt_3b067_0 (2, (.arraylength, 1)) (List.mem_of_getElem? (i := 2) rfl)
theorem dJ1_charAt_3b067_3 : decode cJ1_charAt_3b067 3 = .ok (.invokestatic 9, 3) := dgJ1_charAt_3b067_0 (3, (.invokestatic 9, 3)) (List.mem_of_getElem? (i := 3) rfl)
theorem dJ1_charAt_3b067_6 : decode cJ1_charAt_3b067 6 = .ok (.aload_n 0, 1) := dgJ1_charAt_3b067_0 (6, (.aload_n 0, 1)) (List.mem_of_getElem? (i := 4) rfl)
theorem dJ1_charAt_3b067_7 : decode cJ1_charAt_3b067 7 = .ok (.iload_n 1, 1) := dgJ1_charAt_3b067_0 (7, (.iload_n 1, 1)) (List.mem_of_getElem? (i := 5) rfl)
theorem dJ1_charAt_3b067_8 : decode cJ1_charAt_3b067 8 = .ok (.baload, 1) := dgJ1_charAt_3b067_0 (8, (.baload, 1)) (List.mem_of_getElem? (i := 6) rfl)
theorem dJ1_charAt_3b067_9 : decode cJ1_charAt_3b067 9 = .ok (.sipush 255, 3) := dgJ1_charAt_3b067_0 (9, (.sipush 255, 3)) (List.mem_of_getElem? (i := 7) rfl)
theorem dJ1_charAt_3b067_12 : decode cJ1_charAt_3b067 12 = .ok (.iand, 1) := dgJ1_charAt_3b067_0 (12, (.iand, 1)) (List.mem_of_getElem? (i := 8) rfl)
theorem dJ1_charAt_3b067_13 : decode cJ1_charAt_3b067 13 = .ok (.i2c, 1) := dgJ1_charAt_3b067_0 (13, (.i2c, 1)) (List.mem_of_getElem? (i := 9) rfl)
theorem dJ1_charAt_3b067_14 : decode cJ1_charAt_3b067 14 = .ok (.ireturn, 1) := dgJ1_charAt_3b067_0 (14, (.ireturn, 1)) (List.mem_of_getElem? (i := 10) rfl)
theorem ml_J1_9 : Cond.methodLink RJ1 9 yJ0_checkIndex_df160 ∈ tblG := tg 689 (by decide +kernel) (by decide +kernel)
theorem st_J0_checkIndex_df160 : Cond.static yJ0_checkIndex_df160 ∈ tblG := tg 690 (by decide +kernel) (by decide +kernel)
theorem cd_J0_checkIndex_df160 : Cond.code yJ0_checkIndex_df160 cJ0_checkIndex_df160 2 none ∈ tblG := tg 691 (by decide +kernel) (by decide +kernel)
theorem gW_J0_checkIndex_df160 : GoodIn tblG (wsG yJ0_checkIndex_df160 cJ0_checkIndex_df160 2 none) := tgi cd_J0_checkIndex_df160
theorem gS_J1_9 : GoodIn tblG (va_wsS RJ1 9 yJ0_checkIndex_df160 (wsG yJ0_checkIndex_df160 cJ0_checkIndex_df160 2 none)) := tgS ml_J1_9 st_J0_checkIndex_df160 ini_J0 gW_J0_checkIndex_df160
theorem hs_J0_checkIndex_df160 : yJ0_checkIndex_df160.cls ≠ "java/lang/invoke/MethodHandle" ∧ yJ0_checkIndex_df160.cls ≠ "java/lang/invoke/VarHandle" ∧ (parseMethodDescriptor yJ0_checkIndex_df160.desc).map (fun d => d.parameters.length) = some 2 := by decide +kernel
theorem dgJ0_charAt_5068e_0 : ∀ r ∈ ([(0, (.aload_n 0, 1)), (1, (.invokevirtual 492, 3)), (4, (.ifCond .eq 12, 3)), (7, (.aload_n 0, 1)), (8, (.getfield 9, 3)), (11, (.iload_n 1, 1)), (12, (.invokestatic 495, 3)), (15, (.ireturn, 1)), (16, (.aload_n 0, 1)), (17, (.getfield 9, 3)), (20, (.iload_n 1, 1)), (21, (.invokestatic 498, 3)), (24, (.ireturn, 1))] : List (Nat × (Instr × Nat))), decode cJ0_charAt_5068e r.1 = .ok r.2 := by decide +kernel
theorem dJ0_charAt_5068e_0 : decode cJ0_charAt_5068e 0 = .ok (.aload_n 0, 1) := dgJ0_charAt_5068e_0 (0, (.aload_n 0, 1)) (List.mem_of_getElem? (i := 0) rfl)
theorem dJ0_charAt_5068e_1 : decode cJ0_charAt_5068e 1 = .ok (.invokevirtual 492, 3) := dgJ0_charAt_5068e_0 (1, (.invokevirtual 492, 3)) (List.mem_of_getElem? (i := 1) rfl)
theorem dJ0_charAt_5068e_4 : decode cJ0_charAt_5068e 4 = .ok (.ifCond .eq 12, 3) := dgJ0_charAt_5068e_0 (4, (.ifCond .eq 12, 3)) (List.mem_of_getElem? (i := 2) rfl)
theorem dJ0_charAt_5068e_7 : decode cJ0_charAt_5068e 7 = .ok (.aload_n 0, 1) := dgJ0_charAt_5068e_0 (7, (.aload_n 0, 1)) (List.mem_of_getElem? (i := 3) rfl)
theorem dJ0_charAt_5068e_8 : decode cJ0_charAt_5068e 8 = .ok (.getfield 9, 3) := dgJ0_charAt_5068e_0 (8, (.getfield 9, 3)) (List.mem_of_getElem? (i := 4) rfl)
theorem dJ0_charAt_5068e_11 : decode cJ0_charAt_5068e 11 = .ok (.iload_n 1, 1) := dgJ0_charAt_5068e_0 (11, (.iload_n 1, 1)) (List.mem_of_getElem? (i := 5) rfl)
theorem dJ0_charAt_5068e_12 : decode cJ0_charAt_5068e 12 = .ok (.invokestatic 495, 3) := dgJ0_charAt_5068e_0 (12, (.invokestatic 495, 3)) (List.mem_of_getElem? (i := 6) rfl)
theorem dJ0_charAt_5068e_15 : decode cJ0_charAt_5068e 15 = .ok (.ireturn, 1) := dgJ0_charAt_5068e_0 (15, (.ireturn, 1)) (List.mem_of_getElem? (i := 7) rfl)
theorem ml_J0_492 : Cond.methodLink RJ0 492 yJ0_isLatin1_aae02 ∈ tblG := tg 682 (by decide +kernel) (by decide +kernel)
theorem im_J0_isLatin1_aae02 : Cond.instanceMethod yJ0_isLatin1_aae02 ∈ tblG := tg 683 (by decide +kernel) (by decide +kernel)
theorem se_J0_isLatin1_aae02 : Cond.selects RJ0 yJ0_isLatin1_aae02 yJ0_isLatin1_aae02 ∈ tblG := tg 684 (by decide +kernel) (by decide +kernel)
theorem cd_J0_isLatin1_aae02 : Cond.code yJ0_isLatin1_aae02 cJ0_isLatin1_aae02 1 (some .boolean) ∈ tblG := tg 685 (by decide +kernel) (by decide +kernel)
theorem gW_J0_isLatin1_aae02 : GoodIn tblG (wsG yJ0_isLatin1_aae02 cJ0_isLatin1_aae02 1 (some .boolean)) := tgi cd_J0_isLatin1_aae02
theorem gV_J0_492 : GoodIn tblG (wsV RJ0 492 RJ0 yJ0_isLatin1_aae02 (wsG yJ0_isLatin1_aae02 cJ0_isLatin1_aae02 1 (some .boolean))) := tgV ml_J0_492 im_J0_isLatin1_aae02 se_J0_isLatin1_aae02 ini_J0 gW_J0_isLatin1_aae02
theorem hv_J0_isLatin1_aae02 : yJ0_isLatin1_aae02.cls = RJ0 ∧ yJ0_isLatin1_aae02.cls ≠ "java/lang/invoke/MethodHandle" ∧ yJ0_isLatin1_aae02.cls ≠ "java/lang/invoke/VarHandle" ∧ (parseMethodDescriptor yJ0_isLatin1_aae02.desc).map (fun d => d.parameters.length) = some 0 := by decide +kernel
theorem ml_J0_495 : Cond.methodLink RJ0 495 yJ1_charAt_3b067 ∈ tblG := tg 686 (by decide +kernel) (by decide +kernel)
theorem st_J1_charAt_3b067 : Cond.static yJ1_charAt_3b067 ∈ tblG := tg 687 (by decide +kernel) (by decide +kernel)
theorem ini_J1 : Cond.initialized RJ1 ∈ tblG := tg 101 (by decide +kernel) (by decide +kernel)
theorem cd_J1_charAt_3b067 : Cond.code yJ1_charAt_3b067 cJ1_charAt_3b067 2 (some .char) ∈ tblG := tg 688 (by decide +kernel) (by decide +kernel)
theorem gW_J1_charAt_3b067 : GoodIn tblG (wsG yJ1_charAt_3b067 cJ1_charAt_3b067 2 (some .char)) := tgi cd_J1_charAt_3b067
theorem gS_J0_495 : GoodIn tblG (va_wsS RJ0 495 yJ1_charAt_3b067 (wsG yJ1_charAt_3b067 cJ1_charAt_3b067 2 (some .char))) := tgS ml_J0_495 st_J1_charAt_3b067 ini_J1 gW_J1_charAt_3b067
theorem hs_J1_charAt_3b067 : yJ1_charAt_3b067.cls ≠ "java/lang/invoke/MethodHandle" ∧ yJ1_charAt_3b067.cls ≠ "java/lang/invoke/VarHandle" ∧ (parseMethodDescriptor yJ1_charAt_3b067.desc).map (fun d => d.parameters.length) = some 2 := by decide +kernel
theorem dgX8_isLetter_0 : ∀ r ∈ ([(0, (.iload_n 0, 1)), (1, (.bipush 97, 2)), (3, (.if_icmp .lt 13, 3)), (6, (.iload_n 0, 1)), (7, (.bipush 122, 2)), (9, (.if_icmp .gt 7, 3)), (12, (.iconst 1, 1)), (13, (.goto 4, 3)), (16, (.iconst 0, 1)), (17, (.ireturn, 1))] : List (Nat × (Instr × Nat))), decode cX8_isLetter r.1 = .ok r.2 := by decide +kernel
theorem dX8_isLetter_0 : decode cX8_isLetter 0 = .ok (.iload_n 0, 1) := dgX8_isLetter_0 (0, (.iload_n 0, 1)) (List.mem_of_getElem? (i := 0) rfl)
theorem dX8_isLetter_1 : decode cX8_isLetter 1 = .ok (.bipush 97, 2) := dgX8_isLetter_0 (1, (.bipush 97, 2)) (List.mem_of_getElem? (i := 1) rfl)
theorem dX8_isLetter_3 : decode cX8_isLetter 3 = .ok (.if_icmp .lt 13, 3) := dgX8_isLetter_0 (3, (.if_icmp .lt 13, 3)) (List.mem_of_getElem? (i := 2) rfl)
theorem dX8_isLetter_6 : decode cX8_isLetter 6 = .ok (.iload_n 0, 1) := dgX8_isLetter_0 (6, (.iload_n 0, 1)) (List.mem_of_getElem? (i := 3) rfl)
theorem dX8_isLetter_7 : decode cX8_isLetter 7 = .ok (.bipush 122, 2) := dgX8_isLetter_0 (7, (.bipush 122, 2)) (List.mem_of_getElem? (i := 4) rfl)
theorem dX8_isLetter_9 : decode cX8_isLetter 9 = .ok (.if_icmp .gt 7, 3) := dgX8_isLetter_0 (9, (.if_icmp .gt 7, 3)) (List.mem_of_getElem? (i := 5) rfl)
theorem dX8_isLetter_12 : decode cX8_isLetter 12 = .ok (.iconst 1, 1) := dgX8_isLetter_0 (12, (.iconst 1, 1)) (List.mem_of_getElem? (i := 6) rfl)
theorem dX8_isLetter_13 : decode cX8_isLetter 13 = .ok (.goto 4, 3) := dgX8_isLetter_0 (13, (.goto 4, 3)) (List.mem_of_getElem? (i := 7) rfl)
theorem dX8_isLetter_16 : decode cX8_isLetter 16 = .ok (.iconst 0, 1) := dgX8_isLetter_0 (16, (.iconst 0, 1)) (List.mem_of_getElem? (i := 8) rfl)
theorem dX8_isLetter_17 : decode cX8_isLetter 17 = .ok (.ireturn, 1) := dgX8_isLetter_0 (17, (.ireturn, 1)) (List.mem_of_getElem? (i := 9) rfl)
theorem dgX8_isDigit_0 : ∀ r ∈ ([(0, (.iload_n 0, 1)), (1, (.bipush 48, 2)), (3, (.if_icmp .lt 13, 3)), (6, (.iload_n 0, 1)), (7, (.bipush 57, 2)), (9, (.if_icmp .gt 7, 3)), (12, (.iconst 1, 1)), (13, (.goto 4, 3)), (16, (.iconst 0, 1)), (17, (.ireturn, 1))] : List (Nat × (Instr × Nat))), decode cX8_isDigit r.1 = .ok r.2 := by decide +kernel
theorem dX8_isDigit_0 : decode cX8_isDigit 0 = .ok (.iload_n 0, 1) := dgX8_isDigit_0 (0, (.iload_n 0, 1)) (List.mem_of_getElem? (i := 0) rfl)
theorem dX8_isDigit_1 : decode cX8_isDigit 1 = .ok (.bipush 48, 2) := dgX8_isDigit_0 (1, (.bipush 48, 2)) (List.mem_of_getElem? (i := 1) rfl)
theorem dX8_isDigit_3 : decode cX8_isDigit 3 = .ok (.if_icmp .lt 13, 3) := dgX8_isDigit_0 (3, (.if_icmp .lt 13, 3)) (List.mem_of_getElem? (i := 2) rfl)
theorem dX8_isDigit_6 : decode cX8_isDigit 6 = .ok (.iload_n 0, 1) := dgX8_isDigit_0 (6, (.iload_n 0, 1)) (List.mem_of_getElem? (i := 3) rfl)
theorem dX8_isDigit_7 : decode cX8_isDigit 7 = .ok (.bipush 57, 2) := dgX8_isDigit_0 (7, (.bipush 57, 2)) (List.mem_of_getElem? (i := 4) rfl)
theorem dX8_isDigit_9 : decode cX8_isDigit 9 = .ok (.if_icmp .gt 7, 3) := dgX8_isDigit_0 (9, (.if_icmp .gt 7, 3)) (List.mem_of_getElem? (i := 5) rfl)
theorem dX8_isDigit_12 : decode cX8_isDigit 12 = .ok (.iconst 1, 1) := dgX8_isDigit_0 (12, (.iconst 1, 1)) (List.mem_of_getElem? (i := 6) rfl)
theorem dX8_isDigit_13 : decode cX8_isDigit 13 = .ok (.goto 4, 3) := dgX8_isDigit_0 (13, (.goto 4, 3)) (List.mem_of_getElem? (i := 7) rfl)
theorem dX8_isDigit_16 : decode cX8_isDigit 16 = .ok (.iconst 0, 1) := dgX8_isDigit_0 (16, (.iconst 0, 1)) (List.mem_of_getElem? (i := 8) rfl)
theorem dX8_isDigit_17 : decode cX8_isDigit 17 = .ok (.ireturn, 1) := dgX8_isDigit_0 (17, (.ireturn, 1)) (List.mem_of_getElem? (i := 9) rfl)
set_option maxHeartbeats 4000000 in
set_option maxRecDepth 100000 in
theorem k_digit (l : Launch) (G : g5_G) (sz : Nat) (p_x : Int32) : Met l yX8_isDigit (wsG yX8_isDigit cX8_isDigit 1 (some .boolean)) ({ frames := 0, cells := 0, slots := 0, locals := 0 }) (va_Pc [.int p_x] (g5_P G [] sz)) (va_Qi (fun (r : Int32) (u : va_W) => ((48 ≤ p_x.toInt ∧ p_x.toInt ≤ 57) ∧ (r = 1) ∧ (u = [])) ∨ ((p_x.toInt < 48 ∨ 57 < p_x.toInt) ∧ (r = 0) ∧ (u = []))) (g5_B G (va_A [] sz)) (va_A [] sz)) 0 0 (va_A [] sz) := by
  refine Met.ofW (cc := cX8_isDigit) (maxL := 1) (ret := (some .boolean)) (by decide) rfl ?_
  intro p e s m args below meth c s₁ B hml hv
  obtain ⟨rfl, hsz, hP, hK, hD0, hN, hT⟩ := hv
  have hx := B.exec
  have hb := B.bytes
  have hr := B.returns
  have hts : ∀ w ∈ tblG, w.before _ s = true := fun w h => atoms_spec (ws := (wsG yX8_isDigit cX8_isDigit 1 (some .boolean))) B.pre w (List.mem_cons_of_mem _ h)
  have hown : s.vm.findClass RX8 = some m.cls := findClass_of_methodNamed B.named
  have hlocks := B.notSynchronized
  subst hsz
  have hD := hD0.self (sz := s.heap.size)
  generalize hAe : va_A [] s.heap.size = A at hD hT ⊢
  have hA : ∀ q : Nat, s.heap.size ≤ q → A q := fun q h => by rw [← hAe]; exact Or.inr h
  have hS : va_S A s.heap s.heap [] := va_S.rf
  have hP : va_P G.1 vwCl [] s.heap := hP
  have hl := lv_entry ([.int p_x]) (n := 1) (Nat.le_of_ble_eq_true rfl)
  rw [lg_entry_eq]
  generalize (lg_sl ([.int p_x]) ++ List.replicate (1 - (lg_sl ([.int p_x])).length) Slot.unset).toArray = ls at hl ⊢
  have hl : lv_has ls 1 [(0, .int p_x)] := hl
  refine lv_iload_n hx hb dX8_isDigit_0 rfl (lv_at hl 0 rfl) ?_
  refine lv_bipush (v := 48) hx hb dX8_isDigit_1 (by decide) ?_
  refine lv_icmp_lt (tgt := 16) hx hb dX8_isDigit_3 (by decide) (fun c_1 => ?_) (fun c_1 => ?_)
  ·
    have i_1 : p_x.toInt < 48 := by have z := g5_lt (a := p_x.toInt) (b := 48) (by rfl) (by decide) c_1; omega
    refine lv_iconst (v := 0) hx hb dX8_isDigit_16 (by decide) ?_
    exact W.zret (v := 0) hx hb hr rfl (fun t ht hW => ⟨⟨0, [], rfl, Or.inr (⟨by omega, rfl, rfl⟩), by rw [ht]; exact hP.sub [] rfl, hD.sub [] (by decide) rfl⟩, hS.F ht⟩) hS.2.2 dX8_isDigit_17
  ·
    have i_1 : p_x.toInt ≥ 48 := by have z := g5_ltN (a := p_x.toInt) (b := 48) (by rfl) (by decide) c_1; omega
    refine lv_iload_n hx hb dX8_isDigit_6 rfl (lv_at hl 0 rfl) ?_
    refine lv_bipush (v := 57) hx hb dX8_isDigit_7 (by decide) ?_
    refine lv_icmp_gt (tgt := 16) hx hb dX8_isDigit_9 (by decide) (fun c_2 => ?_) (fun c_2 => ?_)
    ·
      have i_2 : p_x.toInt > 57 := by have z := g5_gt (a := p_x.toInt) (b := 57) (by rfl) (by decide) c_2; omega
      refine lv_iconst (v := 0) hx hb dX8_isDigit_16 (by decide) ?_
      exact W.zret (v := 0) hx hb hr rfl (fun t ht hW => ⟨⟨0, [], rfl, Or.inr (⟨by omega, rfl, rfl⟩), by rw [ht]; exact hP.sub [] rfl, hD.sub [] (by decide) rfl⟩, hS.F ht⟩) hS.2.2 dX8_isDigit_17
    ·
      have i_2 : p_x.toInt ≤ 57 := by have z := g5_gtN (a := p_x.toInt) (b := 57) (by rfl) (by decide) c_2; omega
      refine lv_iconst (v := 1) hx hb dX8_isDigit_12 (by decide) ?_
      refine lv_goto (tgt := 17) hx hb dX8_isDigit_13 (by decide) ?_
      exact W.zret (v := 1) hx hb hr rfl (fun t ht hW => ⟨⟨1, [], rfl, Or.inl (⟨by omega, rfl, rfl⟩), by rw [ht]; exact hP.sub [] rfl, hD.sub [] (by decide) rfl⟩, hS.F ht⟩) hS.2.2 dX8_isDigit_17
theorem dgX8_endOf_0 : ∀ r ∈ ([(0, (.iload_n 1, 1)), (1, (.iconst 1, 1)), (2, (.iadd, 1)), (3, (.istore_n 3, 1)), (4, (.aload_n 0, 1)), (5, (.iload_n 1, 1)), (6, (.iaload, 1)), (7, (.invokestatic 35, 3)), (10, (.ifCond .eq 23, 3)), (13, (.iload_n 3, 1)), (14, (.iload_n 2, 1)), (15, (.if_icmp .ge 47, 3)), (18, (.aload_n 0, 1)), (19, (.iload_n 3, 1)), (20, (.iaload, 1)), (21, (.invokestatic 35, 3)), (24, (.ifCond .eq 38, 3)), (27, (.iinc 3 1, 3)), (30, (.goto (-17), 3)), (33, (.aload_n 0, 1)), (34, (.iload_n 1, 1)), (35, (.iaload, 1)), (36, (.invokestatic 25, 3)), (39, (.ifCond .eq 23, 3)), (42, (.iload_n 3, 1)), (43, (.iload_n 2, 1)), (44, (.if_icmp .ge 18, 3)), (47, (.aload_n 0, 1)), (48, (.iload_n 3, 1)), (49, (.iaload, 1)), (50, (.invokestatic 25, 3)), (53, (.ifCond .eq 9, 3)), (56, (.iinc 3 1, 3)), (59, (.goto (-17), 3)), (62, (.iload_n 3, 1)), (63, (.ireturn, 1))] : List (Nat × (Instr × Nat))), decode cX8_endOf r.1 = .ok r.2 := by decide +kernel
theorem dX8_endOf_0 : decode cX8_endOf 0 = .ok (.iload_n 1, 1) := dgX8_endOf_0 (0, (.iload_n 1, 1)) (List.mem_of_getElem? (i := 0) rfl)
theorem dX8_endOf_1 : decode cX8_endOf 1 = .ok (.iconst 1, 1) := dgX8_endOf_0 (1, (.iconst 1, 1)) (List.mem_of_getElem? (i := 1) rfl)
theorem dX8_endOf_2 : decode cX8_endOf 2 = .ok (.iadd, 1) := dgX8_endOf_0 (2, (.iadd, 1)) (List.mem_of_getElem? (i := 2) rfl)
theorem dX8_endOf_3 : decode cX8_endOf 3 = .ok (.istore_n 3, 1) := dgX8_endOf_0 (3, (.istore_n 3, 1)) (List.mem_of_getElem? (i := 3) rfl)
theorem dX8_endOf_4 : decode cX8_endOf 4 = .ok (.aload_n 0, 1) := dgX8_endOf_0 (4, (.aload_n 0, 1)) (List.mem_of_getElem? (i := 4) rfl)
theorem dX8_endOf_5 : decode cX8_endOf 5 = .ok (.iload_n 1, 1) := dgX8_endOf_0 (5, (.iload_n 1, 1)) (List.mem_of_getElem? (i := 5) rfl)
theorem dX8_endOf_6 : decode cX8_endOf 6 = .ok (.iaload, 1) := dgX8_endOf_0 (6, (.iaload, 1)) (List.mem_of_getElem? (i := 6) rfl)
theorem dX8_endOf_7 : decode cX8_endOf 7 = .ok (.invokestatic 35, 3) := dgX8_endOf_0 (7, (.invokestatic 35, 3)) (List.mem_of_getElem? (i := 7) rfl)
theorem dX8_endOf_10 : decode cX8_endOf 10 = .ok (.ifCond .eq 23, 3) := dgX8_endOf_0 (10, (.ifCond .eq 23, 3)) (List.mem_of_getElem? (i := 8) rfl)
theorem dX8_endOf_13 : decode cX8_endOf 13 = .ok (.iload_n 3, 1) := dgX8_endOf_0 (13, (.iload_n 3, 1)) (List.mem_of_getElem? (i := 9) rfl)
theorem dX8_endOf_14 : decode cX8_endOf 14 = .ok (.iload_n 2, 1) := dgX8_endOf_0 (14, (.iload_n 2, 1)) (List.mem_of_getElem? (i := 10) rfl)
theorem dX8_endOf_15 : decode cX8_endOf 15 = .ok (.if_icmp .ge 47, 3) := dgX8_endOf_0 (15, (.if_icmp .ge 47, 3)) (List.mem_of_getElem? (i := 11) rfl)
theorem dX8_endOf_18 : decode cX8_endOf 18 = .ok (.aload_n 0, 1) := dgX8_endOf_0 (18, (.aload_n 0, 1)) (List.mem_of_getElem? (i := 12) rfl)
theorem dX8_endOf_19 : decode cX8_endOf 19 = .ok (.iload_n 3, 1) := dgX8_endOf_0 (19, (.iload_n 3, 1)) (List.mem_of_getElem? (i := 13) rfl)
theorem dX8_endOf_20 : decode cX8_endOf 20 = .ok (.iaload, 1) := dgX8_endOf_0 (20, (.iaload, 1)) (List.mem_of_getElem? (i := 14) rfl)
theorem dX8_endOf_21 : decode cX8_endOf 21 = .ok (.invokestatic 35, 3) := dgX8_endOf_0 (21, (.invokestatic 35, 3)) (List.mem_of_getElem? (i := 15) rfl)
theorem dX8_endOf_24 : decode cX8_endOf 24 = .ok (.ifCond .eq 38, 3) := dgX8_endOf_0 (24, (.ifCond .eq 38, 3)) (List.mem_of_getElem? (i := 16) rfl)
theorem dX8_endOf_27 : decode cX8_endOf 27 = .ok (.iinc 3 1, 3) := dgX8_endOf_0 (27, (.iinc 3 1, 3)) (List.mem_of_getElem? (i := 17) rfl)
theorem dX8_endOf_30 : decode cX8_endOf 30 = .ok (.goto (-17), 3) := dgX8_endOf_0 (30, (.goto (-17), 3)) (List.mem_of_getElem? (i := 18) rfl)
theorem dX8_endOf_33 : decode cX8_endOf 33 = .ok (.aload_n 0, 1) := dgX8_endOf_0 (33, (.aload_n 0, 1)) (List.mem_of_getElem? (i := 19) rfl)
theorem dX8_endOf_34 : decode cX8_endOf 34 = .ok (.iload_n 1, 1) := dgX8_endOf_0 (34, (.iload_n 1, 1)) (List.mem_of_getElem? (i := 20) rfl)
theorem dX8_endOf_35 : decode cX8_endOf 35 = .ok (.iaload, 1) := dgX8_endOf_0 (35, (.iaload, 1)) (List.mem_of_getElem? (i := 21) rfl)
theorem dX8_endOf_36 : decode cX8_endOf 36 = .ok (.invokestatic 25, 3) := dgX8_endOf_0 (36, (.invokestatic 25, 3)) (List.mem_of_getElem? (i := 22) rfl)
theorem dX8_endOf_39 : decode cX8_endOf 39 = .ok (.ifCond .eq 23, 3) := dgX8_endOf_0 (39, (.ifCond .eq 23, 3)) (List.mem_of_getElem? (i := 23) rfl)
theorem dX8_endOf_42 : decode cX8_endOf 42 = .ok (.iload_n 3, 1) := dgX8_endOf_0 (42, (.iload_n 3, 1)) (List.mem_of_getElem? (i := 24) rfl)
theorem dX8_endOf_43 : decode cX8_endOf 43 = .ok (.iload_n 2, 1) := dgX8_endOf_0 (43, (.iload_n 2, 1)) (List.mem_of_getElem? (i := 25) rfl)
theorem dX8_endOf_44 : decode cX8_endOf 44 = .ok (.if_icmp .ge 18, 3) := dgX8_endOf_0 (44, (.if_icmp .ge 18, 3)) (List.mem_of_getElem? (i := 26) rfl)
theorem dX8_endOf_47 : decode cX8_endOf 47 = .ok (.aload_n 0, 1) := dgX8_endOf_0 (47, (.aload_n 0, 1)) (List.mem_of_getElem? (i := 27) rfl)
theorem dX8_endOf_48 : decode cX8_endOf 48 = .ok (.iload_n 3, 1) := dgX8_endOf_0 (48, (.iload_n 3, 1)) (List.mem_of_getElem? (i := 28) rfl)
theorem dX8_endOf_49 : decode cX8_endOf 49 = .ok (.iaload, 1) := dgX8_endOf_0 (49, (.iaload, 1)) (List.mem_of_getElem? (i := 29) rfl)
theorem dX8_endOf_50 : decode cX8_endOf 50 = .ok (.invokestatic 25, 3) := dgX8_endOf_0 (50, (.invokestatic 25, 3)) (List.mem_of_getElem? (i := 30) rfl)
theorem dX8_endOf_53 : decode cX8_endOf 53 = .ok (.ifCond .eq 9, 3) := dgX8_endOf_0 (53, (.ifCond .eq 9, 3)) (List.mem_of_getElem? (i := 31) rfl)
theorem dX8_endOf_56 : decode cX8_endOf 56 = .ok (.iinc 3 1, 3) := dgX8_endOf_0 (56, (.iinc 3 1, 3)) (List.mem_of_getElem? (i := 32) rfl)
theorem dX8_endOf_59 : decode cX8_endOf 59 = .ok (.goto (-17), 3) := dgX8_endOf_0 (59, (.goto (-17), 3)) (List.mem_of_getElem? (i := 33) rfl)
theorem dX8_endOf_62 : decode cX8_endOf 62 = .ok (.iload_n 3, 1) := dgX8_endOf_0 (62, (.iload_n 3, 1)) (List.mem_of_getElem? (i := 34) rfl)
theorem dX8_endOf_63 : decode cX8_endOf 63 = .ok (.ireturn, 1) := dgX8_endOf_0 (63, (.ireturn, 1)) (List.mem_of_getElem? (i := 35) rfl)
theorem ml_X8_35 : Cond.methodLink RX8 35 yX8_isLetter ∈ tblG := tg 652 (by decide +kernel) (by decide +kernel)
theorem st_X8_isLetter : Cond.static yX8_isLetter ∈ tblG := tg 653 (by decide +kernel) (by decide +kernel)
theorem ini_X8 : Cond.initialized RX8 ∈ tblG := tg 98 (by decide +kernel) (by decide +kernel)
theorem cd_X8_isLetter : Cond.code yX8_isLetter cX8_isLetter 1 (some .boolean) ∈ tblG := tg 654 (by decide +kernel) (by decide +kernel)
theorem gW_X8_isLetter : GoodIn tblG (wsG yX8_isLetter cX8_isLetter 1 (some .boolean)) := tgi cd_X8_isLetter
theorem gS_X8_35 : GoodIn tblG (va_wsS RX8 35 yX8_isLetter (wsG yX8_isLetter cX8_isLetter 1 (some .boolean))) := tgS ml_X8_35 st_X8_isLetter ini_X8 gW_X8_isLetter
theorem hs_X8_isLetter : yX8_isLetter.cls ≠ "java/lang/invoke/MethodHandle" ∧ yX8_isLetter.cls ≠ "java/lang/invoke/VarHandle" ∧ (parseMethodDescriptor yX8_isLetter.desc).map (fun d => d.parameters.length) = some 1 := by decide +kernel
theorem ml_X8_25 : Cond.methodLink RX8 25 yX8_isDigit ∈ tblG := tg 655 (by decide +kernel) (by decide +kernel)
theorem st_X8_isDigit : Cond.static yX8_isDigit ∈ tblG := tg 656 (by decide +kernel) (by decide +kernel)
theorem cd_X8_isDigit : Cond.code yX8_isDigit cX8_isDigit 1 (some .boolean) ∈ tblG := tg 657 (by decide +kernel) (by decide +kernel)
theorem gW_X8_isDigit : GoodIn tblG (wsG yX8_isDigit cX8_isDigit 1 (some .boolean)) := tgi cd_X8_isDigit
theorem gS_X8_25 : GoodIn tblG (va_wsS RX8 25 yX8_isDigit (wsG yX8_isDigit cX8_isDigit 1 (some .boolean))) := tgS ml_X8_25 st_X8_isDigit ini_X8 gW_X8_isDigit
theorem hs_X8_isDigit : yX8_isDigit.cls ≠ "java/lang/invoke/MethodHandle" ∧ yX8_isDigit.cls ≠ "java/lang/invoke/VarHandle" ∧ (parseMethodDescriptor yX8_isDigit.desc).map (fun d => d.parameters.length) = some 1 := by decide +kernel
theorem dgX8_numberIn_0 : ∀ r ∈ ([(0, (.iconst 0, 1)), (1, (.istore_n 3, 1)), (2, (.iload_n 1, 1)), (3, (.istore 4, 2)), (5, (.iload 4, 2)), (7, (.iload_n 2, 1)), (8, (.if_icmp .ge 29, 3)), (11, (.iload_n 3, 1)), (12, (.sipush 1000, 3)), (15, (.if_icmp .gt 22, 3)), (18, (.iload_n 3, 1)), (19, (.bipush 10, 2)), (21, (.imul, 1)), (22, (.aload_n 0, 1)), (23, (.iload 4, 2)), (25, (.iaload, 1)), (26, (.iadd, 1)), (27, (.bipush 48, 2)), (29, (.isub, 1)), (30, (.istore_n 3, 1)), (31, (.iinc 4 1, 3)), (34, (.goto (-29), 3)), (37, (.iload_n 3, 1)), (38, (.ireturn, 1))] : List (Nat × (Instr × Nat))), decode cX8_numberIn r.1 = .ok r.2 := by decide +kernel
theorem dX8_numberIn_0 : decode cX8_numberIn 0 = .ok (.iconst 0, 1) := dgX8_numberIn_0 (0, (.iconst 0, 1)) (List.mem_of_getElem? (i := 0) rfl)
theorem dX8_numberIn_1 : decode cX8_numberIn 1 = .ok (.istore_n 3, 1) := dgX8_numberIn_0 (1, (.istore_n 3, 1)) (List.mem_of_getElem? (i := 1) rfl)
theorem dX8_numberIn_2 : decode cX8_numberIn 2 = .ok (.iload_n 1, 1) := dgX8_numberIn_0 (2, (.iload_n 1, 1)) (List.mem_of_getElem? (i := 2) rfl)
theorem dX8_numberIn_3 : decode cX8_numberIn 3 = .ok (.istore 4, 2) := dgX8_numberIn_0 (3, (.istore 4, 2)) (List.mem_of_getElem? (i := 3) rfl)
theorem dX8_numberIn_5 : decode cX8_numberIn 5 = .ok (.iload 4, 2) := dgX8_numberIn_0 (5, (.iload 4, 2)) (List.mem_of_getElem? (i := 4) rfl)
theorem dX8_numberIn_7 : decode cX8_numberIn 7 = .ok (.iload_n 2, 1) := dgX8_numberIn_0 (7, (.iload_n 2, 1)) (List.mem_of_getElem? (i := 5) rfl)
theorem dX8_numberIn_8 : decode cX8_numberIn 8 = .ok (.if_icmp .ge 29, 3) := dgX8_numberIn_0 (8, (.if_icmp .ge 29, 3)) (List.mem_of_getElem? (i := 6) rfl)
theorem dX8_numberIn_11 : decode cX8_numberIn 11 = .ok (.iload_n 3, 1) := dgX8_numberIn_0 (11, (.iload_n 3, 1)) (List.mem_of_getElem? (i := 7) rfl)
theorem dX8_numberIn_12 : decode cX8_numberIn 12 = .ok (.sipush 1000, 3) := dgX8_numberIn_0 (12, (.sipush 1000, 3)) (List.mem_of_getElem? (i := 8) rfl)
theorem dX8_numberIn_15 : decode cX8_numberIn 15 = .ok (.if_icmp .gt 22, 3) := dgX8_numberIn_0 (15, (.if_icmp .gt 22, 3)) (List.mem_of_getElem? (i := 9) rfl)
theorem dX8_numberIn_18 : decode cX8_numberIn 18 = .ok (.iload_n 3, 1) := dgX8_numberIn_0 (18, (.iload_n 3, 1)) (List.mem_of_getElem? (i := 10) rfl)
theorem dX8_numberIn_19 : decode cX8_numberIn 19 = .ok (.bipush 10, 2) := dgX8_numberIn_0 (19, (.bipush 10, 2)) (List.mem_of_getElem? (i := 11) rfl)
theorem dX8_numberIn_21 : decode cX8_numberIn 21 = .ok (.imul, 1) := dgX8_numberIn_0 (21, (.imul, 1)) (List.mem_of_getElem? (i := 12) rfl)
theorem dX8_numberIn_22 : decode cX8_numberIn 22 = .ok (.aload_n 0, 1) := dgX8_numberIn_0 (22, (.aload_n 0, 1)) (List.mem_of_getElem? (i := 13) rfl)
theorem dX8_numberIn_23 : decode cX8_numberIn 23 = .ok (.iload 4, 2) := dgX8_numberIn_0 (23, (.iload 4, 2)) (List.mem_of_getElem? (i := 14) rfl)
theorem dX8_numberIn_25 : decode cX8_numberIn 25 = .ok (.iaload, 1) := dgX8_numberIn_0 (25, (.iaload, 1)) (List.mem_of_getElem? (i := 15) rfl)
theorem dX8_numberIn_26 : decode cX8_numberIn 26 = .ok (.iadd, 1) := dgX8_numberIn_0 (26, (.iadd, 1)) (List.mem_of_getElem? (i := 16) rfl)
theorem dX8_numberIn_27 : decode cX8_numberIn 27 = .ok (.bipush 48, 2) := dgX8_numberIn_0 (27, (.bipush 48, 2)) (List.mem_of_getElem? (i := 17) rfl)
theorem dX8_numberIn_29 : decode cX8_numberIn 29 = .ok (.isub, 1) := dgX8_numberIn_0 (29, (.isub, 1)) (List.mem_of_getElem? (i := 18) rfl)
theorem dX8_numberIn_30 : decode cX8_numberIn 30 = .ok (.istore_n 3, 1) := dgX8_numberIn_0 (30, (.istore_n 3, 1)) (List.mem_of_getElem? (i := 19) rfl)
theorem dX8_numberIn_31 : decode cX8_numberIn 31 = .ok (.iinc 4 1, 3) := dgX8_numberIn_0 (31, (.iinc 4 1, 3)) (List.mem_of_getElem? (i := 20) rfl)
theorem dX8_numberIn_34 : decode cX8_numberIn 34 = .ok (.goto (-29), 3) := dgX8_numberIn_0 (34, (.goto (-29), 3)) (List.mem_of_getElem? (i := 21) rfl)
theorem dX8_numberIn_37 : decode cX8_numberIn 37 = .ok (.iload_n 3, 1) := dgX8_numberIn_0 (37, (.iload_n 3, 1)) (List.mem_of_getElem? (i := 22) rfl)
theorem dX8_numberIn_38 : decode cX8_numberIn 38 = .ok (.ireturn, 1) := dgX8_numberIn_0 (38, (.ireturn, 1)) (List.mem_of_getElem? (i := 23) rfl)
set_option maxHeartbeats 4000000 in
set_option maxRecDepth 100000 in
theorem k_number (l : Launch) (G : g5_G) (a_x : Nat) (sz : Nat) (p_a : Int32) (p_t : Int32) (f_x : Nat → Int32) (h_p_a : 0 ≤ p_a.toInt ∧ p_a.toInt ≤ 400) (h_p_t : 0 ≤ p_t.toInt ∧ p_t.toInt ≤ 400) : Met l yX8_numberIn (wsG yX8_numberIn cX8_numberIn 5 (some .int)) ({ frames := 0, cells := 0, slots := 0, locals := 0 }) (va_Pc [.ref a_x, .int p_a, .int p_t] (g5_P G [(a_x, (arI G 400 f_x))] sz)) (va_Qi (fun (r : Int32) (u : va_W) => (∃ (o_r : Int32), (o_r = nmbO f_x p_a p_t 0) ∧ (r = o_r) ∧ (u = [(a_x, (arI G 400 f_x))]))) (g5_B G (va_A [(a_x, (arI G 400 f_x))] sz)) (va_A [(a_x, (arI G 400 f_x))] sz)) 0 0 (va_A [(a_x, (arI G 400 f_x))] sz) := by
  refine Met.ofW (cc := cX8_numberIn) (maxL := 5) (ret := (some .int)) (by decide +kernel) rfl ?_
  intro p e s m args below meth c s₁ B hml hv
  obtain ⟨rfl, hsz, hP, hK, hD0, hN, hT⟩ := hv
  have hx := B.exec
  have hb := B.bytes
  have hr := B.returns
  have hts : ∀ w ∈ tblG, w.before _ s = true := fun w h => atoms_spec (ws := (wsG yX8_numberIn cX8_numberIn 5 (some .int))) B.pre w (List.mem_cons_of_mem _ h)
  have hown : s.vm.findClass RX8 = some m.cls := findClass_of_methodNamed B.named
  have hlocks := B.notSynchronized
  subst hsz
  have hD := hD0.self (sz := s.heap.size)
  generalize hAe : va_A [(a_x, (arI G 400 f_x))] s.heap.size = A at hD hT ⊢
  have hA : ∀ q : Nat, s.heap.size ≤ q → A q := fun q h => by rw [← hAe]; exact Or.inr h
  have hS : va_S A s.heap s.heap [] := va_S.rf
  replace hP : va_P G.1 vwCl [(a_x, (arI G 400 f_x))] s.heap := hP
  have hl := lv_entry ([.ref a_x, .int p_a, .int p_t]) (n := 5) (Nat.le_of_ble_eq_true rfl)
  rw [lg_entry_eq]
  generalize (lg_sl ([.ref a_x, .int p_a, .int p_t]) ++ List.replicate (5 - (lg_sl ([.ref a_x, .int p_a, .int p_t])).length) Slot.unset).toArray = ls at hl ⊢
  replace hl : lv_has ls 5 [(0, .ref a_x), (1, .int p_a), (2, .int p_t)] := hl
  refine lv_iconst (v := 0) hx hb dX8_numberIn_0 (by decide +kernel) ?_
  refine lv_istore_n (lv' := [(3, .int 0), (0, .ref a_x), (1, .int p_a), (2, .int p_t)]) hx hb dX8_numberIn_1 rfl hl (by decide +kernel) rfl ?_
  clear hl
  intro ls hl
  refine lv_iload_n hx hb dX8_numberIn_2 rfl (lv_at hl 2 rfl) ?_
  refine lv_istore (lv' := [(4, .int p_a), (3, .int 0), (0, .ref a_x), (1, .int p_a), (2, .int p_t)]) hx hb dX8_numberIn_3 hl (by decide +kernel) rfl ?_
  clear hl
  intro ls hl
  refine g5_loop (α := (Int32) × (Int32)) (fun (q : (Int32) × (Int32)) (ls : Array Slot) (H : Heap) (locs : List Loc) => match q with | (k_n, k_a) => lv_has ls 5 [(3, .int k_n), (4, .int k_a), (0, .ref a_x), (1, .int p_a), (2, .int p_t)] ∧ va_P G.1 vwCl [(a_x, (arI G 400 f_x))] H ∧ va_D A [(a_x, (arI G 400 f_x))] ∧ va_S A s.heap H locs ∧ (0 ≤ k_a.toInt ∧ k_a.toInt ≤ 400) ∧ (nmbO f_x k_a p_t k_n = nmbO f_x p_a p_t 0)) (fun (q : (Int32) × (Int32)) => match q with | (k_n, k_a) => Int.toNat (400 - k_a.toInt)) (0, p_a) ⟨lv_sub hl [1, 0, 2, 3, 4] rfl, hP, hD, hS, h_p_a, rfl⟩ ?_
  rintro ⟨k_n, k_a⟩ ls H locs ⟨hl, hP, hD, hS, (i_1 : 0 ≤ k_a.toInt ∧ k_a.toInt ≤ 400), (i_2 : nmbO f_x k_a p_t k_n = nmbO f_x p_a p_t 0)⟩ ih_5_3
  replace hl : lv_has ls 5 [(3, .int k_n), (4, .int k_a), (0, .ref a_x), (1, .int p_a), (2, .int p_t)] := hl
  refine g5_rs [(a_x, (arI G 400 f_x))] hP hD ?_
  clear hP hD
  intro hP hD
  refine lv_iload hx hb dX8_numberIn_5 (lv_at hl 1 rfl) ?_
  refine lv_iload_n hx hb dX8_numberIn_7 rfl (lv_at hl 4 rfl) ?_
  refine lv_icmp_ge (tgt := 37) hx hb dX8_numberIn_8 (by decide +kernel) (fun c_4 => ?_) (fun c_4 => ?_)
  ·
    have i_4 : k_a.toInt ≥ p_t.toInt := g5_ge (a := k_a.toInt) (b := p_t.toInt) rfl rfl c_4
    refine lv_iload_n hx hb dX8_numberIn_37 rfl (lv_at hl 0 rfl) ?_
    exact W.iret (v := k_n) hx hb hr (fun t ht hW => ⟨⟨k_n, [(a_x, (arI G 400 f_x))], rfl, ⟨k_n, (nmb_end (by omega)).trans i_2, rfl, rfl⟩, by rw [ht]; exact hP.sub [0] rfl, hD.sub [0] (by decide +kernel) rfl⟩, hS.F ht⟩) hS.2.2 dX8_numberIn_38
  ·
    have i_4 : k_a.toInt < p_t.toInt := g5_geN (a := k_a.toInt) (b := p_t.toInt) rfl rfl c_4
    refine lv_iload_n hx hb dX8_numberIn_11 rfl (lv_at hl 0 rfl) ?_
    refine lv_sipush (v := 1000) hx hb dX8_numberIn_12 (by decide +kernel) ?_
    refine lv_icmp_gt (tgt := 37) hx hb dX8_numberIn_15 (by decide +kernel) (fun c_5 => ?_) (fun c_5 => ?_)
    ·
      have i_5 : k_n.toInt > 1000 := g5_gt (a := k_n.toInt) (b := 1000) rfl (by decide +kernel) c_5
      refine lv_iload_n hx hb dX8_numberIn_37 rfl (lv_at hl 0 rfl) ?_
      exact W.iret (v := k_n) hx hb hr (fun t ht hW => ⟨⟨k_n, [(a_x, (arI G 400 f_x))], rfl, ⟨k_n, (nmb_over (by omega)).trans i_2, rfl, rfl⟩, by rw [ht]; exact hP.sub [0] rfl, hD.sub [0] (by decide +kernel) rfl⟩, hS.F ht⟩) hS.2.2 dX8_numberIn_38
    ·
      have i_5 : k_n.toInt ≤ 1000 := g5_gtN (a := k_n.toInt) (b := 1000) rfl (by decide +kernel) c_5
      refine lv_iload_n hx hb dX8_numberIn_18 rfl (lv_at hl 0 rfl) ?_
      refine lv_bipush (v := 10) hx hb dX8_numberIn_19 (by decide +kernel) ?_
      refine lv_imul hx hb dX8_numberIn_21 ?_
      refine lv_aload_n hx hb dX8_numberIn_22 rfl (lv_at hl 2 rfl) ?_
      refine W.eq (g2 := F0 m 23 ls [.ref a_x, .int (k_n * 10)]) rfl ?_
      refine lv_iload hx hb dX8_numberIn_23 (lv_at hl 1 rfl) ?_
      refine va_iald hx hb hK hP 0 0 rfl rfl (i := k_a) (vp_in_iff.mpr ⟨by omega, by omega⟩) dX8_numberIn_25 ?_
      refine lv_iadd hx hb dX8_numberIn_26 ?_
      refine lv_bipush (v := 48) hx hb dX8_numberIn_27 (by decide +kernel) ?_
      refine lv_isub hx hb dX8_numberIn_29 ?_
      refine W.eq (g2 := F0 m 30 ls [.int (((k_n * 10) + (f_x k_a.toNatClampNeg)) - 48)]) rfl ?_
      refine lv_istore_n (lv' := [(3, .int (((k_n * 10) + (f_x k_a.toNatClampNeg)) - 48)), (4, .int k_a), (0, .ref a_x), (1, .int p_a), (2, .int p_t)]) hx hb dX8_numberIn_30 rfl hl (by decide +kernel) rfl ?_
      clear hl
      intro ls hl
      refine lv_iinc (v := (k_a + 1)) (lv' := [(4, .int (k_a + 1)), (3, .int (((k_n * 10) + (f_x k_a.toNatClampNeg)) - 48)), (0, .ref a_x), (1, .int p_a), (2, .int p_t)]) hx hb dX8_numberIn_31 hl (k := 1) rfl rfl (by decide +kernel) rfl ?_
      clear hl
      intro ls hl
      have t_6 : (k_a + 1).toInt = k_a.toInt + 1 := g5_iadd (a := k_a.toInt) (b := 1) rfl (by decide +kernel) (by omega) (by omega)
      refine lv_goto (tgt := 5) hx hb dX8_numberIn_34 (by decide +kernel) ?_
      exact ih_5_3 ((((k_n * 10) + (f_x k_a.toNatClampNeg)) - 48), (k_a + 1)) ls H locs (show Int.toNat (400 - (k_a + 1).toInt) < Int.toNat (400 - k_a.toInt) from g_up (show k_a.toInt < (k_a + 1).toInt by omega) (show k_a.toInt < 400 by omega)) ⟨lv_sub hl [1, 0, 2, 3, 4] rfl, hP, hD, hS, ⟨by omega, by omega⟩, (nmb_step (by omega) (by omega) (by omega) (by omega)).trans i_2⟩
theorem dgX8_wordIn_0 : ∀ r ∈ ([(0, (.iconst 0, 1)), (1, (.istore_n 3, 1)), (2, (.iload_n 1, 1)), (3, (.istore 4, 2)), (5, (.iconst 1, 1)), (6, (.istore 5, 2)), (8, (.iconst 0, 1)), (9, (.istore 6, 2)), (11, (.iload 6, 2)), (13, (.ldc 41, 2)), (15, (.invokevirtual 43, 3)), (18, (.if_icmp .ge 80, 3)), (21, (.ldc 41, 2)), (23, (.iload 6, 2)), (25, (.invokevirtual 49, 3)), (28, (.istore 7, 2)), (30, (.iload 7, 2)), (32, (.bipush 32, 2)), (34, (.if_icmp .eq 36, 3)), (37, (.iload 5, 2)), (39, (.ifCond .eq 22, 3)), (42, (.iload 4, 2)), (44, (.iload_n 2, 1)), (45, (.if_icmp .ge 16, 3)), (48, (.aload_n 0, 1)), (49, (.iload 4, 2)), (51, (.iaload, 1)), (52, (.iload 7, 2)), (54, (.if_icmp .ne 7, 3)), (57, (.iconst 1, 1)), (58, (.goto 4, 3)), (61, (.iconst 0, 1)), (62, (.istore 5, 2)), (64, (.iinc 4 1, 3)), (67, (.goto 25, 3)), (70, (.iload 5, 2)), (72, (.ifCond .eq 11, 3)), (75, (.iload 4, 2)), (77, (.iload_n 2, 1)), (78, (.if_icmp .ne 5, 3))] : List (Nat × (Instr × Nat))), decode cX8_wordIn r.1 = .ok r.2 := by decide +kernel
theorem dX8_wordIn_0 : decode cX8_wordIn 0 = .ok (.iconst 0, 1) := dgX8_wordIn_0 (0, (.iconst 0, 1)) (List.mem_of_getElem? (i := 0) rfl)
theorem dX8_wordIn_1 : decode cX8_wordIn 1 = .ok (.istore_n 3, 1) := dgX8_wordIn_0 (1, (.istore_n 3, 1)) (List.mem_of_getElem? (i := 1) rfl)
theorem dX8_wordIn_2 : decode cX8_wordIn 2 = .ok (.iload_n 1, 1) := dgX8_wordIn_0 (2, (.iload_n 1, 1)) (List.mem_of_getElem? (i := 2) rfl)
theorem dX8_wordIn_3 : decode cX8_wordIn 3 = .ok (.istore 4, 2) := dgX8_wordIn_0 (3, (.istore 4, 2)) (List.mem_of_getElem? (i := 3) rfl)
theorem dX8_wordIn_5 : decode cX8_wordIn 5 = .ok (.iconst 1, 1) := dgX8_wordIn_0 (5, (.iconst 1, 1)) (List.mem_of_getElem? (i := 4) rfl)
theorem dX8_wordIn_6 : decode cX8_wordIn 6 = .ok (.istore 5, 2) := dgX8_wordIn_0 (6, (.istore 5, 2)) (List.mem_of_getElem? (i := 5) rfl)
theorem dX8_wordIn_8 : decode cX8_wordIn 8 = .ok (.iconst 0, 1) := dgX8_wordIn_0 (8, (.iconst 0, 1)) (List.mem_of_getElem? (i := 6) rfl)
theorem dX8_wordIn_9 : decode cX8_wordIn 9 = .ok (.istore 6, 2) := dgX8_wordIn_0 (9, (.istore 6, 2)) (List.mem_of_getElem? (i := 7) rfl)
theorem dX8_wordIn_11 : decode cX8_wordIn 11 = .ok (.iload 6, 2) := dgX8_wordIn_0 (11, (.iload 6, 2)) (List.mem_of_getElem? (i := 8) rfl)
theorem dX8_wordIn_13 : decode cX8_wordIn 13 = .ok (.ldc 41, 2) := dgX8_wordIn_0 (13, (.ldc 41, 2)) (List.mem_of_getElem? (i := 9) rfl)
theorem dX8_wordIn_15 : decode cX8_wordIn 15 = .ok (.invokevirtual 43, 3) := dgX8_wordIn_0 (15, (.invokevirtual 43, 3)) (List.mem_of_getElem? (i := 10) rfl)
theorem dX8_wordIn_18 : decode cX8_wordIn 18 = .ok (.if_icmp .ge 80, 3) := dgX8_wordIn_0 (18, (.if_icmp .ge 80, 3)) (List.mem_of_getElem? (i := 11) rfl)
theorem dX8_wordIn_21 : decode cX8_wordIn 21 = .ok (.ldc 41, 2) := dgX8_wordIn_0 (21, (.ldc 41, 2)) (List.mem_of_getElem? (i := 12) rfl)
theorem dX8_wordIn_23 : decode cX8_wordIn 23 = .ok (.iload 6, 2) := dgX8_wordIn_0 (23, (.iload 6, 2)) (List.mem_of_getElem? (i := 13) rfl)
theorem dX8_wordIn_25 : decode cX8_wordIn 25 = .ok (.invokevirtual 49, 3) := dgX8_wordIn_0 (25, (.invokevirtual 49, 3)) (List.mem_of_getElem? (i := 14) rfl)
theorem dX8_wordIn_28 : decode cX8_wordIn 28 = .ok (.istore 7, 2) := dgX8_wordIn_0 (28, (.istore 7, 2)) (List.mem_of_getElem? (i := 15) rfl)
theorem dX8_wordIn_30 : decode cX8_wordIn 30 = .ok (.iload 7, 2) := dgX8_wordIn_0 (30, (.iload 7, 2)) (List.mem_of_getElem? (i := 16) rfl)
theorem dX8_wordIn_32 : decode cX8_wordIn 32 = .ok (.bipush 32, 2) := dgX8_wordIn_0 (32, (.bipush 32, 2)) (List.mem_of_getElem? (i := 17) rfl)
theorem dX8_wordIn_34 : decode cX8_wordIn 34 = .ok (.if_icmp .eq 36, 3) := dgX8_wordIn_0 (34, (.if_icmp .eq 36, 3)) (List.mem_of_getElem? (i := 18) rfl)
theorem dX8_wordIn_37 : decode cX8_wordIn 37 = .ok (.iload 5, 2) := dgX8_wordIn_0 (37, (.iload 5, 2)) (List.mem_of_getElem? (i := 19) rfl)
theorem dX8_wordIn_39 : decode cX8_wordIn 39 = .ok (.ifCond .eq 22, 3) := dgX8_wordIn_0 (39, (.ifCond .eq 22, 3)) (List.mem_of_getElem? (i := 20) rfl)
theorem dX8_wordIn_42 : decode cX8_wordIn 42 = .ok (.iload 4, 2) := dgX8_wordIn_0 (42, (.iload 4, 2)) (List.mem_of_getElem? (i := 21) rfl)
theorem dX8_wordIn_44 : decode cX8_wordIn 44 = .ok (.iload_n 2, 1) := dgX8_wordIn_0 (44, (.iload_n 2, 1)) (List.mem_of_getElem? (i := 22) rfl)
theorem dX8_wordIn_45 : decode cX8_wordIn 45 = .ok (.if_icmp .ge 16, 3) := dgX8_wordIn_0 (45, (.if_icmp .ge 16, 3)) (List.mem_of_getElem? (i := 23) rfl)
theorem dX8_wordIn_48 : decode cX8_wordIn 48 = .ok (.aload_n 0, 1) := dgX8_wordIn_0 (48, (.aload_n 0, 1)) (List.mem_of_getElem? (i := 24) rfl)
theorem dX8_wordIn_49 : decode cX8_wordIn 49 = .ok (.iload 4, 2) := dgX8_wordIn_0 (49, (.iload 4, 2)) (List.mem_of_getElem? (i := 25) rfl)
theorem dX8_wordIn_51 : decode cX8_wordIn 51 = .ok (.iaload, 1) := dgX8_wordIn_0 (51, (.iaload, 1)) (List.mem_of_getElem? (i := 26) rfl)
theorem dX8_wordIn_52 : decode cX8_wordIn 52 = .ok (.iload 7, 2) := dgX8_wordIn_0 (52, (.iload 7, 2)) (List.mem_of_getElem? (i := 27) rfl)
theorem dX8_wordIn_54 : decode cX8_wordIn 54 = .ok (.if_icmp .ne 7, 3) := dgX8_wordIn_0 (54, (.if_icmp .ne 7, 3)) (List.mem_of_getElem? (i := 28) rfl)
theorem dX8_wordIn_57 : decode cX8_wordIn 57 = .ok (.iconst 1, 1) := dgX8_wordIn_0 (57, (.iconst 1, 1)) (List.mem_of_getElem? (i := 29) rfl)
theorem dX8_wordIn_58 : decode cX8_wordIn 58 = .ok (.goto 4, 3) := dgX8_wordIn_0 (58, (.goto 4, 3)) (List.mem_of_getElem? (i := 30) rfl)
theorem dX8_wordIn_61 : decode cX8_wordIn 61 = .ok (.iconst 0, 1) := dgX8_wordIn_0 (61, (.iconst 0, 1)) (List.mem_of_getElem? (i := 31) rfl)
theorem dX8_wordIn_62 : decode cX8_wordIn 62 = .ok (.istore 5, 2) := dgX8_wordIn_0 (62, (.istore 5, 2)) (List.mem_of_getElem? (i := 32) rfl)
theorem dX8_wordIn_64 : decode cX8_wordIn 64 = .ok (.iinc 4 1, 3) := dgX8_wordIn_0 (64, (.iinc 4 1, 3)) (List.mem_of_getElem? (i := 33) rfl)
theorem dX8_wordIn_67 : decode cX8_wordIn 67 = .ok (.goto 25, 3) := dgX8_wordIn_0 (67, (.goto 25, 3)) (List.mem_of_getElem? (i := 34) rfl)
theorem dX8_wordIn_70 : decode cX8_wordIn 70 = .ok (.iload 5, 2) := dgX8_wordIn_0 (70, (.iload 5, 2)) (List.mem_of_getElem? (i := 35) rfl)
theorem dX8_wordIn_72 : decode cX8_wordIn 72 = .ok (.ifCond .eq 11, 3) := dgX8_wordIn_0 (72, (.ifCond .eq 11, 3)) (List.mem_of_getElem? (i := 36) rfl)
theorem dX8_wordIn_75 : decode cX8_wordIn 75 = .ok (.iload 4, 2) := dgX8_wordIn_0 (75, (.iload 4, 2)) (List.mem_of_getElem? (i := 37) rfl)
theorem dX8_wordIn_77 : decode cX8_wordIn 77 = .ok (.iload_n 2, 1) := dgX8_wordIn_0 (77, (.iload_n 2, 1)) (List.mem_of_getElem? (i := 38) rfl)
theorem dX8_wordIn_78 : decode cX8_wordIn 78 = .ok (.if_icmp .ne 5, 3) := dgX8_wordIn_0 (78, (.if_icmp .ne 5, 3)) (List.mem_of_getElem? (i := 39) rfl)
theorem dgX8_wordIn_1 : ∀ r ∈ ([(81, (.iload_n 3, 1)), (82, (.ireturn, 1)), (83, (.iinc 3 1, 3)), (86, (.iload_n 1, 1)), (87, (.istore 4, 2)), (89, (.iconst 1, 1)), (90, (.istore 5, 2)), (92, (.iinc 6 1, 3)), (95, (.goto (-84), 3)), (98, (.iconst (-1), 1)), (99, (.ireturn, 1))] : List (Nat × (Instr × Nat))), decode cX8_wordIn r.1 = .ok r.2 := by decide +kernel
theorem dX8_wordIn_81 : decode cX8_wordIn 81 = .ok (.iload_n 3, 1) := dgX8_wordIn_1 (81, (.iload_n 3, 1)) (List.mem_of_getElem? (i := 0) rfl)
theorem dX8_wordIn_82 : decode cX8_wordIn 82 = .ok (.ireturn, 1) := dgX8_wordIn_1 (82, (.ireturn, 1)) (List.mem_of_getElem? (i := 1) rfl)
theorem dX8_wordIn_83 : decode cX8_wordIn 83 = .ok (.iinc 3 1, 3) := dgX8_wordIn_1 (83, (.iinc 3 1, 3)) (List.mem_of_getElem? (i := 2) rfl)
theorem dX8_wordIn_86 : decode cX8_wordIn 86 = .ok (.iload_n 1, 1) := dgX8_wordIn_1 (86, (.iload_n 1, 1)) (List.mem_of_getElem? (i := 3) rfl)
theorem dX8_wordIn_87 : decode cX8_wordIn 87 = .ok (.istore 4, 2) := dgX8_wordIn_1 (87, (.istore 4, 2)) (List.mem_of_getElem? (i := 4) rfl)
theorem dX8_wordIn_89 : decode cX8_wordIn 89 = .ok (.iconst 1, 1) := dgX8_wordIn_1 (89, (.iconst 1, 1)) (List.mem_of_getElem? (i := 5) rfl)
theorem dX8_wordIn_90 : decode cX8_wordIn 90 = .ok (.istore 5, 2) := dgX8_wordIn_1 (90, (.istore 5, 2)) (List.mem_of_getElem? (i := 6) rfl)
theorem dX8_wordIn_92 : decode cX8_wordIn 92 = .ok (.iinc 6 1, 3) := dgX8_wordIn_1 (92, (.iinc 6 1, 3)) (List.mem_of_getElem? (i := 7) rfl)
theorem dX8_wordIn_95 : decode cX8_wordIn 95 = .ok (.goto (-84), 3) := dgX8_wordIn_1 (95, (.goto (-84), 3)) (List.mem_of_getElem? (i := 8) rfl)
theorem dX8_wordIn_98 : decode cX8_wordIn 98 = .ok (.iconst (-1), 1) := dgX8_wordIn_1 (98, (.iconst (-1), 1)) (List.mem_of_getElem? (i := 9) rfl)
theorem dX8_wordIn_99 : decode cX8_wordIn 99 = .ok (.ireturn, 1) := dgX8_wordIn_1 (99, (.ireturn, 1)) (List.mem_of_getElem? (i := 10) rfl)
theorem ml_X8_43 : Cond.methodLink RX8 43 yJ0_length_8abf5 ∈ tblG := tg 668 (by decide +kernel) (by decide +kernel)
theorem im_J0_length_8abf5 : Cond.instanceMethod yJ0_length_8abf5 ∈ tblG := tg 669 (by decide +kernel) (by decide +kernel)
theorem se_J0_length_8abf5 : Cond.selects RJ0 yJ0_length_8abf5 yJ0_length_8abf5 ∈ tblG := tg 670 (by decide +kernel) (by decide +kernel)
theorem cd_J0_length_8abf5 : Cond.code yJ0_length_8abf5 cJ0_length_8abf5 1 (some .int) ∈ tblG := tg 671 (by decide +kernel) (by decide +kernel)
theorem gW_J0_length_8abf5 : GoodIn tblG (wsG yJ0_length_8abf5 cJ0_length_8abf5 1 (some .int)) := tgi cd_J0_length_8abf5
theorem gV_X8_43 : GoodIn tblG (wsV RX8 43 RJ0 yJ0_length_8abf5 (wsG yJ0_length_8abf5 cJ0_length_8abf5 1 (some .int))) := tgV ml_X8_43 im_J0_length_8abf5 se_J0_length_8abf5 ini_J0 gW_J0_length_8abf5
theorem hv_J0_length_8abf5 : yJ0_length_8abf5.cls = RJ0 ∧ yJ0_length_8abf5.cls ≠ "java/lang/invoke/MethodHandle" ∧ yJ0_length_8abf5.cls ≠ "java/lang/invoke/VarHandle" ∧ (parseMethodDescriptor yJ0_length_8abf5.desc).map (fun d => d.parameters.length) = some 0 := by decide +kernel
theorem ml_X8_49 : Cond.methodLink RX8 49 yJ0_charAt_5068e ∈ tblG := tg 678 (by decide +kernel) (by decide +kernel)
theorem im_J0_charAt_5068e : Cond.instanceMethod yJ0_charAt_5068e ∈ tblG := tg 679 (by decide +kernel) (by decide +kernel)
theorem se_J0_charAt_5068e : Cond.selects RJ0 yJ0_charAt_5068e yJ0_charAt_5068e ∈ tblG := tg 680 (by decide +kernel) (by decide +kernel)
theorem cd_J0_charAt_5068e : Cond.code yJ0_charAt_5068e cJ0_charAt_5068e 2 (some .char) ∈ tblG := tg 681 (by decide +kernel) (by decide +kernel)
theorem gW_J0_charAt_5068e : GoodIn tblG (wsG yJ0_charAt_5068e cJ0_charAt_5068e 2 (some .char)) := tgi cd_J0_charAt_5068e
theorem gV_X8_49 : GoodIn tblG (wsV RX8 49 RJ0 yJ0_charAt_5068e (wsG yJ0_charAt_5068e cJ0_charAt_5068e 2 (some .char))) := tgV ml_X8_49 im_J0_charAt_5068e se_J0_charAt_5068e ini_J0 gW_J0_charAt_5068e
theorem hv_J0_charAt_5068e : yJ0_charAt_5068e.cls = RJ0 ∧ yJ0_charAt_5068e.cls ≠ "java/lang/invoke/MethodHandle" ∧ yJ0_charAt_5068e.cls ≠ "java/lang/invoke/VarHandle" ∧ (parseMethodDescriptor yJ0_charAt_5068e.desc).map (fun d => d.parameters.length) = some 1 := by decide +kernel
theorem dgX8_kindOf_0 : ∀ r ∈ ([(0, (.aload_n 0, 1)), (1, (.iload_n 1, 1)), (2, (.iaload, 1)), (3, (.invokestatic 25, 3)), (6, (.ifCond .eq 25, 3)), (9, (.aload_n 0, 1)), (10, (.iload_n 1, 1)), (11, (.iload_n 2, 1)), (12, (.invokestatic 29, 3)), (15, (.sipush 1000, 3)), (18, (.if_icmp .gt 9, 3)), (21, (.sipush 300, 3)), (24, (.goto 6, 3)), (27, (.sipush 301, 3)), (30, (.ireturn, 1)), (31, (.aload_n 0, 1)), (32, (.iload_n 1, 1)), (33, (.iaload, 1)), (34, (.invokestatic 35, 3)), (37, (.ifCond .eq 27, 3)), (40, (.aload_n 0, 1)), (41, (.iload_n 1, 1)), (42, (.iload_n 2, 1)), (43, (.invokestatic 38, 3)), (46, (.istore_n 3, 1)), (47, (.iload_n 3, 1)), (48, (.iconst (-1), 1)), (49, (.if_icmp .ne 9, 3)), (52, (.sipush 301, 3)), (55, (.goto 8, 3)), (58, (.sipush 256, 3)), (61, (.iload_n 3, 1)), (62, (.iadd, 1)), (63, (.ireturn, 1)), (64, (.aload_n 0, 1)), (65, (.iload_n 1, 1)), (66, (.iaload, 1)), (67, (.ireturn, 1))] : List (Nat × (Instr × Nat))), decode cX8_kindOf r.1 = .ok r.2 := by decide +kernel
theorem dX8_kindOf_0 : decode cX8_kindOf 0 = .ok (.aload_n 0, 1) := dgX8_kindOf_0 (0, (.aload_n 0, 1)) (List.mem_of_getElem? (i := 0) rfl)
theorem dX8_kindOf_1 : decode cX8_kindOf 1 = .ok (.iload_n 1, 1) := dgX8_kindOf_0 (1, (.iload_n 1, 1)) (List.mem_of_getElem? (i := 1) rfl)
theorem dX8_kindOf_2 : decode cX8_kindOf 2 = .ok (.iaload, 1) := dgX8_kindOf_0 (2, (.iaload, 1)) (List.mem_of_getElem? (i := 2) rfl)
theorem dX8_kindOf_3 : decode cX8_kindOf 3 = .ok (.invokestatic 25, 3) := dgX8_kindOf_0 (3, (.invokestatic 25, 3)) (List.mem_of_getElem? (i := 3) rfl)
theorem dX8_kindOf_6 : decode cX8_kindOf 6 = .ok (.ifCond .eq 25, 3) := dgX8_kindOf_0 (6, (.ifCond .eq 25, 3)) (List.mem_of_getElem? (i := 4) rfl)
theorem dX8_kindOf_9 : decode cX8_kindOf 9 = .ok (.aload_n 0, 1) := dgX8_kindOf_0 (9, (.aload_n 0, 1)) (List.mem_of_getElem? (i := 5) rfl)
theorem dX8_kindOf_10 : decode cX8_kindOf 10 = .ok (.iload_n 1, 1) := dgX8_kindOf_0 (10, (.iload_n 1, 1)) (List.mem_of_getElem? (i := 6) rfl)
theorem dX8_kindOf_11 : decode cX8_kindOf 11 = .ok (.iload_n 2, 1) := dgX8_kindOf_0 (11, (.iload_n 2, 1)) (List.mem_of_getElem? (i := 7) rfl)
theorem dX8_kindOf_12 : decode cX8_kindOf 12 = .ok (.invokestatic 29, 3) := dgX8_kindOf_0 (12, (.invokestatic 29, 3)) (List.mem_of_getElem? (i := 8) rfl)
theorem dX8_kindOf_15 : decode cX8_kindOf 15 = .ok (.sipush 1000, 3) := dgX8_kindOf_0 (15, (.sipush 1000, 3)) (List.mem_of_getElem? (i := 9) rfl)
theorem dX8_kindOf_18 : decode cX8_kindOf 18 = .ok (.if_icmp .gt 9, 3) := dgX8_kindOf_0 (18, (.if_icmp .gt 9, 3)) (List.mem_of_getElem? (i := 10) rfl)
theorem dX8_kindOf_21 : decode cX8_kindOf 21 = .ok (.sipush 300, 3) := dgX8_kindOf_0 (21, (.sipush 300, 3)) (List.mem_of_getElem? (i := 11) rfl)
theorem dX8_kindOf_24 : decode cX8_kindOf 24 = .ok (.goto 6, 3) := dgX8_kindOf_0 (24, (.goto 6, 3)) (List.mem_of_getElem? (i := 12) rfl)
theorem dX8_kindOf_27 : decode cX8_kindOf 27 = .ok (.sipush 301, 3) := dgX8_kindOf_0 (27, (.sipush 301, 3)) (List.mem_of_getElem? (i := 13) rfl)
theorem dX8_kindOf_30 : decode cX8_kindOf 30 = .ok (.ireturn, 1) := dgX8_kindOf_0 (30, (.ireturn, 1)) (List.mem_of_getElem? (i := 14) rfl)
theorem dX8_kindOf_31 : decode cX8_kindOf 31 = .ok (.aload_n 0, 1) := dgX8_kindOf_0 (31, (.aload_n 0, 1)) (List.mem_of_getElem? (i := 15) rfl)
theorem dX8_kindOf_32 : decode cX8_kindOf 32 = .ok (.iload_n 1, 1) := dgX8_kindOf_0 (32, (.iload_n 1, 1)) (List.mem_of_getElem? (i := 16) rfl)
theorem dX8_kindOf_33 : decode cX8_kindOf 33 = .ok (.iaload, 1) := dgX8_kindOf_0 (33, (.iaload, 1)) (List.mem_of_getElem? (i := 17) rfl)
theorem dX8_kindOf_34 : decode cX8_kindOf 34 = .ok (.invokestatic 35, 3) := dgX8_kindOf_0 (34, (.invokestatic 35, 3)) (List.mem_of_getElem? (i := 18) rfl)
theorem dX8_kindOf_37 : decode cX8_kindOf 37 = .ok (.ifCond .eq 27, 3) := dgX8_kindOf_0 (37, (.ifCond .eq 27, 3)) (List.mem_of_getElem? (i := 19) rfl)
theorem dX8_kindOf_40 : decode cX8_kindOf 40 = .ok (.aload_n 0, 1) := dgX8_kindOf_0 (40, (.aload_n 0, 1)) (List.mem_of_getElem? (i := 20) rfl)
theorem dX8_kindOf_41 : decode cX8_kindOf 41 = .ok (.iload_n 1, 1) := dgX8_kindOf_0 (41, (.iload_n 1, 1)) (List.mem_of_getElem? (i := 21) rfl)
theorem dX8_kindOf_42 : decode cX8_kindOf 42 = .ok (.iload_n 2, 1) := dgX8_kindOf_0 (42, (.iload_n 2, 1)) (List.mem_of_getElem? (i := 22) rfl)
theorem dX8_kindOf_43 : decode cX8_kindOf 43 = .ok (.invokestatic 38, 3) := dgX8_kindOf_0 (43, (.invokestatic 38, 3)) (List.mem_of_getElem? (i := 23) rfl)
theorem dX8_kindOf_46 : decode cX8_kindOf 46 = .ok (.istore_n 3, 1) := dgX8_kindOf_0 (46, (.istore_n 3, 1)) (List.mem_of_getElem? (i := 24) rfl)
theorem dX8_kindOf_47 : decode cX8_kindOf 47 = .ok (.iload_n 3, 1) := dgX8_kindOf_0 (47, (.iload_n 3, 1)) (List.mem_of_getElem? (i := 25) rfl)
theorem dX8_kindOf_48 : decode cX8_kindOf 48 = .ok (.iconst (-1), 1) := dgX8_kindOf_0 (48, (.iconst (-1), 1)) (List.mem_of_getElem? (i := 26) rfl)
theorem dX8_kindOf_49 : decode cX8_kindOf 49 = .ok (.if_icmp .ne 9, 3) := dgX8_kindOf_0 (49, (.if_icmp .ne 9, 3)) (List.mem_of_getElem? (i := 27) rfl)
theorem dX8_kindOf_52 : decode cX8_kindOf 52 = .ok (.sipush 301, 3) := dgX8_kindOf_0 (52, (.sipush 301, 3)) (List.mem_of_getElem? (i := 28) rfl)
theorem dX8_kindOf_55 : decode cX8_kindOf 55 = .ok (.goto 8, 3) := dgX8_kindOf_0 (55, (.goto 8, 3)) (List.mem_of_getElem? (i := 29) rfl)
theorem dX8_kindOf_58 : decode cX8_kindOf 58 = .ok (.sipush 256, 3) := dgX8_kindOf_0 (58, (.sipush 256, 3)) (List.mem_of_getElem? (i := 30) rfl)
theorem dX8_kindOf_61 : decode cX8_kindOf 61 = .ok (.iload_n 3, 1) := dgX8_kindOf_0 (61, (.iload_n 3, 1)) (List.mem_of_getElem? (i := 31) rfl)
theorem dX8_kindOf_62 : decode cX8_kindOf 62 = .ok (.iadd, 1) := dgX8_kindOf_0 (62, (.iadd, 1)) (List.mem_of_getElem? (i := 32) rfl)
theorem dX8_kindOf_63 : decode cX8_kindOf 63 = .ok (.ireturn, 1) := dgX8_kindOf_0 (63, (.ireturn, 1)) (List.mem_of_getElem? (i := 33) rfl)
theorem dX8_kindOf_64 : decode cX8_kindOf 64 = .ok (.aload_n 0, 1) := dgX8_kindOf_0 (64, (.aload_n 0, 1)) (List.mem_of_getElem? (i := 34) rfl)
theorem dX8_kindOf_65 : decode cX8_kindOf 65 = .ok (.iload_n 1, 1) := dgX8_kindOf_0 (65, (.iload_n 1, 1)) (List.mem_of_getElem? (i := 35) rfl)
theorem dX8_kindOf_66 : decode cX8_kindOf 66 = .ok (.iaload, 1) := dgX8_kindOf_0 (66, (.iaload, 1)) (List.mem_of_getElem? (i := 36) rfl)
theorem dX8_kindOf_67 : decode cX8_kindOf 67 = .ok (.ireturn, 1) := dgX8_kindOf_0 (67, (.ireturn, 1)) (List.mem_of_getElem? (i := 37) rfl)
theorem ml_X8_29 : Cond.methodLink RX8 29 yX8_numberIn ∈ tblG := tg 658 (by decide +kernel) (by decide +kernel)
theorem st_X8_numberIn : Cond.static yX8_numberIn ∈ tblG := tg 659 (by decide +kernel) (by decide +kernel)
theorem cd_X8_numberIn : Cond.code yX8_numberIn cX8_numberIn 5 (some .int) ∈ tblG := tg 660 (by decide +kernel) (by decide +kernel)
theorem gW_X8_numberIn : GoodIn tblG (wsG yX8_numberIn cX8_numberIn 5 (some .int)) := tgi cd_X8_numberIn
theorem gS_X8_29 : GoodIn tblG (va_wsS RX8 29 yX8_numberIn (wsG yX8_numberIn cX8_numberIn 5 (some .int))) := tgS ml_X8_29 st_X8_numberIn ini_X8 gW_X8_numberIn
theorem hs_X8_numberIn : yX8_numberIn.cls ≠ "java/lang/invoke/MethodHandle" ∧ yX8_numberIn.cls ≠ "java/lang/invoke/VarHandle" ∧ (parseMethodDescriptor yX8_numberIn.desc).map (fun d => d.parameters.length) = some 3 := by decide +kernel
theorem ml_X8_38 : Cond.methodLink RX8 38 yX8_wordIn ∈ tblG := tg 664 (by decide +kernel) (by decide +kernel)
theorem st_X8_wordIn : Cond.static yX8_wordIn ∈ tblG := tg 665 (by decide +kernel) (by decide +kernel)
theorem cd_X8_wordIn : Cond.code yX8_wordIn cX8_wordIn 8 (some .int) ∈ tblG := tg 666 (by decide +kernel) (by decide +kernel)
theorem gW_X8_wordIn : GoodIn tblG (wsG yX8_wordIn cX8_wordIn 8 (some .int)) := tgi cd_X8_wordIn
theorem gS_X8_38 : GoodIn tblG (va_wsS RX8 38 yX8_wordIn (wsG yX8_wordIn cX8_wordIn 8 (some .int))) := tgS ml_X8_38 st_X8_wordIn ini_X8 gW_X8_wordIn
theorem hs_X8_wordIn : yX8_wordIn.cls ≠ "java/lang/invoke/MethodHandle" ∧ yX8_wordIn.cls ≠ "java/lang/invoke/VarHandle" ∧ (parseMethodDescriptor yX8_wordIn.desc).map (fun d => d.parameters.length) = some 3 := by decide +kernel
theorem dgX8_kindAt_0 : ∀ r ∈ ([(0, (.iload_n 1, 1)), (1, (.ifCond .lt 21, 3)), (4, (.iload_n 1, 1)), (5, (.aload_n 0, 1)), (6, (.getfield 9, 3)), (9, (.arraylength, 1)), (10, (.if_icmp .ge 12, 3)), (13, (.aload_n 0, 1)), (14, (.getfield 9, 3)), (17, (.iload_n 1, 1)), (18, (.iaload, 1)), (19, (.goto 6, 3)), (22, (.sipush 302, 3)), (25, (.ireturn, 1))] : List (Nat × (Instr × Nat))), decode cX8_kindAt r.1 = .ok r.2 := by decide +kernel
theorem dX8_kindAt_0 : decode cX8_kindAt 0 = .ok (.iload_n 1, 1) := dgX8_kindAt_0 (0, (.iload_n 1, 1)) (List.mem_of_getElem? (i := 0) rfl)
theorem dX8_kindAt_1 : decode cX8_kindAt 1 = .ok (.ifCond .lt 21, 3) := dgX8_kindAt_0 (1, (.ifCond .lt 21, 3)) (List.mem_of_getElem? (i := 1) rfl)
theorem dX8_kindAt_4 : decode cX8_kindAt 4 = .ok (.iload_n 1, 1) := dgX8_kindAt_0 (4, (.iload_n 1, 1)) (List.mem_of_getElem? (i := 2) rfl)
theorem dX8_kindAt_5 : decode cX8_kindAt 5 = .ok (.aload_n 0, 1) := dgX8_kindAt_0 (5, (.aload_n 0, 1)) (List.mem_of_getElem? (i := 3) rfl)
theorem dX8_kindAt_6 : decode cX8_kindAt 6 = .ok (.getfield 9, 3) := dgX8_kindAt_0 (6, (.getfield 9, 3)) (List.mem_of_getElem? (i := 4) rfl)
theorem dX8_kindAt_9 : decode cX8_kindAt 9 = .ok (.arraylength, 1) := dgX8_kindAt_0 (9, (.arraylength, 1)) (List.mem_of_getElem? (i := 5) rfl)
theorem dX8_kindAt_10 : decode cX8_kindAt 10 = .ok (.if_icmp .ge 12, 3) := dgX8_kindAt_0 (10, (.if_icmp .ge 12, 3)) (List.mem_of_getElem? (i := 6) rfl)
theorem dX8_kindAt_13 : decode cX8_kindAt 13 = .ok (.aload_n 0, 1) := dgX8_kindAt_0 (13, (.aload_n 0, 1)) (List.mem_of_getElem? (i := 7) rfl)
theorem dX8_kindAt_14 : decode cX8_kindAt 14 = .ok (.getfield 9, 3) := dgX8_kindAt_0 (14, (.getfield 9, 3)) (List.mem_of_getElem? (i := 8) rfl)
theorem dX8_kindAt_17 : decode cX8_kindAt 17 = .ok (.iload_n 1, 1) := dgX8_kindAt_0 (17, (.iload_n 1, 1)) (List.mem_of_getElem? (i := 9) rfl)
theorem dX8_kindAt_18 : decode cX8_kindAt 18 = .ok (.iaload, 1) := dgX8_kindAt_0 (18, (.iaload, 1)) (List.mem_of_getElem? (i := 10) rfl)
theorem dX8_kindAt_19 : decode cX8_kindAt 19 = .ok (.goto 6, 3) := dgX8_kindAt_0 (19, (.goto 6, 3)) (List.mem_of_getElem? (i := 11) rfl)
theorem dX8_kindAt_25 : decode cX8_kindAt 25 = .ok (.ireturn, 1) := dgX8_kindAt_0 (25, (.ireturn, 1)) (List.mem_of_getElem? (i := 13) rfl)
theorem inG_X8 : ∀ w ∈ wsX80, w ∈ tblG := tgs [411, 413, 415] (by decide +kernel) (by decide +kernel)
theorem fl_X8_9 : Cond.fieldLink RX8 9 "LateGlass$Tokens" "kinds" "[I" ∈ tblG := tg 405 (by decide +kernel) (by decide +kernel)
theorem dgX8_cut_0 : ∀ r ∈ ([(0, (.iconst 0, 1)), (1, (.istore_n 3, 1)), (2, (.iconst 0, 1)), (3, (.istore 4, 2)), (5, (.iconst 0, 1)), (6, (.istore 5, 2)), (8, (.iload 5, 2)), (10, (.iload_n 2, 1)), (11, (.if_icmp .ge 90, 3)), (14, (.iload 4, 2)), (16, (.iload_n 2, 1)), (17, (.if_icmp .ge 84, 3)), (20, (.aload_n 1, 1)), (21, (.iload 4, 2)), (23, (.iload_n 2, 1)), (24, (.invokestatic 21, 3)), (27, (.istore 6, 2)), (29, (.aload_n 1, 1)), (30, (.iload 4, 2)), (32, (.iaload, 1)), (33, (.bipush 32, 2)), (35, (.if_icmp .eq 56, 3)), (38, (.aload_n 0, 1)), (39, (.getfield 18, 3)), (42, (.iload_n 3, 1)), (43, (.iload 4, 2)), (45, (.iastore, 1)), (46, (.aload_n 0, 1)), (47, (.getfield 15, 3)), (50, (.iload_n 3, 1)), (51, (.aload_n 1, 1)), (52, (.iload 4, 2)), (54, (.iaload, 1)), (55, (.invokestatic 25, 3)), (58, (.ifCond .eq 14, 3)), (61, (.aload_n 1, 1)), (62, (.iload 4, 2)), (64, (.iload 6, 2)), (66, (.invokestatic 29, 3)), (69, (.goto 4, 3))] : List (Nat × (Instr × Nat))), decode cX8_cut r.1 = .ok r.2 := by decide +kernel
theorem dX8_cut_0 : decode cX8_cut 0 = .ok (.iconst 0, 1) := dgX8_cut_0 (0, (.iconst 0, 1)) (List.mem_of_getElem? (i := 0) rfl)
theorem dX8_cut_1 : decode cX8_cut 1 = .ok (.istore_n 3, 1) := dgX8_cut_0 (1, (.istore_n 3, 1)) (List.mem_of_getElem? (i := 1) rfl)
theorem dX8_cut_2 : decode cX8_cut 2 = .ok (.iconst 0, 1) := dgX8_cut_0 (2, (.iconst 0, 1)) (List.mem_of_getElem? (i := 2) rfl)
theorem dX8_cut_3 : decode cX8_cut 3 = .ok (.istore 4, 2) := dgX8_cut_0 (3, (.istore 4, 2)) (List.mem_of_getElem? (i := 3) rfl)
theorem dX8_cut_5 : decode cX8_cut 5 = .ok (.iconst 0, 1) := dgX8_cut_0 (5, (.iconst 0, 1)) (List.mem_of_getElem? (i := 4) rfl)
theorem dX8_cut_6 : decode cX8_cut 6 = .ok (.istore 5, 2) := dgX8_cut_0 (6, (.istore 5, 2)) (List.mem_of_getElem? (i := 5) rfl)
theorem dX8_cut_8 : decode cX8_cut 8 = .ok (.iload 5, 2) := dgX8_cut_0 (8, (.iload 5, 2)) (List.mem_of_getElem? (i := 6) rfl)
theorem dX8_cut_10 : decode cX8_cut 10 = .ok (.iload_n 2, 1) := dgX8_cut_0 (10, (.iload_n 2, 1)) (List.mem_of_getElem? (i := 7) rfl)
theorem dX8_cut_11 : decode cX8_cut 11 = .ok (.if_icmp .ge 90, 3) := dgX8_cut_0 (11, (.if_icmp .ge 90, 3)) (List.mem_of_getElem? (i := 8) rfl)
theorem dX8_cut_14 : decode cX8_cut 14 = .ok (.iload 4, 2) := dgX8_cut_0 (14, (.iload 4, 2)) (List.mem_of_getElem? (i := 9) rfl)
theorem dX8_cut_16 : decode cX8_cut 16 = .ok (.iload_n 2, 1) := dgX8_cut_0 (16, (.iload_n 2, 1)) (List.mem_of_getElem? (i := 10) rfl)
theorem dX8_cut_17 : decode cX8_cut 17 = .ok (.if_icmp .ge 84, 3) := dgX8_cut_0 (17, (.if_icmp .ge 84, 3)) (List.mem_of_getElem? (i := 11) rfl)
theorem dX8_cut_20 : decode cX8_cut 20 = .ok (.aload_n 1, 1) := dgX8_cut_0 (20, (.aload_n 1, 1)) (List.mem_of_getElem? (i := 12) rfl)
theorem dX8_cut_21 : decode cX8_cut 21 = .ok (.iload 4, 2) := dgX8_cut_0 (21, (.iload 4, 2)) (List.mem_of_getElem? (i := 13) rfl)
theorem dX8_cut_23 : decode cX8_cut 23 = .ok (.iload_n 2, 1) := dgX8_cut_0 (23, (.iload_n 2, 1)) (List.mem_of_getElem? (i := 14) rfl)
theorem dX8_cut_24 : decode cX8_cut 24 = .ok (.invokestatic 21, 3) := dgX8_cut_0 (24, (.invokestatic 21, 3)) (List.mem_of_getElem? (i := 15) rfl)
theorem dX8_cut_27 : decode cX8_cut 27 = .ok (.istore 6, 2) := dgX8_cut_0 (27, (.istore 6, 2)) (List.mem_of_getElem? (i := 16) rfl)
theorem dX8_cut_29 : decode cX8_cut 29 = .ok (.aload_n 1, 1) := dgX8_cut_0 (29, (.aload_n 1, 1)) (List.mem_of_getElem? (i := 17) rfl)
theorem dX8_cut_30 : decode cX8_cut 30 = .ok (.iload 4, 2) := dgX8_cut_0 (30, (.iload 4, 2)) (List.mem_of_getElem? (i := 18) rfl)
theorem dX8_cut_32 : decode cX8_cut 32 = .ok (.iaload, 1) := dgX8_cut_0 (32, (.iaload, 1)) (List.mem_of_getElem? (i := 19) rfl)
theorem dX8_cut_33 : decode cX8_cut 33 = .ok (.bipush 32, 2) := dgX8_cut_0 (33, (.bipush 32, 2)) (List.mem_of_getElem? (i := 20) rfl)
theorem dX8_cut_35 : decode cX8_cut 35 = .ok (.if_icmp .eq 56, 3) := dgX8_cut_0 (35, (.if_icmp .eq 56, 3)) (List.mem_of_getElem? (i := 21) rfl)
theorem dX8_cut_38 : decode cX8_cut 38 = .ok (.aload_n 0, 1) := dgX8_cut_0 (38, (.aload_n 0, 1)) (List.mem_of_getElem? (i := 22) rfl)
theorem dX8_cut_39 : decode cX8_cut 39 = .ok (.getfield 18, 3) := dgX8_cut_0 (39, (.getfield 18, 3)) (List.mem_of_getElem? (i := 23) rfl)
theorem dX8_cut_42 : decode cX8_cut 42 = .ok (.iload_n 3, 1) := dgX8_cut_0 (42, (.iload_n 3, 1)) (List.mem_of_getElem? (i := 24) rfl)
theorem dX8_cut_43 : decode cX8_cut 43 = .ok (.iload 4, 2) := dgX8_cut_0 (43, (.iload 4, 2)) (List.mem_of_getElem? (i := 25) rfl)
theorem dX8_cut_45 : decode cX8_cut 45 = .ok (.iastore, 1) := dgX8_cut_0 (45, (.iastore, 1)) (List.mem_of_getElem? (i := 26) rfl)
theorem dX8_cut_46 : decode cX8_cut 46 = .ok (.aload_n 0, 1) := dgX8_cut_0 (46, (.aload_n 0, 1)) (List.mem_of_getElem? (i := 27) rfl)
theorem dX8_cut_47 : decode cX8_cut 47 = .ok (.getfield 15, 3) := dgX8_cut_0 (47, (.getfield 15, 3)) (List.mem_of_getElem? (i := 28) rfl)
theorem dX8_cut_50 : decode cX8_cut 50 = .ok (.iload_n 3, 1) := dgX8_cut_0 (50, (.iload_n 3, 1)) (List.mem_of_getElem? (i := 29) rfl)
theorem dX8_cut_51 : decode cX8_cut 51 = .ok (.aload_n 1, 1) := dgX8_cut_0 (51, (.aload_n 1, 1)) (List.mem_of_getElem? (i := 30) rfl)
theorem dX8_cut_52 : decode cX8_cut 52 = .ok (.iload 4, 2) := dgX8_cut_0 (52, (.iload 4, 2)) (List.mem_of_getElem? (i := 31) rfl)
theorem dX8_cut_54 : decode cX8_cut 54 = .ok (.iaload, 1) := dgX8_cut_0 (54, (.iaload, 1)) (List.mem_of_getElem? (i := 32) rfl)
theorem dX8_cut_55 : decode cX8_cut 55 = .ok (.invokestatic 25, 3) := dgX8_cut_0 (55, (.invokestatic 25, 3)) (List.mem_of_getElem? (i := 33) rfl)
theorem dX8_cut_58 : decode cX8_cut 58 = .ok (.ifCond .eq 14, 3) := dgX8_cut_0 (58, (.ifCond .eq 14, 3)) (List.mem_of_getElem? (i := 34) rfl)
theorem dX8_cut_61 : decode cX8_cut 61 = .ok (.aload_n 1, 1) := dgX8_cut_0 (61, (.aload_n 1, 1)) (List.mem_of_getElem? (i := 35) rfl)
theorem dX8_cut_62 : decode cX8_cut 62 = .ok (.iload 4, 2) := dgX8_cut_0 (62, (.iload 4, 2)) (List.mem_of_getElem? (i := 36) rfl)
theorem dX8_cut_64 : decode cX8_cut 64 = .ok (.iload 6, 2) := dgX8_cut_0 (64, (.iload 6, 2)) (List.mem_of_getElem? (i := 37) rfl)
theorem dX8_cut_66 : decode cX8_cut 66 = .ok (.invokestatic 29, 3) := dgX8_cut_0 (66, (.invokestatic 29, 3)) (List.mem_of_getElem? (i := 38) rfl)
theorem dX8_cut_69 : decode cX8_cut 69 = .ok (.goto 4, 3) := dgX8_cut_0 (69, (.goto 4, 3)) (List.mem_of_getElem? (i := 39) rfl)
theorem dgX8_cut_1 : ∀ r ∈ ([(72, (.iconst 0, 1)), (73, (.iastore, 1)), (74, (.aload_n 0, 1)), (75, (.getfield 9, 3)), (78, (.iload_n 3, 1)), (79, (.aload_n 1, 1)), (80, (.iload 4, 2)), (82, (.iload 6, 2)), (84, (.invokestatic 32, 3)), (87, (.iastore, 1)), (88, (.iinc 3 1, 3)), (91, (.iload 6, 2)), (93, (.istore 4, 2)), (95, (.iinc 5 1, 3)), (98, (.goto (-90), 3)), (101, (.aload_n 0, 1)), (102, (.getfield 18, 3)), (105, (.iload_n 3, 1)), (106, (.iload_n 2, 1)), (107, (.iastore, 1)), (108, (.aload_n 0, 1)), (109, (.getfield 9, 3)), (112, (.iload_n 3, 1)), (113, (.sipush 302, 3)), (116, (.iastore, 1)), (117, (.return_, 1))] : List (Nat × (Instr × Nat))), decode cX8_cut r.1 = .ok r.2 := by decide +kernel
theorem dX8_cut_72 : decode cX8_cut 72 = .ok (.iconst 0, 1) := dgX8_cut_1 (72, (.iconst 0, 1)) (List.mem_of_getElem? (i := 0) rfl)
theorem dX8_cut_73 : decode cX8_cut 73 = .ok (.iastore, 1) := dgX8_cut_1 (73, (.iastore, 1)) (List.mem_of_getElem? (i := 1) rfl)
theorem dX8_cut_74 : decode cX8_cut 74 = .ok (.aload_n 0, 1) := dgX8_cut_1 (74, (.aload_n 0, 1)) (List.mem_of_getElem? (i := 2) rfl)
theorem dX8_cut_75 : decode cX8_cut 75 = .ok (.getfield 9, 3) := dgX8_cut_1 (75, (.getfield 9, 3)) (List.mem_of_getElem? (i := 3) rfl)
theorem dX8_cut_78 : decode cX8_cut 78 = .ok (.iload_n 3, 1) := dgX8_cut_1 (78, (.iload_n 3, 1)) (List.mem_of_getElem? (i := 4) rfl)
theorem dX8_cut_79 : decode cX8_cut 79 = .ok (.aload_n 1, 1) := dgX8_cut_1 (79, (.aload_n 1, 1)) (List.mem_of_getElem? (i := 5) rfl)
theorem dX8_cut_80 : decode cX8_cut 80 = .ok (.iload 4, 2) := dgX8_cut_1 (80, (.iload 4, 2)) (List.mem_of_getElem? (i := 6) rfl)
theorem dX8_cut_82 : decode cX8_cut 82 = .ok (.iload 6, 2) := dgX8_cut_1 (82, (.iload 6, 2)) (List.mem_of_getElem? (i := 7) rfl)
theorem dX8_cut_84 : decode cX8_cut 84 = .ok (.invokestatic 32, 3) := dgX8_cut_1 (84, (.invokestatic 32, 3)) (List.mem_of_getElem? (i := 8) rfl)
theorem dX8_cut_87 : decode cX8_cut 87 = .ok (.iastore, 1) := dgX8_cut_1 (87, (.iastore, 1)) (List.mem_of_getElem? (i := 9) rfl)
theorem dX8_cut_88 : decode cX8_cut 88 = .ok (.iinc 3 1, 3) := dgX8_cut_1 (88, (.iinc 3 1, 3)) (List.mem_of_getElem? (i := 10) rfl)
theorem dX8_cut_91 : decode cX8_cut 91 = .ok (.iload 6, 2) := dgX8_cut_1 (91, (.iload 6, 2)) (List.mem_of_getElem? (i := 11) rfl)
theorem dX8_cut_93 : decode cX8_cut 93 = .ok (.istore 4, 2) := dgX8_cut_1 (93, (.istore 4, 2)) (List.mem_of_getElem? (i := 12) rfl)
theorem dX8_cut_95 : decode cX8_cut 95 = .ok (.iinc 5 1, 3) := dgX8_cut_1 (95, (.iinc 5 1, 3)) (List.mem_of_getElem? (i := 13) rfl)
theorem dX8_cut_98 : decode cX8_cut 98 = .ok (.goto (-90), 3) := dgX8_cut_1 (98, (.goto (-90), 3)) (List.mem_of_getElem? (i := 14) rfl)
theorem dX8_cut_101 : decode cX8_cut 101 = .ok (.aload_n 0, 1) := dgX8_cut_1 (101, (.aload_n 0, 1)) (List.mem_of_getElem? (i := 15) rfl)
theorem dX8_cut_102 : decode cX8_cut 102 = .ok (.getfield 18, 3) := dgX8_cut_1 (102, (.getfield 18, 3)) (List.mem_of_getElem? (i := 16) rfl)
theorem dX8_cut_105 : decode cX8_cut 105 = .ok (.iload_n 3, 1) := dgX8_cut_1 (105, (.iload_n 3, 1)) (List.mem_of_getElem? (i := 17) rfl)
theorem dX8_cut_106 : decode cX8_cut 106 = .ok (.iload_n 2, 1) := dgX8_cut_1 (106, (.iload_n 2, 1)) (List.mem_of_getElem? (i := 18) rfl)
theorem dX8_cut_107 : decode cX8_cut 107 = .ok (.iastore, 1) := dgX8_cut_1 (107, (.iastore, 1)) (List.mem_of_getElem? (i := 19) rfl)
theorem dX8_cut_108 : decode cX8_cut 108 = .ok (.aload_n 0, 1) := dgX8_cut_1 (108, (.aload_n 0, 1)) (List.mem_of_getElem? (i := 20) rfl)
theorem dX8_cut_109 : decode cX8_cut 109 = .ok (.getfield 9, 3) := dgX8_cut_1 (109, (.getfield 9, 3)) (List.mem_of_getElem? (i := 21) rfl)
theorem dX8_cut_112 : decode cX8_cut 112 = .ok (.iload_n 3, 1) := dgX8_cut_1 (112, (.iload_n 3, 1)) (List.mem_of_getElem? (i := 22) rfl)
theorem dX8_cut_113 : decode cX8_cut 113 = .ok (.sipush 302, 3) := dgX8_cut_1 (113, (.sipush 302, 3)) (List.mem_of_getElem? (i := 23) rfl)
theorem dX8_cut_116 : decode cX8_cut 116 = .ok (.iastore, 1) := dgX8_cut_1 (116, (.iastore, 1)) (List.mem_of_getElem? (i := 24) rfl)
theorem dX8_cut_117 : decode cX8_cut 117 = .ok (.return_, 1) := dgX8_cut_1 (117, (.return_, 1)) (List.mem_of_getElem? (i := 25) rfl)
theorem fl_X8_18 : Cond.fieldLink RX8 18 "LateGlass$Tokens" "places" "[I" ∈ tblG := tg 409 (by decide +kernel) (by decide +kernel)
theorem ml_X8_21 : Cond.methodLink RX8 21 yX8_endOf ∈ tblG := tg 649 (by decide +kernel) (by decide +kernel)
theorem st_X8_endOf : Cond.static yX8_endOf ∈ tblG := tg 650 (by decide +kernel) (by decide +kernel)
theorem cd_X8_endOf : Cond.code yX8_endOf cX8_endOf 4 (some .int) ∈ tblG := tg 651 (by decide +kernel) (by decide +kernel)
theorem gW_X8_endOf : GoodIn tblG (wsG yX8_endOf cX8_endOf 4 (some .int)) := tgi cd_X8_endOf
theorem gS_X8_21 : GoodIn tblG (va_wsS RX8 21 yX8_endOf (wsG yX8_endOf cX8_endOf 4 (some .int))) := tgS ml_X8_21 st_X8_endOf ini_X8 gW_X8_endOf
theorem hs_X8_endOf : yX8_endOf.cls ≠ "java/lang/invoke/MethodHandle" ∧ yX8_endOf.cls ≠ "java/lang/invoke/VarHandle" ∧ (parseMethodDescriptor yX8_endOf.desc).map (fun d => d.parameters.length) = some 3 := by decide +kernel
theorem fl_X8_15 : Cond.fieldLink RX8 15 "LateGlass$Tokens" "numbers" "[I" ∈ tblG := tg 407 (by decide +kernel) (by decide +kernel)
theorem ml_X8_32 : Cond.methodLink RX8 32 yX8_kindOf ∈ tblG := tg 661 (by decide +kernel) (by decide +kernel)
theorem st_X8_kindOf : Cond.static yX8_kindOf ∈ tblG := tg 662 (by decide +kernel) (by decide +kernel)
theorem cd_X8_kindOf : Cond.code yX8_kindOf cX8_kindOf 4 (some .int) ∈ tblG := tg 663 (by decide +kernel) (by decide +kernel)
theorem gW_X8_kindOf : GoodIn tblG (wsG yX8_kindOf cX8_kindOf 4 (some .int)) := tgi cd_X8_kindOf
theorem gS_X8_32 : GoodIn tblG (va_wsS RX8 32 yX8_kindOf (wsG yX8_kindOf cX8_kindOf 4 (some .int))) := tgS ml_X8_32 st_X8_kindOf ini_X8 gW_X8_kindOf
theorem hs_X8_kindOf : yX8_kindOf.cls ≠ "java/lang/invoke/MethodHandle" ∧ yX8_kindOf.cls ≠ "java/lang/invoke/VarHandle" ∧ (parseMethodDescriptor yX8_kindOf.desc).map (fun d => d.parameters.length) = some 3 := by decide +kernel
