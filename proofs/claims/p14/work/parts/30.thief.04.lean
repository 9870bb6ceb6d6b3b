set_option maxHeartbeats 4000000 in
set_option maxRecDepth 100000 in
theorem th_coreN (l : Launch) (G : g5_G) (a_k a_h a_g a_gn a_b a_bn a_p a_pn a_s a_sn a_bb a_j a_as a_sk a_l a_pt a_th a_ba a_ad a_hp a_w a_cn a_nx a_hl a_lv : Nat) (sz : Nat) (e_le : Int32) (e_st : Int32) (e_fo : Int32) (e_lc : Int32) (e_g : Int32) (e_b : Int32) (e_p : Int32) (e_s : Int32) (e_ln : Int32) (e_se : Int32) (e_lh : Int32) (e_br : Int32) (e_we : Int32) (e_me : Int32) (e_ce : Int32) (e_wy : Int32) (e_ho : Int32) (e_ov : Int32) (e_fu : Int32) (e_wa : Int64) (e_gb : Int64) (f_g : Nat → Int32) (f_b : Nat → Int32) (f_p : Nat → Int32) (f_s : Nat → Int32) (f_bb : Nat → Int64) (f_as : Nat → Int32) (f_sk : Nat → Int64) (f_l : Nat → Option Nat) (f_pt : Nat → Int32) (f_ba : Nat → Int64) (f_ad : Nat → Int32) (f_hp : Nat → Int32) (h_e_g : 0 ≤ e_g.toInt ∧ e_g.toInt ≤ 6) (h_e_b : 0 ≤ e_b.toInt ∧ e_b.toInt ≤ 5) (h_e_p : 0 ≤ e_p.toInt ∧ e_p.toInt ≤ 8) (h_e_s : 0 ≤ e_s.toInt ∧ e_s.toInt ≤ 10) (h_e_ov : 0 ≤ e_ov.toInt ∧ e_ov.toInt ≤ 1) (e_gk : gOK f_g e_g.toInt) (e_pk : gOK f_p e_p.toInt) (e_gi : inT e_gb f_g e_g.toInt) (e_sh : ∀ r : Int, 0 ≤ r → r < e_s.toInt → 0 ≤ (tget f_s e_s.toInt 4 r (3 : Int32).toInt).toInt ∧ (tget f_s e_s.toInt 4 r (3 : Int32).toInt).toInt ≤ 1) (e_s5 : snS f_s e_s.toInt e_s.toInt.toNat ≤ 5) (e_f : e_fo.toInt < 0 ∨ e_lc.toInt ≤ e_fo.toInt) : Met l yX7_findCore (wsG yX7_findCore cX7_findCore 3 (some .int)) ({ frames := 15, cells := 0, slots := 0, locals := 580 }) (va_Pc [.ref a_th] (g5_P G [(a_k, (oc5 a_h a_j a_pt e_ln e_se e_lh e_br e_we e_me e_ce e_wy e_ho e_ov)), (a_h, (oc1 e_wa e_le e_st e_fo e_lc a_l a_g a_b a_s a_p a_w e_gb a_bb)), (a_g, (oc6 6 5 a_gn e_g)), (a_gn, (arI G 30 f_g)), (a_b, (oc6 5 24 a_bn e_b)), (a_bn, (arI G 120 f_b)), (a_p, (oc6 8 5 a_pn e_p)), (a_pn, (arI G 40 f_p)), (a_s, (oc6 10 4 a_sn e_s)), (a_sn, (arI G 40 f_s)), (a_bb, (arJ G 24 f_bb)), (a_j, (oc2 a_as a_sk)), (a_as, (arI G 8 f_as)), (a_sk, (arJ G 50 f_sk)), (a_l, (arW G 6 f_l)), (a_pt, (arI G 200 f_pt)), (a_th, (oc7 a_h a_k a_ba a_ad e_fu a_cn a_nx a_hp a_hl a_lv)), (a_ba, (arJ G 24 f_ba)), (a_ad, (arI G 1536 f_ad)), (a_hp, (arI G 1536 f_hp))] sz)) (va_Qi (fun (r : Int32) (u : va_W) => (∃ (o_r : Int32) (o_ln : Int32) (o_se : Int32) (o_lh : Int32) (o_br : Int32) (o_we : Int32) (o_me : Int32) (o_ce : Int32) (o_wy : Int32) (o_ho : Int32) (o_ov : Int32) (o_pt : Nat → Int32) (o_as : Nat → Int32) (o_sk : Nat → Int64) (o_fu : Int32) (o_ba : Nat → Int64) (o_ad : Nat → Int32) (o_hp : Nat → Int32), (0 ≤ o_ov.toInt ∧ o_ov.toInt ≤ 1) ∧ (TOK o_fu o_ad) ∧ (r = o_r) ∧ (u = [(a_k, (oc5 a_h a_j a_pt o_ln o_se o_lh o_br o_we o_me o_ce o_wy o_ho o_ov)), (a_h, (oc1 e_wa e_le e_st e_fo e_lc a_l a_g a_b a_s a_p a_w e_gb a_bb)), (a_g, (oc6 6 5 a_gn e_g)), (a_gn, (arI G 30 f_g)), (a_b, (oc6 5 24 a_bn e_b)), (a_bn, (arI G 120 f_b)), (a_p, (oc6 8 5 a_pn e_p)), (a_pn, (arI G 40 f_p)), (a_s, (oc6 10 4 a_sn e_s)), (a_sn, (arI G 40 f_s)), (a_bb, (arJ G 24 f_bb)), (a_j, (oc2 a_as a_sk)), (a_as, (arI G 8 o_as)), (a_sk, (arJ G 50 o_sk)), (a_l, (arW G 6 f_l)), (a_pt, (arI G 200 o_pt)), (a_th, (oc7 a_h a_k a_ba a_ad o_fu a_cn a_nx a_hp a_hl a_lv)), (a_ba, (arJ G 24 o_ba)), (a_ad, (arI G 1536 o_ad)), (a_hp, (arI G 1536 o_hp))]))) (g5_B G (va_A [(a_k, (oc5 a_h a_j a_pt e_ln e_se e_lh e_br e_we e_me e_ce e_wy e_ho e_ov)), (a_h, (oc1 e_wa e_le e_st e_fo e_lc a_l a_g a_b a_s a_p a_w e_gb a_bb)), (a_g, (oc6 6 5 a_gn e_g)), (a_gn, (arI G 30 f_g)), (a_b, (oc6 5 24 a_bn e_b)), (a_bn, (arI G 120 f_b)), (a_p, (oc6 8 5 a_pn e_p)), (a_pn, (arI G 40 f_p)), (a_s, (oc6 10 4 a_sn e_s)), (a_sn, (arI G 40 f_s)), (a_bb, (arJ G 24 f_bb)), (a_j, (oc2 a_as a_sk)), (a_as, (arI G 8 f_as)), (a_sk, (arJ G 50 f_sk)), (a_l, (arW G 6 f_l)), (a_pt, (arI G 200 f_pt)), (a_th, (oc7 a_h a_k a_ba a_ad e_fu a_cn a_nx a_hp a_hl a_lv)), (a_ba, (arJ G 24 f_ba)), (a_ad, (arI G 1536 f_ad)), (a_hp, (arI G 1536 f_hp))] sz)) (va_A [(a_k, (oc5 a_h a_j a_pt e_ln e_se e_lh e_br e_we e_me e_ce e_wy e_ho e_ov)), (a_h, (oc1 e_wa e_le e_st e_fo e_lc a_l a_g a_b a_s a_p a_w e_gb a_bb)), (a_g, (oc6 6 5 a_gn e_g)), (a_gn, (arI G 30 f_g)), (a_b, (oc6 5 24 a_bn e_b)), (a_bn, (arI G 120 f_b)), (a_p, (oc6 8 5 a_pn e_p)), (a_pn, (arI G 40 f_p)), (a_s, (oc6 10 4 a_sn e_s)), (a_sn, (arI G 40 f_s)), (a_bb, (arJ G 24 f_bb)), (a_j, (oc2 a_as a_sk)), (a_as, (arI G 8 f_as)), (a_sk, (arJ G 50 f_sk)), (a_l, (arW G 6 f_l)), (a_pt, (arI G 200 f_pt)), (a_th, (oc7 a_h a_k a_ba a_ad e_fu a_cn a_nx a_hp a_hl a_lv)), (a_ba, (arJ G 24 f_ba)), (a_ad, (arI G 1536 f_ad)), (a_hp, (arI G 1536 f_hp))] sz)) 0 0 (va_A [(a_k, (oc5 a_h a_j a_pt e_ln e_se e_lh e_br e_we e_me e_ce e_wy e_ho e_ov)), (a_h, (oc1 e_wa e_le e_st e_fo e_lc a_l a_g a_b a_s a_p a_w e_gb a_bb)), (a_g, (oc6 6 5 a_gn e_g)), (a_gn, (arI G 30 f_g)), (a_b, (oc6 5 24 a_bn e_b)), (a_bn, (arI G 120 f_b)), (a_p, (oc6 8 5 a_pn e_p)), (a_pn, (arI G 40 f_p)), (a_s, (oc6 10 4 a_sn e_s)), (a_sn, (arI G 40 f_s)), (a_bb, (arJ G 24 f_bb)), (a_j, (oc2 a_as a_sk)), (a_as, (arI G 8 f_as)), (a_sk, (arJ G 50 f_sk)), (a_l, (arW G 6 f_l)), (a_pt, (arI G 200 f_pt)), (a_th, (oc7 a_h a_k a_ba a_ad e_fu a_cn a_nx a_hp a_hl a_lv)), (a_ba, (arJ G 24 f_ba)), (a_ad, (arI G 1536 f_ad)), (a_hp, (arI G 1536 f_hp))] sz) := by
  refine Met.ofW (cc := cX7_findCore) (maxL := 3) (ret := (some .int)) (by decide) rfl ?_
  intro p e s m args below meth c s₁ B hml hv
  obtain ⟨rfl, hsz, hP, hK, hD0, hN, hT⟩ := hv
  have hx := B.exec
  have hb := B.bytes
  have hr := B.returns
  have hts : ∀ w ∈ tblG, w.before _ s = true := fun w h => atoms_spec (ws := (wsG yX7_findCore cX7_findCore 3 (some .int))) B.pre w (List.mem_cons_of_mem _ h)
  have hown : s.vm.findClass RX7 = some m.cls := findClass_of_methodNamed B.named
  have hlocks := B.notSynchronized
  subst hsz
  have hD := hD0.self (sz := s.heap.size)
  generalize hAe : va_A [(a_k, (oc5 a_h a_j a_pt e_ln e_se e_lh e_br e_we e_me e_ce e_wy e_ho e_ov)), (a_h, (oc1 e_wa e_le e_st e_fo e_lc a_l a_g a_b a_s a_p a_w e_gb a_bb)), (a_g, (oc6 6 5 a_gn e_g)), (a_gn, (arI G 30 f_g)), (a_b, (oc6 5 24 a_bn e_b)), (a_bn, (arI G 120 f_b)), (a_p, (oc6 8 5 a_pn e_p)), (a_pn, (arI G 40 f_p)), (a_s, (oc6 10 4 a_sn e_s)), (a_sn, (arI G 40 f_s)), (a_bb, (arJ G 24 f_bb)), (a_j, (oc2 a_as a_sk)), (a_as, (arI G 8 f_as)), (a_sk, (arJ G 50 f_sk)), (a_l, (arW G 6 f_l)), (a_pt, (arI G 200 f_pt)), (a_th, (oc7 a_h a_k a_ba a_ad e_fu a_cn a_nx a_hp a_hl a_lv)), (a_ba, (arJ G 24 f_ba)), (a_ad, (arI G 1536 f_ad)), (a_hp, (arI G 1536 f_hp))] s.heap.size = A at hD hT ⊢
  have hA : ∀ q : Nat, s.heap.size ≤ q → A q := fun q h => by rw [← hAe]; exact Or.inr h
  have hS : va_S A s.heap s.heap [] := va_S.rf
  have hP : va_P G.1 vwCl [(a_k, (oc5 a_h a_j a_pt e_ln e_se e_lh e_br e_we e_me e_ce e_wy e_ho e_ov)), (a_h, (oc1 e_wa e_le e_st e_fo e_lc a_l a_g a_b a_s a_p a_w e_gb a_bb)), (a_g, (oc6 6 5 a_gn e_g)), (a_gn, (arI G 30 f_g)), (a_b, (oc6 5 24 a_bn e_b)), (a_bn, (arI G 120 f_b)), (a_p, (oc6 8 5 a_pn e_p)), (a_pn, (arI G 40 f_p)), (a_s, (oc6 10 4 a_sn e_s)), (a_sn, (arI G 40 f_s)), (a_bb, (arJ G 24 f_bb)), (a_j, (oc2 a_as a_sk)), (a_as, (arI G 8 f_as)), (a_sk, (arJ G 50 f_sk)), (a_l, (arW G 6 f_l)), (a_pt, (arI G 200 f_pt)), (a_th, (oc7 a_h a_k a_ba a_ad e_fu a_cn a_nx a_hp a_hl a_lv)), (a_ba, (arJ G 24 f_ba)), (a_ad, (arI G 1536 f_ad)), (a_hp, (arI G 1536 f_hp))] s.heap := hP
  have hl := lv_entry ([.ref a_th]) (n := 3) (Nat.le_of_ble_eq_true rfl)
  rw [lg_entry_eq]
  generalize (lg_sl ([.ref a_th]) ++ List.replicate (3 - (lg_sl ([.ref a_th])).length) Slot.unset).toArray = ls at hl ⊢
  have hl : lv_has ls 3 [(0, .ref a_th)] := hl
  refine lv_aload_n hx hb dX7_findCore_0 rfl (lv_at hl 0 rfl) ?_
  obtain ⟨hPc, hDc, hFc⟩ := g5_sub3 (wc := [(a_th, (oc7 a_h a_k a_ba a_ad e_fu a_cn a_nx a_hp a_hl a_lv)), (a_h, (oc1 e_wa e_le e_st e_fo e_lc a_l a_g a_b a_s a_p a_w e_gb a_bb)), (a_s, (oc6 10 4 a_sn e_s))]) hP hD hS hA [16, 1, 8] (by decide) rfl
  refine va_calli (va_runV (As := []) (rest := []) ⟨hx, hb, hml, hown, hts⟩ (th_all l G a_th a_h a_s a_k a_ba a_ad a_cn a_nx a_hp a_hl a_lv a_l a_g a_b a_p a_w a_bb a_sn s.heap.size e_fu e_le e_st e_fo e_lc e_s e_wa e_gb h_e_s) (cwV 0 hts gV_X7_134 rfl rfl rfl hv_X7_allSightings ⟨Nat.le_of_ble_eq_true rfl, Nat.le_of_ble_eq_true rfl⟩) (g5_preV hPc hK hDc hN hT hS hFc (ci := 7) (q0 := 0) rfl rfl) rfl rfl hl.1 rfl (lv_room (Nat.le_of_ble_eq_true rfl)) dX7_findCore_1 ⟨Nat.le_of_ble_eq_true rfl, Nat.le_of_ble_eq_true rfl⟩) hS (fun q _ h => hFc q h) hFc (fun r u t H1 locs ht hvm hw hB hz1 hk1 hS => ?_)
  obtain ⟨hP1, hD1⟩ := hB
  rw [ht] at hP1
  obtain ⟨z1, y2, rfl⟩ := hw
  obtain ⟨hP, hD⟩ := va_join (wr := [(a_k, (oc5 a_h a_j a_pt e_ln e_se e_lh e_br e_we e_me e_ce e_wy e_ho e_ov)), (a_g, (oc6 6 5 a_gn e_g)), (a_gn, (arI G 30 f_g)), (a_b, (oc6 5 24 a_bn e_b)), (a_bn, (arI G 120 f_b)), (a_p, (oc6 8 5 a_pn e_p)), (a_pn, (arI G 40 f_p)), (a_sn, (arI G 40 f_s)), (a_bb, (arJ G 24 f_bb)), (a_j, (oc2 a_as a_sk)), (a_as, (arI G 8 f_as)), (a_sk, (arJ G 50 f_sk)), (a_l, (arW G 6 f_l)), (a_pt, (arI G 200 f_pt)), (a_ba, (arJ G 24 f_ba)), (a_ad, (arI G 1536 f_ad)), (a_hp, (arI G 1536 f_hp))]) hP hD [16, 1, 8] [0, 2, 3, 4, 5, 6, 7, 9, 10, 11, 12, 13, 14, 15, 17, 18, 19] rfl rfl (by decide) (by decide) hk1 hFc hP1 hD1
  generalize H1 = H at hP hS ⊢
  refine g5_rs [(a_k, (oc5 a_h a_j a_pt e_ln e_se e_lh e_br e_we e_me e_ce e_wy e_ho e_ov)), (a_g, (oc6 6 5 a_gn e_g)), (a_gn, (arI G 30 f_g)), (a_b, (oc6 5 24 a_bn e_b)), (a_bn, (arI G 120 f_b)), (a_p, (oc6 8 5 a_pn e_p)), (a_pn, (arI G 40 f_p)), (a_sn, (arI G 40 f_s)), (a_bb, (arJ G 24 f_bb)), (a_j, (oc2 a_as a_sk)), (a_as, (arI G 8 f_as)), (a_sk, (arJ G 50 f_sk)), (a_l, (arW G 6 f_l)), (a_pt, (arI G 200 f_pt)), (a_ba, (arJ G 24 f_ba)), (a_ad, (arI G 1536 f_ad)), (a_hp, (arI G 1536 f_hp)), (a_th, (oc7 a_h a_k a_ba a_ad e_fu a_cn a_nx a_hp a_hl a_lv)), (a_h, (oc1 e_wa e_le e_st e_fo e_lc a_l a_g a_b a_s a_p a_w e_gb a_bb)), (a_s, (oc6 10 4 a_sn e_s))] hP hD (fun hP hD => ?_)
  refine g5_ti (v := z1) y2 ?_
  refine lv_istore_n (lv' := [(1, .int z1), (0, .ref a_th)]) hx hb dX7_findCore_4 rfl hl (by decide) rfl (fun ls hl => ?_)
  refine lv_aload_n hx hb dX7_findCore_5 rfl (lv_at hl 1 rfl) ?_
  refine lv_iload_n hx hb dX7_findCore_6 rfl (lv_at hl 0 rfl) ?_
  obtain ⟨hPc, hDc, hFc⟩ := g5_sub3 (wc := [(a_k, (oc5 a_h a_j a_pt e_ln e_se e_lh e_br e_we e_me e_ce e_wy e_ho e_ov)), (a_h, (oc1 e_wa e_le e_st e_fo e_lc a_l a_g a_b a_s a_p a_w e_gb a_bb)), (a_g, (oc6 6 5 a_gn e_g)), (a_gn, (arI G 30 f_g)), (a_b, (oc6 5 24 a_bn e_b)), (a_bn, (arI G 120 f_b)), (a_p, (oc6 8 5 a_pn e_p)), (a_pn, (arI G 40 f_p)), (a_s, (oc6 10 4 a_sn e_s)), (a_sn, (arI G 40 f_s)), (a_bb, (arJ G 24 f_bb)), (a_j, (oc2 a_as a_sk)), (a_as, (arI G 8 f_as)), (a_sk, (arJ G 50 f_sk)), (a_l, (arW G 6 f_l)), (a_pt, (arI G 200 f_pt)), (a_th, (oc7 a_h a_k a_ba a_ad e_fu a_cn a_nx a_hp a_hl a_lv)), (a_ba, (arJ G 24 f_ba)), (a_ad, (arI G 1536 f_ad))]) hP hD hS hA [0, 18, 1, 2, 3, 4, 5, 6, 19, 7, 8, 9, 10, 11, 12, 13, 17, 14, 15] (by decide) rfl
  refine va_callv (va_runV (As := [.int z1]) (rest := []) ⟨hx, hb, hml, hown, hts⟩ (th_loadN l G a_k a_h a_g a_gn a_b a_bn a_p a_pn a_s a_sn a_bb a_j a_as a_sk a_l a_pt a_th a_ba a_ad a_w a_cn a_nx a_hp a_hl a_lv H.size e_le e_st e_fo e_lc e_g e_b e_p e_s e_ln e_se e_lh e_br e_we e_me e_ce e_wy e_ho e_ov e_fu z1 e_wa e_gb f_g f_b f_p f_s f_bb f_as f_sk f_l f_pt f_ba f_ad h_e_g h_e_b h_e_p h_e_s h_e_ov (e_gk) (e_pk) (e_gi) (e_sh) (e_s5) (e_f)) (cwV 1 hts gV_X7_138 rfl rfl rfl hv_X7_load ⟨Nat.le_of_ble_eq_true rfl, Nat.le_of_ble_eq_true rfl⟩) (g5_preV hPc hK hDc hN hT hS hFc (ci := 7) (q0 := 16) rfl rfl) rfl rfl hl.1 rfl (lv_room (Nat.le_of_ble_eq_true rfl)) dX7_findCore_7 ⟨Nat.le_of_ble_eq_true rfl, Nat.le_of_ble_eq_true rfl⟩) hS (fun q _ h => hFc q h) hFc (fun u t H1 locs ht hvm hw hB hz1 hk1 hS => ?_)
  obtain ⟨hP1, hD1⟩ := hB
  rw [ht] at hP1
  obtain ⟨z5, z6, z7, z8, z9, z10, z11, z12, z13, z14, z15, z16, z17, z18, z19, z20, i_3, i_4, rfl⟩ := hw
  have i_3 : 0 ≤ z14.toInt ∧ z14.toInt ≤ 1 := i_3
  have i_4 : TOK z18 z20 := i_4
  obtain ⟨hP, hD⟩ := va_join (wr := [(a_hp, (arI G 1536 f_hp))]) hP hD [0, 18, 1, 2, 3, 4, 5, 6, 19, 7, 8, 9, 10, 11, 12, 13, 17, 14, 15] [16] rfl rfl (by decide) (by decide) hk1 hFc hP1 hD1
  generalize H1 = H at hP hS ⊢
  refine g5_rs [(a_hp, (arI G 1536 f_hp)), (a_k, (oc5 a_h a_j a_pt z5 z6 z7 z8 z9 z10 z11 z12 z13 z14)), (a_h, (oc1 e_wa e_le e_st e_fo e_lc a_l a_g a_b a_s a_p a_w e_gb a_bb)), (a_g, (oc6 6 5 a_gn e_g)), (a_gn, (arI G 30 f_g)), (a_b, (oc6 5 24 a_bn e_b)), (a_bn, (arI G 120 f_b)), (a_p, (oc6 8 5 a_pn e_p)), (a_pn, (arI G 40 f_p)), (a_s, (oc6 10 4 a_sn e_s)), (a_sn, (arI G 40 f_s)), (a_bb, (arJ G 24 f_bb)), (a_j, (oc2 a_as a_sk)), (a_as, (arI G 8 z16)), (a_sk, (arJ G 50 z17)), (a_l, (arW G 6 f_l)), (a_pt, (arI G 200 z15)), (a_th, (oc7 a_h a_k a_ba a_ad z18 a_cn a_nx a_hp a_hl a_lv)), (a_ba, (arJ G 24 z19)), (a_ad, (arI G 1536 z20))] hP hD (fun hP hD => ?_)
  refine lv_aload_n hx hb dX7_findCore_10 rfl (lv_at hl 1 rfl) ?_
  obtain ⟨hPc, hDc, hFc⟩ := g5_sub3 (wc := [(a_th, (oc7 a_h a_k a_ba a_ad z18 a_cn a_nx a_hp a_hl a_lv)), (a_ba, (arJ G 24 z19)), (a_ad, (arI G 1536 z20)), (a_hp, (arI G 1536 f_hp))]) hP hD hS hA [17, 18, 19, 0] (by decide) rfl
  refine va_calli (va_runV (As := []) (rest := []) ⟨hx, hb, hml, hown, hts⟩ (th_anyFits l G a_th a_ba a_ad a_hp a_h a_k a_cn a_nx a_hl a_lv H.size z18 z19 z20 f_hp) (cwV 0 hts gV_X7_117 rfl rfl rfl hv_X7_anyFits ⟨Nat.le_of_ble_eq_true rfl, Nat.le_of_ble_eq_true rfl⟩) (g5_preV hPc hK hDc hN hT hS hFc (ci := 7) (q0 := 0) rfl rfl) rfl rfl hl.1 rfl (lv_room (Nat.le_of_ble_eq_true rfl)) dX7_findCore_11 ⟨Nat.le_of_ble_eq_true rfl, Nat.le_of_ble_eq_true rfl⟩) hS (fun q _ h => hFc q h) hFc (fun r u t H1 locs ht hvm hw hB hz1 hk1 hS => ?_)
  obtain ⟨hP1, hD1⟩ := hB
  rw [ht] at hP1
  obtain ⟨z22, z23, i_21, y24, rfl⟩ := hw
  have i_21 : 0 ≤ z22.toInt ∧ z22.toInt ≤ 1 := i_21
  obtain ⟨hP, hD⟩ := va_join (wr := [(a_k, (oc5 a_h a_j a_pt z5 z6 z7 z8 z9 z10 z11 z12 z13 z14)), (a_h, (oc1 e_wa e_le e_st e_fo e_lc a_l a_g a_b a_s a_p a_w e_gb a_bb)), (a_g, (oc6 6 5 a_gn e_g)), (a_gn, (arI G 30 f_g)), (a_b, (oc6 5 24 a_bn e_b)), (a_bn, (arI G 120 f_b)), (a_p, (oc6 8 5 a_pn e_p)), (a_pn, (arI G 40 f_p)), (a_s, (oc6 10 4 a_sn e_s)), (a_sn, (arI G 40 f_s)), (a_bb, (arJ G 24 f_bb)), (a_j, (oc2 a_as a_sk)), (a_as, (arI G 8 z16)), (a_sk, (arJ G 50 z17)), (a_l, (arW G 6 f_l)), (a_pt, (arI G 200 z15))]) hP hD [17, 18, 19, 0] [1, 2, 3, 4, 5, 6, 7, 8, 9, 10, 11, 12, 13, 14, 15, 16] rfl rfl (by decide) (by decide) hk1 hFc hP1 hD1
  generalize H1 = H at hP hS ⊢
  refine g5_rs [(a_k, (oc5 a_h a_j a_pt z5 z6 z7 z8 z9 z10 z11 z12 z13 z14)), (a_h, (oc1 e_wa e_le e_st e_fo e_lc a_l a_g a_b a_s a_p a_w e_gb a_bb)), (a_g, (oc6 6 5 a_gn e_g)), (a_gn, (arI G 30 f_g)), (a_b, (oc6 5 24 a_bn e_b)), (a_bn, (arI G 120 f_b)), (a_p, (oc6 8 5 a_pn e_p)), (a_pn, (arI G 40 f_p)), (a_s, (oc6 10 4 a_sn e_s)), (a_sn, (arI G 40 f_s)), (a_bb, (arJ G 24 f_bb)), (a_j, (oc2 a_as a_sk)), (a_as, (arI G 8 z16)), (a_sk, (arJ G 50 z17)), (a_l, (arW G 6 f_l)), (a_pt, (arI G 200 z15)), (a_th, (oc7 a_h a_k a_ba a_ad z18 a_cn a_nx a_hp a_hl a_lv)), (a_ba, (arJ G 24 z19)), (a_ad, (arI G 1536 z20)), (a_hp, (arI G 1536 z23))] hP hD (fun hP hD => ?_)
  refine g5_ti (v := z22) y24 ?_
  refine lv_if_eq (tgt := 19) hx hb dX7_findCore_14 (by decide) (fun c_25 => ?_) (fun c_25 => ?_)
  ·
    have i_25 : z22.toInt = 0 := by have z := g5_eq (a := z22.toInt) (b := 0) (by rfl) (by decide) c_25; omega
    refine lv_aload_n hx hb dX7_findCore_19 rfl (lv_at hl 1 rfl) ?_
    refine lv_iconst (v := 0) hx hb dX7_findCore_20 (by decide) ?_
    obtain ⟨hPc, hDc, hFc⟩ := g5_sub3 (wc := [(a_k, (oc5 a_h a_j a_pt z5 z6 z7 z8 z9 z10 z11 z12 z13 z14)), (a_h, (oc1 e_wa e_le e_st e_fo e_lc a_l a_g a_b a_s a_p a_w e_gb a_bb)), (a_g, (oc6 6 5 a_gn e_g)), (a_gn, (arI G 30 f_g)), (a_b, (oc6 5 24 a_bn e_b)), (a_bn, (arI G 120 f_b)), (a_p, (oc6 8 5 a_pn e_p)), (a_pn, (arI G 40 f_p)), (a_s, (oc6 10 4 a_sn e_s)), (a_sn, (arI G 40 f_s)), (a_bb, (arJ G 24 f_bb)), (a_j, (oc2 a_as a_sk)), (a_as, (arI G 8 z16)), (a_sk, (arJ G 50 z17)), (a_l, (arW G 6 f_l)), (a_pt, (arI G 200 z15)), (a_th, (oc7 a_h a_k a_ba a_ad z18 a_cn a_nx a_hp a_hl a_lv)), (a_ba, (arJ G 24 z19)), (a_ad, (arI G 1536 z20))]) hP hD hS hA [0, 1, 2, 3, 4, 5, 6, 7, 8, 9, 10, 11, 12, 13, 14, 15, 16, 17, 18] (by decide) rfl
    refine va_callv (va_runV (As := [.int 0]) (rest := []) ⟨hx, hb, hml, hown, hts⟩ (th_loadN l G a_k a_h a_g a_gn a_b a_bn a_p a_pn a_s a_sn a_bb a_j a_as a_sk a_l a_pt a_th a_ba a_ad a_w a_cn a_nx a_hp a_hl a_lv H.size e_le e_st e_fo e_lc e_g e_b e_p e_s z5 z6 z7 z8 z9 z10 z11 z12 z13 z14 z18 0 e_wa e_gb f_g f_b f_p f_s f_bb z16 z17 f_l z15 z19 z20 h_e_g h_e_b h_e_p h_e_s i_3 (e_gk) (e_pk) (e_gi) (e_sh) (e_s5) (e_f)) (cwV 1 hts gV_X7_138 rfl rfl rfl hv_X7_load ⟨Nat.le_of_ble_eq_true rfl, Nat.le_of_ble_eq_true rfl⟩) (g5_preV hPc hK hDc hN hT hS hFc (ci := 7) (q0 := 16) rfl rfl) rfl rfl hl.1 rfl (lv_room (Nat.le_of_ble_eq_true rfl)) dX7_findCore_21 ⟨Nat.le_of_ble_eq_true rfl, Nat.le_of_ble_eq_true rfl⟩) hS (fun q _ h => hFc q h) hFc (fun u t H1 locs ht hvm hw hB hz1 hk1 hS => ?_)
    obtain ⟨hP1, hD1⟩ := hB
    rw [ht] at hP1
    obtain ⟨z28, z29, z30, z31, z32, z33, z34, z35, z36, z37, z38, z39, z40, z41, z42, z43, i_26, i_27, rfl⟩ := hw
    have i_26 : 0 ≤ z37.toInt ∧ z37.toInt ≤ 1 := i_26
    have i_27 : TOK z41 z43 := i_27
    obtain ⟨hP, hD⟩ := va_join (wr := [(a_hp, (arI G 1536 z23))]) hP hD [0, 1, 2, 3, 4, 5, 6, 7, 8, 9, 10, 11, 12, 13, 14, 15, 16, 17, 18] [19] rfl rfl (by decide) (by decide) hk1 hFc hP1 hD1
    generalize H1 = H at hP hS ⊢
    refine g5_rs [(a_hp, (arI G 1536 z23)), (a_k, (oc5 a_h a_j a_pt z28 z29 z30 z31 z32 z33 z34 z35 z36 z37)), (a_h, (oc1 e_wa e_le e_st e_fo e_lc a_l a_g a_b a_s a_p a_w e_gb a_bb)), (a_g, (oc6 6 5 a_gn e_g)), (a_gn, (arI G 30 f_g)), (a_b, (oc6 5 24 a_bn e_b)), (a_bn, (arI G 120 f_b)), (a_p, (oc6 8 5 a_pn e_p)), (a_pn, (arI G 40 f_p)), (a_s, (oc6 10 4 a_sn e_s)), (a_sn, (arI G 40 f_s)), (a_bb, (arJ G 24 f_bb)), (a_j, (oc2 a_as a_sk)), (a_as, (arI G 8 z39)), (a_sk, (arJ G 50 z40)), (a_l, (arW G 6 f_l)), (a_pt, (arI G 200 z38)), (a_th, (oc7 a_h a_k a_ba a_ad z41 a_cn a_nx a_hp a_hl a_lv)), (a_ba, (arJ G 24 z42)), (a_ad, (arI G 1536 z43))] hP hD (fun hP hD => ?_)
    refine lv_aload_n hx hb dX7_findCore_24 rfl (lv_at hl 1 rfl) ?_
    obtain ⟨hPc, hDc, hFc⟩ := g5_sub3 (wc := [(a_th, (oc7 a_h a_k a_ba a_ad z41 a_cn a_nx a_hp a_hl a_lv)), (a_ba, (arJ G 24 z42)), (a_ad, (arI G 1536 z43)), (a_hp, (arI G 1536 z23))]) hP hD hS hA [17, 18, 19, 0] (by decide) rfl
    refine va_calli (va_runV (As := []) (rest := []) ⟨hx, hb, hml, hown, hts⟩ (th_anyFits l G a_th a_ba a_ad a_hp a_h a_k a_cn a_nx a_hl a_lv H.size z41 z42 z43 z23) (cwV 0 hts gV_X7_117 rfl rfl rfl hv_X7_anyFits ⟨Nat.le_of_ble_eq_true rfl, Nat.le_of_ble_eq_true rfl⟩) (g5_preV hPc hK hDc hN hT hS hFc (ci := 7) (q0 := 0) rfl rfl) rfl rfl hl.1 rfl (lv_room (Nat.le_of_ble_eq_true rfl)) dX7_findCore_25 ⟨Nat.le_of_ble_eq_true rfl, Nat.le_of_ble_eq_true rfl⟩) hS (fun q _ h => hFc q h) hFc (fun r u t H1 locs ht hvm hw hB hz1 hk1 hS => ?_)
    obtain ⟨hP1, hD1⟩ := hB
    rw [ht] at hP1
    obtain ⟨z45, z46, i_44, y47, rfl⟩ := hw
    have i_44 : 0 ≤ z45.toInt ∧ z45.toInt ≤ 1 := i_44
    obtain ⟨hP, hD⟩ := va_join (wr := [(a_k, (oc5 a_h a_j a_pt z28 z29 z30 z31 z32 z33 z34 z35 z36 z37)), (a_h, (oc1 e_wa e_le e_st e_fo e_lc a_l a_g a_b a_s a_p a_w e_gb a_bb)), (a_g, (oc6 6 5 a_gn e_g)), (a_gn, (arI G 30 f_g)), (a_b, (oc6 5 24 a_bn e_b)), (a_bn, (arI G 120 f_b)), (a_p, (oc6 8 5 a_pn e_p)), (a_pn, (arI G 40 f_p)), (a_s, (oc6 10 4 a_sn e_s)), (a_sn, (arI G 40 f_s)), (a_bb, (arJ G 24 f_bb)), (a_j, (oc2 a_as a_sk)), (a_as, (arI G 8 z39)), (a_sk, (arJ G 50 z40)), (a_l, (arW G 6 f_l)), (a_pt, (arI G 200 z38))]) hP hD [17, 18, 19, 0] [1, 2, 3, 4, 5, 6, 7, 8, 9, 10, 11, 12, 13, 14, 15, 16] rfl rfl (by decide) (by decide) hk1 hFc hP1 hD1
    generalize H1 = H at hP hS ⊢
    refine g5_rs [(a_k, (oc5 a_h a_j a_pt z28 z29 z30 z31 z32 z33 z34 z35 z36 z37)), (a_h, (oc1 e_wa e_le e_st e_fo e_lc a_l a_g a_b a_s a_p a_w e_gb a_bb)), (a_g, (oc6 6 5 a_gn e_g)), (a_gn, (arI G 30 f_g)), (a_b, (oc6 5 24 a_bn e_b)), (a_bn, (arI G 120 f_b)), (a_p, (oc6 8 5 a_pn e_p)), (a_pn, (arI G 40 f_p)), (a_s, (oc6 10 4 a_sn e_s)), (a_sn, (arI G 40 f_s)), (a_bb, (arJ G 24 f_bb)), (a_j, (oc2 a_as a_sk)), (a_as, (arI G 8 z39)), (a_sk, (arJ G 50 z40)), (a_l, (arW G 6 f_l)), (a_pt, (arI G 200 z38)), (a_th, (oc7 a_h a_k a_ba a_ad z41 a_cn a_nx a_hp a_hl a_lv)), (a_ba, (arJ G 24 z42)), (a_ad, (arI G 1536 z43)), (a_hp, (arI G 1536 z46))] hP hD (fun hP hD => ?_)
    refine g5_ti (v := z45) y47 ?_
    refine lv_if_ne (tgt := 33) hx hb dX7_findCore_28 (by decide) (fun c_48 => ?_) (fun c_48 => ?_)
    ·
      have n_48 : gNe (z45.toInt) (0) := by have z := g5_ne (a := z45.toInt) (b := 0) (by rfl) (by decide) c_48; unfold gNe; omega
      have i_48 : z45.toInt ≥ 1 := by have z := g5_ne (a := z45.toInt) (b := 0) (by rfl) (by decide) c_48; omega
      refine lv_iconst (v := 0) hx hb dX7_findCore_33 (by decide) ?_
      refine lv_istore_n (lv' := [(2, .int 0), (1, .int z1), (0, .ref a_th)]) hx hb dX7_findCore_34 rfl hl (by decide) rfl (fun ls hl => ?_)
      refine g5_loop (α := (Int32) × (Int32) × (Int32) × (Int32) × (Int32) × (Int32) × (Int32) × (Int32) × (Int32) × (Int32) × (Int32) × (Nat → Int32) × (Nat → Int32) × (Nat → Int64) × (Int32) × (Int32) × (Nat → Int64) × (Nat → Int32) × (Nat → Int32)) (fun (q : (Int32) × (Int32) × (Int32) × (Int32) × (Int32) × (Int32) × (Int32) × (Int32) × (Int32) × (Int32) × (Int32) × (Nat → Int32) × (Nat → Int32) × (Nat → Int64) × (Int32) × (Int32) × (Nat → Int64) × (Nat → Int32) × (Nat → Int32)) (ls : Array Slot) (H : Heap) (locs : List Loc) => match q with | (k_b, k_i, k_se, k_lh, k_br, k_we, k_me, k_ce, k_wy, k_ho, k_ov, k_pt, k_as, k_sk, k_ln, k_fu, k_ba, k_ad, k_hp) => lv_has ls 3 [(1, .int k_b), (2, .int k_i), (0, .ref a_th)] ∧ va_P G.1 vwCl [(a_k, (oc5 a_h a_j a_pt k_ln k_se k_lh k_br k_we k_me k_ce k_wy k_ho k_ov)), (a_h, (oc1 e_wa e_le e_st e_fo e_lc a_l a_g a_b a_s a_p a_w e_gb a_bb)), (a_g, (oc6 6 5 a_gn e_g)), (a_gn, (arI G 30 f_g)), (a_b, (oc6 5 24 a_bn e_b)), (a_bn, (arI G 120 f_b)), (a_p, (oc6 8 5 a_pn e_p)), (a_pn, (arI G 40 f_p)), (a_s, (oc6 10 4 a_sn e_s)), (a_sn, (arI G 40 f_s)), (a_bb, (arJ G 24 f_bb)), (a_j, (oc2 a_as a_sk)), (a_as, (arI G 8 k_as)), (a_sk, (arJ G 50 k_sk)), (a_l, (arW G 6 f_l)), (a_pt, (arI G 200 k_pt)), (a_th, (oc7 a_h a_k a_ba a_ad k_fu a_cn a_nx a_hp a_hl a_lv)), (a_ba, (arJ G 24 k_ba)), (a_ad, (arI G 1536 k_ad)), (a_hp, (arI G 1536 k_hp))] H ∧ va_D A [(a_k, (oc5 a_h a_j a_pt k_ln k_se k_lh k_br k_we k_me k_ce k_wy k_ho k_ov)), (a_h, (oc1 e_wa e_le e_st e_fo e_lc a_l a_g a_b a_s a_p a_w e_gb a_bb)), (a_g, (oc6 6 5 a_gn e_g)), (a_gn, (arI G 30 f_g)), (a_b, (oc6 5 24 a_bn e_b)), (a_bn, (arI G 120 f_b)), (a_p, (oc6 8 5 a_pn e_p)), (a_pn, (arI G 40 f_p)), (a_s, (oc6 10 4 a_sn e_s)), (a_sn, (arI G 40 f_s)), (a_bb, (arJ G 24 f_bb)), (a_j, (oc2 a_as a_sk)), (a_as, (arI G 8 k_as)), (a_sk, (arJ G 50 k_sk)), (a_l, (arW G 6 f_l)), (a_pt, (arI G 200 k_pt)), (a_th, (oc7 a_h a_k a_ba a_ad k_fu a_cn a_nx a_hp a_hl a_lv)), (a_ba, (arJ G 24 k_ba)), (a_ad, (arI G 1536 k_ad)), (a_hp, (arI G 1536 k_hp))] ∧ va_S A s.heap H locs ∧ (0 ≤ k_i.toInt ∧ k_i.toInt ≤ 10) ∧ (0 ≤ k_ov.toInt ∧ k_ov.toInt ≤ 1) ∧ (k_i.toInt ≤ e_s.toInt) ∧ (TOK k_fu k_ad)) (fun (q : (Int32) × (Int32) × (Int32) × (Int32) × (Int32) × (Int32) × (Int32) × (Int32) × (Int32) × (Int32) × (Int32) × (Nat → Int32) × (Nat → Int32) × (Nat → Int64) × (Int32) × (Int32) × (Nat → Int64) × (Nat → Int32) × (Nat → Int32)) => match q with | (k_b, k_i, k_se, k_lh, k_br, k_we, k_me, k_ce, k_wy, k_ho, k_ov, k_pt, k_as, k_sk, k_ln, k_fu, k_ba, k_ad, k_hp) => Int.toNat (10 - k_i.toInt)) (z1, 0, z29, z30, z31, z32, z33, z34, z35, z36, z37, z38, z39, z40, z28, z41, z42, z43, z46) ⟨lv_sub hl [1, 0, 2] rfl, hP, hD, hS, ⟨by decide, by decide⟩, i_26, by have z0 : (0 : Int32).toInt = 0 := (by decide); omega, i_27⟩ ?_
      rintro ⟨k_b, k_i, k_se, k_lh, k_br, k_we, k_me, k_ce, k_wy, k_ho, k_ov, k_pt, k_as, k_sk, k_ln, k_fu, k_ba, k_ad, k_hp⟩ ls H locs ⟨hl, hP, hD, hS, i_49, i_50, i_51, i_52⟩ ih_35_53
      have hl : lv_has ls 3 [(1, .int k_b), (2, .int k_i), (0, .ref a_th)] := hl
      have i_49 : 0 ≤ k_i.toInt ∧ k_i.toInt ≤ 10 := i_49
      have i_50 : 0 ≤ k_ov.toInt ∧ k_ov.toInt ≤ 1 := i_50
      have i_51 : k_i.toInt ≤ e_s.toInt := i_51
      have i_52 : TOK k_fu k_ad := i_52
      refine g5_rs [(a_k, (oc5 a_h a_j a_pt k_ln k_se k_lh k_br k_we k_me k_ce k_wy k_ho k_ov)), (a_h, (oc1 e_wa e_le e_st e_fo e_lc a_l a_g a_b a_s a_p a_w e_gb a_bb)), (a_g, (oc6 6 5 a_gn e_g)), (a_gn, (arI G 30 f_g)), (a_b, (oc6 5 24 a_bn e_b)), (a_bn, (arI G 120 f_b)), (a_p, (oc6 8 5 a_pn e_p)), (a_pn, (arI G 40 f_p)), (a_s, (oc6 10 4 a_sn e_s)), (a_sn, (arI G 40 f_s)), (a_bb, (arJ G 24 f_bb)), (a_j, (oc2 a_as a_sk)), (a_as, (arI G 8 k_as)), (a_sk, (arJ G 50 k_sk)), (a_l, (arW G 6 f_l)), (a_pt, (arI G 200 k_pt)), (a_th, (oc7 a_h a_k a_ba a_ad k_fu a_cn a_nx a_hp a_hl a_lv)), (a_ba, (arJ G 24 k_ba)), (a_ad, (arI G 1536 k_ad)), (a_hp, (arI G 1536 k_hp))] hP hD (fun hP hD => ?_)
      refine lv_iload_n hx hb dX7_findCore_35 rfl (lv_at hl 1 rfl) ?_
      refine lv_aload_n hx hb dX7_findCore_36 rfl (lv_at hl 2 rfl) ?_
      refine va_get (D := G.1) (ci := 7) (v := .ref a_h) (C := RX7) (T := TX7) (N := 10) hx hb hts inG_X7 hown hK hP 16 rfl rfl 0 (by decide) (hts _ fl_X7_34) (fun _ h9 => h9) rfl dX7_findCore_37 ?_
      refine va_get (D := G.1) (ci := 1) (v := .ref a_s) (C := RX1) (T := TX1) (N := 13) hx hb hts inG_X1 hown hK hP 1 rfl rfl 8 (by decide) (hts _ fl_X7_42) (fun _ h9 => h9) rfl dX7_findCore_40 ?_
      refine va_get (D := G.1) (ci := 6) (v := .int e_s) (C := RX6) (T := TX6) (N := 4) hx hb hts inG_X6 hown hK hP 8 rfl rfl 3 (by decide) (hts _ fl_X7_48) (fun _ h9 => h9) rfl dX7_findCore_43 ?_
      refine lv_icmp_ge (tgt := 81) hx hb dX7_findCore_46 (by decide) (fun c_54 => ?_) (fun c_54 => ?_)
      ·
        have i_54 : k_i.toInt ≥ e_s.toInt := by have z := g5_ge (a := k_i.toInt) (b := e_s.toInt) (by rfl) (by rfl) c_54; omega
        refine lv_iload_n hx hb dX7_findCore_81 rfl (lv_at hl 0 rfl) ?_
        exact W.iret (v := k_b) hx hb hr (fun t ht hW => ⟨⟨k_b, [(a_k, (oc5 a_h a_j a_pt k_ln k_se k_lh k_br k_we k_me k_ce k_wy k_ho k_ov)), (a_h, (oc1 e_wa e_le e_st e_fo e_lc a_l a_g a_b a_s a_p a_w e_gb a_bb)), (a_g, (oc6 6 5 a_gn e_g)), (a_gn, (arI G 30 f_g)), (a_b, (oc6 5 24 a_bn e_b)), (a_bn, (arI G 120 f_b)), (a_p, (oc6 8 5 a_pn e_p)), (a_pn, (arI G 40 f_p)), (a_s, (oc6 10 4 a_sn e_s)), (a_sn, (arI G 40 f_s)), (a_bb, (arJ G 24 f_bb)), (a_j, (oc2 a_as a_sk)), (a_as, (arI G 8 k_as)), (a_sk, (arJ G 50 k_sk)), (a_l, (arW G 6 f_l)), (a_pt, (arI G 200 k_pt)), (a_th, (oc7 a_h a_k a_ba a_ad k_fu a_cn a_nx a_hp a_hl a_lv)), (a_ba, (arJ G 24 k_ba)), (a_ad, (arI G 1536 k_ad)), (a_hp, (arI G 1536 k_hp))], rfl, ⟨k_b, k_ln, k_se, k_lh, k_br, k_we, k_me, k_ce, k_wy, k_ho, k_ov, k_pt, k_as, k_sk, k_fu, k_ba, k_ad, k_hp, i_50, i_52, rfl, rfl⟩, by rw [ht]; exact hP.sub [0, 1, 2, 3, 4, 5, 6, 7, 8, 9, 10, 11, 12, 13, 14, 15, 16, 17, 18, 19] rfl, hD.sub [0, 1, 2, 3, 4, 5, 6, 7, 8, 9, 10, 11, 12, 13, 14, 15, 16, 17, 18, 19] (by decide) rfl⟩, hS.F ht⟩) hS.2.2 dX7_findCore_82
      ·
        have i_54 : k_i.toInt < e_s.toInt := by have z := g5_geN (a := k_i.toInt) (b := e_s.toInt) (by rfl) (by rfl) c_54; omega
        refine lv_aload_n hx hb dX7_findCore_49 rfl (lv_at hl 2 rfl) ?_
        refine lv_iload_n hx hb dX7_findCore_50 rfl (lv_at hl 0 rfl) ?_
        refine lv_iconst (v := 1) hx hb dX7_findCore_51 (by decide) ?_
        refine lv_iload_n hx hb dX7_findCore_52 rfl (lv_at hl 1 rfl) ?_
        refine lv_ishl hx hb dX7_findCore_53 ?_
        refine lv_iconst (v := (-1)) hx hb dX7_findCore_54 (by decide) ?_
        refine lv_ixor hx hb dX7_findCore_55 ?_
        refine lv_iand hx hb dX7_findCore_56 ?_
        obtain ⟨hPc, hDc, hFc⟩ := g5_sub3 (wc := [(a_k, (oc5 a_h a_j a_pt k_ln k_se k_lh k_br k_we k_me k_ce k_wy k_ho k_ov)), (a_h, (oc1 e_wa e_le e_st e_fo e_lc a_l a_g a_b a_s a_p a_w e_gb a_bb)), (a_g, (oc6 6 5 a_gn e_g)), (a_gn, (arI G 30 f_g)), (a_b, (oc6 5 24 a_bn e_b)), (a_bn, (arI G 120 f_b)), (a_p, (oc6 8 5 a_pn e_p)), (a_pn, (arI G 40 f_p)), (a_s, (oc6 10 4 a_sn e_s)), (a_sn, (arI G 40 f_s)), (a_bb, (arJ G 24 f_bb)), (a_j, (oc2 a_as a_sk)), (a_as, (arI G 8 k_as)), (a_sk, (arJ G 50 k_sk)), (a_l, (arW G 6 f_l)), (a_pt, (arI G 200 k_pt)), (a_th, (oc7 a_h a_k a_ba a_ad k_fu a_cn a_nx a_hp a_hl a_lv)), (a_ba, (arJ G 24 k_ba)), (a_ad, (arI G 1536 k_ad))]) hP hD hS hA [0, 1, 2, 3, 4, 5, 6, 7, 8, 9, 10, 11, 12, 13, 14, 15, 16, 17, 18] (by decide) rfl
        refine va_callv (va_runV (As := [.int (k_b &&& ((1 <<< (k_i &&& 31)) ^^^ (-1)))]) (rest := []) ⟨hx, hb, hml, hown, hts⟩ (th_loadN l G a_k a_h a_g a_gn a_b a_bn a_p a_pn a_s a_sn a_bb a_j a_as a_sk a_l a_pt a_th a_ba a_ad a_w a_cn a_nx a_hp a_hl a_lv H.size e_le e_st e_fo e_lc e_g e_b e_p e_s k_ln k_se k_lh k_br k_we k_me k_ce k_wy k_ho k_ov k_fu (k_b &&& ((1 <<< (k_i &&& 31)) ^^^ (-1))) e_wa e_gb f_g f_b f_p f_s f_bb k_as k_sk f_l k_pt k_ba k_ad h_e_g h_e_b h_e_p h_e_s i_50 (e_gk) (e_pk) (e_gi) (e_sh) (e_s5) (e_f)) (cwV 1 hts gV_X7_138 rfl rfl rfl hv_X7_load ⟨Nat.le_of_ble_eq_true rfl, Nat.le_of_ble_eq_true rfl⟩) (g5_preV hPc hK hDc hN hT hS hFc (ci := 7) (q0 := 16) rfl rfl) rfl rfl hl.1 rfl (lv_room (Nat.le_of_ble_eq_true rfl)) dX7_findCore_57 ⟨Nat.le_of_ble_eq_true rfl, Nat.le_of_ble_eq_true rfl⟩) hS (fun q _ h => hFc q h) hFc (fun u t H1 locs ht hvm hw hB hz1 hk1 hS => ?_)
        obtain ⟨hP1, hD1⟩ := hB
        rw [ht] at hP1
        obtain ⟨z57, z58, z59, z60, z61, z62, z63, z64, z65, z66, z67, z68, z69, z70, z71, z72, i_55, i_56, rfl⟩ := hw
        have i_55 : 0 ≤ z66.toInt ∧ z66.toInt ≤ 1 := i_55
        have i_56 : TOK z70 z72 := i_56
        obtain ⟨hP, hD⟩ := va_join (wr := [(a_hp, (arI G 1536 k_hp))]) hP hD [0, 1, 2, 3, 4, 5, 6, 7, 8, 9, 10, 11, 12, 13, 14, 15, 16, 17, 18] [19] rfl rfl (by decide) (by decide) hk1 hFc hP1 hD1
        generalize H1 = H at hP hS ⊢
        refine g5_rs [(a_hp, (arI G 1536 k_hp)), (a_k, (oc5 a_h a_j a_pt z57 z58 z59 z60 z61 z62 z63 z64 z65 z66)), (a_h, (oc1 e_wa e_le e_st e_fo e_lc a_l a_g a_b a_s a_p a_w e_gb a_bb)), (a_g, (oc6 6 5 a_gn e_g)), (a_gn, (arI G 30 f_g)), (a_b, (oc6 5 24 a_bn e_b)), (a_bn, (arI G 120 f_b)), (a_p, (oc6 8 5 a_pn e_p)), (a_pn, (arI G 40 f_p)), (a_s, (oc6 10 4 a_sn e_s)), (a_sn, (arI G 40 f_s)), (a_bb, (arJ G 24 f_bb)), (a_j, (oc2 a_as a_sk)), (a_as, (arI G 8 z68)), (a_sk, (arJ G 50 z69)), (a_l, (arW G 6 f_l)), (a_pt, (arI G 200 z67)), (a_th, (oc7 a_h a_k a_ba a_ad z70 a_cn a_nx a_hp a_hl a_lv)), (a_ba, (arJ G 24 z71)), (a_ad, (arI G 1536 z72))] hP hD (fun hP hD => ?_)
        refine lv_aload_n hx hb dX7_findCore_60 rfl (lv_at hl 2 rfl) ?_
        obtain ⟨hPc, hDc, hFc⟩ := g5_sub3 (wc := [(a_th, (oc7 a_h a_k a_ba a_ad z70 a_cn a_nx a_hp a_hl a_lv)), (a_ba, (arJ G 24 z71)), (a_ad, (arI G 1536 z72)), (a_hp, (arI G 1536 k_hp))]) hP hD hS hA [17, 18, 19, 0] (by decide) rfl
        refine va_calli (va_runV (As := []) (rest := []) ⟨hx, hb, hml, hown, hts⟩ (th_anyFits l G a_th a_ba a_ad a_hp a_h a_k a_cn a_nx a_hl a_lv H.size z70 z71 z72 k_hp) (cwV 0 hts gV_X7_117 rfl rfl rfl hv_X7_anyFits ⟨Nat.le_of_ble_eq_true rfl, Nat.le_of_ble_eq_true rfl⟩) (g5_preV hPc hK hDc hN hT hS hFc (ci := 7) (q0 := 0) rfl rfl) rfl rfl hl.1 rfl (lv_room (Nat.le_of_ble_eq_true rfl)) dX7_findCore_61 ⟨Nat.le_of_ble_eq_true rfl, Nat.le_of_ble_eq_true rfl⟩) hS (fun q _ h => hFc q h) hFc (fun r u t H1 locs ht hvm hw hB hz1 hk1 hS => ?_)
        obtain ⟨hP1, hD1⟩ := hB
        rw [ht] at hP1
        obtain ⟨z74, z75, i_73, y76, rfl⟩ := hw
        have i_73 : 0 ≤ z74.toInt ∧ z74.toInt ≤ 1 := i_73
        obtain ⟨hP, hD⟩ := va_join (wr := [(a_k, (oc5 a_h a_j a_pt z57 z58 z59 z60 z61 z62 z63 z64 z65 z66)), (a_h, (oc1 e_wa e_le e_st e_fo e_lc a_l a_g a_b a_s a_p a_w e_gb a_bb)), (a_g, (oc6 6 5 a_gn e_g)), (a_gn, (arI G 30 f_g)), (a_b, (oc6 5 24 a_bn e_b)), (a_bn, (arI G 120 f_b)), (a_p, (oc6 8 5 a_pn e_p)), (a_pn, (arI G 40 f_p)), (a_s, (oc6 10 4 a_sn e_s)), (a_sn, (arI G 40 f_s)), (a_bb, (arJ G 24 f_bb)), (a_j, (oc2 a_as a_sk)), (a_as, (arI G 8 z68)), (a_sk, (arJ G 50 z69)), (a_l, (arW G 6 f_l)), (a_pt, (arI G 200 z67))]) hP hD [17, 18, 19, 0] [1, 2, 3, 4, 5, 6, 7, 8, 9, 10, 11, 12, 13, 14, 15, 16] rfl rfl (by decide) (by decide) hk1 hFc hP1 hD1
        generalize H1 = H at hP hS ⊢
        refine g5_rs [(a_k, (oc5 a_h a_j a_pt z57 z58 z59 z60 z61 z62 z63 z64 z65 z66)), (a_h, (oc1 e_wa e_le e_st e_fo e_lc a_l a_g a_b a_s a_p a_w e_gb a_bb)), (a_g, (oc6 6 5 a_gn e_g)), (a_gn, (arI G 30 f_g)), (a_b, (oc6 5 24 a_bn e_b)), (a_bn, (arI G 120 f_b)), (a_p, (oc6 8 5 a_pn e_p)), (a_pn, (arI G 40 f_p)), (a_s, (oc6 10 4 a_sn e_s)), (a_sn, (arI G 40 f_s)), (a_bb, (arJ G 24 f_bb)), (a_j, (oc2 a_as a_sk)), (a_as, (arI G 8 z68)), (a_sk, (arJ G 50 z69)), (a_l, (arW G 6 f_l)), (a_pt, (arI G 200 z67)), (a_th, (oc7 a_h a_k a_ba a_ad z70 a_cn a_nx a_hp a_hl a_lv)), (a_ba, (arJ G 24 z71)), (a_ad, (arI G 1536 z72)), (a_hp, (arI G 1536 z75))] hP hD (fun hP hD => ?_)
        refine g5_ti (v := z74) y76 ?_
        refine lv_if_ne (tgt := 75) hx hb dX7_findCore_64 (by decide) (fun c_77 => ?_) (fun c_77 => ?_)
        ·
          have n_77 : gNe (z74.toInt) (0) := by have z := g5_ne (a := z74.toInt) (b := 0) (by rfl) (by decide) c_77; unfold gNe; omega
          have i_77 : z74.toInt ≥ 1 := by have z := g5_ne (a := z74.toInt) (b := 0) (by rfl) (by decide) c_77; omega
          refine lv_iinc (v := (k_i + 1)) (lv' := [(2, .int (k_i + 1)), (1, .int k_b), (0, .ref a_th)]) hx hb dX7_findCore_75 hl (k := 1) rfl rfl (by decide) rfl (fun ls hl => ?_)
          have t_78 : (k_i + 1).toInt = k_i.toInt + 1 := g5_iadd (a := k_i.toInt) (b := 1) rfl (by decide) (by omega) (by omega)
          refine lv_goto (tgt := 35) hx hb dX7_findCore_78 (by decide) ?_
          exact ih_35_53 (k_b, (k_i + 1), z58, z59, z60, z61, z62, z63, z64, z65, z66, z67, z68, z69, z57, z70, z71, z72, z75) ls H locs (show Int.toNat (10 - (k_i + 1).toInt) < Int.toNat (10 - k_i.toInt) from g_up (show k_i.toInt < (k_i + 1).toInt by omega) (show k_i.toInt < 10 by omega)) ⟨lv_sub hl [1, 0, 2] rfl, hP, hD, hS, ⟨by omega, by omega⟩, i_55, by omega, i_56⟩
        ·
          have i_77 : z74.toInt = 0 := by have z := g5_neN (a := z74.toInt) (b := 0) (by rfl) (by decide) c_77; omega
          refine lv_iload_n hx hb dX7_findCore_67 rfl (lv_at hl 0 rfl) ?_
          refine lv_iconst (v := 1) hx hb dX7_findCore_68 (by decide) ?_
          refine lv_iload_n hx hb dX7_findCore_69 rfl (lv_at hl 1 rfl) ?_
          refine lv_ishl hx hb dX7_findCore_70 ?_
          refine lv_iconst (v := (-1)) hx hb dX7_findCore_71 (by decide) ?_
          refine lv_ixor hx hb dX7_findCore_72 ?_
          refine lv_iand hx hb dX7_findCore_73 ?_
          refine lv_istore_n (lv' := [(1, .int (k_b &&& ((1 <<< (k_i &&& 31)) ^^^ (-1)))), (2, .int k_i), (0, .ref a_th)]) hx hb dX7_findCore_74 rfl hl (by decide) rfl (fun ls hl => ?_)
          refine lv_iinc (v := (k_i + 1)) (lv' := [(2, .int (k_i + 1)), (1, .int (k_b &&& ((1 <<< (k_i &&& 31)) ^^^ (-1)))), (0, .ref a_th)]) hx hb dX7_findCore_75 hl (k := 1) rfl rfl (by decide) rfl (fun ls hl => ?_)
          have t_79 : (k_i + 1).toInt = k_i.toInt + 1 := g5_iadd (a := k_i.toInt) (b := 1) rfl (by decide) (by omega) (by omega)
          refine lv_goto (tgt := 35) hx hb dX7_findCore_78 (by decide) ?_
          exact ih_35_53 ((k_b &&& ((1 <<< (k_i &&& 31)) ^^^ (-1))), (k_i + 1), z58, z59, z60, z61, z62, z63, z64, z65, z66, z67, z68, z69, z57, z70, z71, z72, z75) ls H locs (show Int.toNat (10 - (k_i + 1).toInt) < Int.toNat (10 - k_i.toInt) from g_up (show k_i.toInt < (k_i + 1).toInt by omega) (show k_i.toInt < 10 by omega)) ⟨lv_sub hl [1, 0, 2] rfl, hP, hD, hS, ⟨by omega, by omega⟩, i_55, by omega, i_56⟩
    ·
      have i_48 : z45.toInt = 0 := by have z := g5_neN (a := z45.toInt) (b := 0) (by rfl) (by decide) c_48; omega
      refine lv_iconst (v := (-1)) hx hb dX7_findCore_31 (by decide) ?_
      exact W.iret (v := (-1)) hx hb hr (fun t ht hW => ⟨⟨(-1), [(a_k, (oc5 a_h a_j a_pt z28 z29 z30 z31 z32 z33 z34 z35 z36 z37)), (a_h, (oc1 e_wa e_le e_st e_fo e_lc a_l a_g a_b a_s a_p a_w e_gb a_bb)), (a_g, (oc6 6 5 a_gn e_g)), (a_gn, (arI G 30 f_g)), (a_b, (oc6 5 24 a_bn e_b)), (a_bn, (arI G 120 f_b)), (a_p, (oc6 8 5 a_pn e_p)), (a_pn, (arI G 40 f_p)), (a_s, (oc6 10 4 a_sn e_s)), (a_sn, (arI G 40 f_s)), (a_bb, (arJ G 24 f_bb)), (a_j, (oc2 a_as a_sk)), (a_as, (arI G 8 z39)), (a_sk, (arJ G 50 z40)), (a_l, (arW G 6 f_l)), (a_pt, (arI G 200 z38)), (a_th, (oc7 a_h a_k a_ba a_ad z41 a_cn a_nx a_hp a_hl a_lv)), (a_ba, (arJ G 24 z42)), (a_ad, (arI G 1536 z43)), (a_hp, (arI G 1536 z46))], rfl, ⟨(-1), z28, z29, z30, z31, z32, z33, z34, z35, z36, z37, z38, z39, z40, z41, z42, z43, z46, i_26, i_27, rfl, rfl⟩, by rw [ht]; exact hP.sub [0, 1, 2, 3, 4, 5, 6, 7, 8, 9, 10, 11, 12, 13, 14, 15, 16, 17, 18, 19] rfl, hD.sub [0, 1, 2, 3, 4, 5, 6, 7, 8, 9, 10, 11, 12, 13, 14, 15, 16, 17, 18, 19] (by decide) rfl⟩, hS.F ht⟩) hS.2.2 dX7_findCore_32
  ·
    have n_25 : gNe (z22.toInt) (0) := by have z := g5_eqN (a := z22.toInt) (b := 0) (by rfl) (by decide) c_25; unfold gNe; omega
    have i_25 : z22.toInt ≥ 1 := by have z := g5_eqN (a := z22.toInt) (b := 0) (by rfl) (by decide) c_25; omega
    refine lv_iconst (v := 0) hx hb dX7_findCore_17 (by decide) ?_
    exact W.iret (v := 0) hx hb hr (fun t ht hW => ⟨⟨0, [(a_k, (oc5 a_h a_j a_pt z5 z6 z7 z8 z9 z10 z11 z12 z13 z14)), (a_h, (oc1 e_wa e_le e_st e_fo e_lc a_l a_g a_b a_s a_p a_w e_gb a_bb)), (a_g, (oc6 6 5 a_gn e_g)), (a_gn, (arI G 30 f_g)), (a_b, (oc6 5 24 a_bn e_b)), (a_bn, (arI G 120 f_b)), (a_p, (oc6 8 5 a_pn e_p)), (a_pn, (arI G 40 f_p)), (a_s, (oc6 10 4 a_sn e_s)), (a_sn, (arI G 40 f_s)), (a_bb, (arJ G 24 f_bb)), (a_j, (oc2 a_as a_sk)), (a_as, (arI G 8 z16)), (a_sk, (arJ G 50 z17)), (a_l, (arW G 6 f_l)), (a_pt, (arI G 200 z15)), (a_th, (oc7 a_h a_k a_ba a_ad z18 a_cn a_nx a_hp a_hl a_lv)), (a_ba, (arJ G 24 z19)), (a_ad, (arI G 1536 z20)), (a_hp, (arI G 1536 z23))], rfl, ⟨0, z5, z6, z7, z8, z9, z10, z11, z12, z13, z14, z15, z16, z17, z18, z19, z20, z23, i_3, i_4, rfl, rfl⟩, by rw [ht]; exact hP.sub [0, 1, 2, 3, 4, 5, 6, 7, 8, 9, 10, 11, 12, 13, 14, 15, 16, 17, 18, 19] rfl, hD.sub [0, 1, 2, 3, 4, 5, 6, 7, 8, 9, 10, 11, 12, 13, 14, 15, 16, 17, 18, 19] (by decide) rfl⟩, hS.F ht⟩) hS.2.2 dX7_findCore_18
set_option maxHeartbeats 4000000 in
set_option maxRecDepth 100000 in
theorem th_coreL (l : Launch) (G : g5_G) (a_k a_h a_g a_gn a_b a_bn a_p a_pn a_s a_sn a_bb a_j a_as a_sk a_l a_lo a_sr a_cd a_hd a_pt a_th a_ba a_ad a_hp a_w a_cn a_nx a_hl a_lv : Nat) (sz : Nat) (e_le : Int32) (e_st : Int32) (e_fo : Int32) (e_lc : Int32) (e_g : Int32) (e_b : Int32) (e_p : Int32) (e_s : Int32) (e_cl : Int32) (e_ln : Int32) (e_se : Int32) (e_lh : Int32) (e_br : Int32) (e_we : Int32) (e_me : Int32) (e_ce : Int32) (e_wy : Int32) (e_ho : Int32) (e_ov : Int32) (e_fu : Int32) (e_wa : Int64) (e_gb : Int64) (f_g : Nat → Int32) (f_b : Nat → Int32) (f_p : Nat → Int32) (f_s : Nat → Int32) (f_bb : Nat → Int64) (f_as : Nat → Int32) (f_sk : Nat → Int64) (f_l : Nat → Option Nat) (f_sr : Nat → Int32) (f_cd : Nat → Int32) (f_hd : Nat → Int32) (f_pt : Nat → Int32) (f_ba : Nat → Int64) (f_ad : Nat → Int32) (f_hp : Nat → Int32) (n_sr : Nat) (n_cd : Nat) (n_hd : Nat) (h_e_g : 0 ≤ e_g.toInt ∧ e_g.toInt ≤ 6) (h_e_b : 0 ≤ e_b.toInt ∧ e_b.toInt ≤ 5) (h_e_p : 0 ≤ e_p.toInt ∧ e_p.toInt ≤ 8) (h_e_s : 0 ≤ e_s.toInt ∧ e_s.toInt ≤ 10) (h_e_cl : 0 ≤ e_cl.toInt ∧ e_cl.toInt ≤ 12) (h_e_ov : 0 ≤ e_ov.toInt ∧ e_ov.toInt ≤ 1) (e_gk : gOK f_g e_g.toInt) (e_pk : gOK f_p e_p.toInt) (e_gi : inT e_gb f_g e_g.toInt) (e_sh : ∀ r : Int, 0 ≤ r → r < e_s.toInt → 0 ≤ (tget f_s e_s.toInt 4 r (3 : Int32).toInt).toInt ∧ (tget f_s e_s.toInt 4 r (3 : Int32).toInt).toInt ≤ 1) (e_s5 : snS f_s e_s.toInt e_s.toInt.toNat ≤ 5) (e_f : 0 ≤ e_fo.toInt ∧ e_fo.toInt < e_lc.toInt ∧ e_lc.toInt ≤ 6) (e_a : f_l e_fo.toNatClampNeg = some a_lo) (e_hn : n_cd ≤ 400) (e_hs : ∀ j : Nat, j < n_sr → 0 ≤ (f_sr j).toInt ∧ (f_sr j).toInt ≤ (n_cd : Int)) (e_hk : ∀ j : Nat, j < n_cd → (f_cd j >>> (12 &&& 31)).toInt = 1 → (f_cd j &&& 4095).toInt < 8) (e_c : (e_cl.toInt : Int) ≤ (n_hd : Int) ∧ (e_cl.toInt + 1 : Int) ≤ (n_sr : Int)) : Met l yX7_findCore (wsG yX7_findCore cX7_findCore 3 (some .int)) ({ frames := 15, cells := 0, slots := 0, locals := 580 }) (va_Pc [.ref a_th] (g5_P G [(a_k, (oc5 a_h a_j a_pt e_ln e_se e_lh e_br e_we e_me e_ce e_wy e_ho e_ov)), (a_h, (oc1 e_wa e_le e_st e_fo e_lc a_l a_g a_b a_s a_p a_w e_gb a_bb)), (a_g, (oc6 6 5 a_gn e_g)), (a_gn, (arI G 30 f_g)), (a_b, (oc6 5 24 a_bn e_b)), (a_bn, (arI G 120 f_b)), (a_p, (oc6 8 5 a_pn e_p)), (a_pn, (arI G 40 f_p)), (a_s, (oc6 10 4 a_sn e_s)), (a_sn, (arI G 40 f_s)), (a_bb, (arJ G 24 f_bb)), (a_j, (oc2 a_as a_sk)), (a_as, (arI G 8 f_as)), (a_sk, (arJ G 50 f_sk)), (a_l, (arW G 6 f_l)), (a_lo, (oc3 e_cl a_hd a_sr a_cd)), (a_sr, (arI G n_sr f_sr)), (a_cd, (arI G n_cd f_cd)), (a_hd, (arI G n_hd f_hd)), (a_pt, (arI G 200 f_pt)), (a_th, (oc7 a_h a_k a_ba a_ad e_fu a_cn a_nx a_hp a_hl a_lv)), (a_ba, (arJ G 24 f_ba)), (a_ad, (arI G 1536 f_ad)), (a_hp, (arI G 1536 f_hp))] sz)) (va_Qi (fun (r : Int32) (u : va_W) => (∃ (o_r : Int32) (o_ln : Int32) (o_se : Int32) (o_lh : Int32) (o_br : Int32) (o_we : Int32) (o_me : Int32) (o_ce : Int32) (o_wy : Int32) (o_ho : Int32) (o_ov : Int32) (o_pt : Nat → Int32) (o_as : Nat → Int32) (o_sk : Nat → Int64) (o_fu : Int32) (o_ba : Nat → Int64) (o_ad : Nat → Int32) (o_hp : Nat → Int32), (0 ≤ o_ov.toInt ∧ o_ov.toInt ≤ 1) ∧ (TOK o_fu o_ad) ∧ (r = o_r) ∧ (u = [(a_k, (oc5 a_h a_j a_pt o_ln o_se o_lh o_br o_we o_me o_ce o_wy o_ho o_ov)), (a_h, (oc1 e_wa e_le e_st e_fo e_lc a_l a_g a_b a_s a_p a_w e_gb a_bb)), (a_g, (oc6 6 5 a_gn e_g)), (a_gn, (arI G 30 f_g)), (a_b, (oc6 5 24 a_bn e_b)), (a_bn, (arI G 120 f_b)), (a_p, (oc6 8 5 a_pn e_p)), (a_pn, (arI G 40 f_p)), (a_s, (oc6 10 4 a_sn e_s)), (a_sn, (arI G 40 f_s)), (a_bb, (arJ G 24 f_bb)), (a_j, (oc2 a_as a_sk)), (a_as, (arI G 8 o_as)), (a_sk, (arJ G 50 o_sk)), (a_l, (arW G 6 f_l)), (a_lo, (oc3 e_cl a_hd a_sr a_cd)), (a_sr, (arI G n_sr f_sr)), (a_cd, (arI G n_cd f_cd)), (a_hd, (arI G n_hd f_hd)), (a_pt, (arI G 200 o_pt)), (a_th, (oc7 a_h a_k a_ba a_ad o_fu a_cn a_nx a_hp a_hl a_lv)), (a_ba, (arJ G 24 o_ba)), (a_ad, (arI G 1536 o_ad)), (a_hp, (arI G 1536 o_hp))]))) (g5_B G (va_A [(a_k, (oc5 a_h a_j a_pt e_ln e_se e_lh e_br e_we e_me e_ce e_wy e_ho e_ov)), (a_h, (oc1 e_wa e_le e_st e_fo e_lc a_l a_g a_b a_s a_p a_w e_gb a_bb)), (a_g, (oc6 6 5 a_gn e_g)), (a_gn, (arI G 30 f_g)), (a_b, (oc6 5 24 a_bn e_b)), (a_bn, (arI G 120 f_b)), (a_p, (oc6 8 5 a_pn e_p)), (a_pn, (arI G 40 f_p)), (a_s, (oc6 10 4 a_sn e_s)), (a_sn, (arI G 40 f_s)), (a_bb, (arJ G 24 f_bb)), (a_j, (oc2 a_as a_sk)), (a_as, (arI G 8 f_as)), (a_sk, (arJ G 50 f_sk)), (a_l, (arW G 6 f_l)), (a_lo, (oc3 e_cl a_hd a_sr a_cd)), (a_sr, (arI G n_sr f_sr)), (a_cd, (arI G n_cd f_cd)), (a_hd, (arI G n_hd f_hd)), (a_pt, (arI G 200 f_pt)), (a_th, (oc7 a_h a_k a_ba a_ad e_fu a_cn a_nx a_hp a_hl a_lv)), (a_ba, (arJ G 24 f_ba)), (a_ad, (arI G 1536 f_ad)), (a_hp, (arI G 1536 f_hp))] sz)) (va_A [(a_k, (oc5 a_h a_j a_pt e_ln e_se e_lh e_br e_we e_me e_ce e_wy e_ho e_ov)), (a_h, (oc1 e_wa e_le e_st e_fo e_lc a_l a_g a_b a_s a_p a_w e_gb a_bb)), (a_g, (oc6 6 5 a_gn e_g)), (a_gn, (arI G 30 f_g)), (a_b, (oc6 5 24 a_bn e_b)), (a_bn, (arI G 120 f_b)), (a_p, (oc6 8 5 a_pn e_p)), (a_pn, (arI G 40 f_p)), (a_s, (oc6 10 4 a_sn e_s)), (a_sn, (arI G 40 f_s)), (a_bb, (arJ G 24 f_bb)), (a_j, (oc2 a_as a_sk)), (a_as, (arI G 8 f_as)), (a_sk, (arJ G 50 f_sk)), (a_l, (arW G 6 f_l)), (a_lo, (oc3 e_cl a_hd a_sr a_cd)), (a_sr, (arI G n_sr f_sr)), (a_cd, (arI G n_cd f_cd)), (a_hd, (arI G n_hd f_hd)), (a_pt, (arI G 200 f_pt)), (a_th, (oc7 a_h a_k a_ba a_ad e_fu a_cn a_nx a_hp a_hl a_lv)), (a_ba, (arJ G 24 f_ba)), (a_ad, (arI G 1536 f_ad)), (a_hp, (arI G 1536 f_hp))] sz)) 0 0 (va_A [(a_k, (oc5 a_h a_j a_pt e_ln e_se e_lh e_br e_we e_me e_ce e_wy e_ho e_ov)), (a_h, (oc1 e_wa e_le e_st e_fo e_lc a_l a_g a_b a_s a_p a_w e_gb a_bb)), (a_g, (oc6 6 5 a_gn e_g)), (a_gn, (arI G 30 f_g)), (a_b, (oc6 5 24 a_bn e_b)), (a_bn, (arI G 120 f_b)), (a_p, (oc6 8 5 a_pn e_p)), (a_pn, (arI G 40 f_p)), (a_s, (oc6 10 4 a_sn e_s)), (a_sn, (arI G 40 f_s)), (a_bb, (arJ G 24 f_bb)), (a_j, (oc2 a_as a_sk)), (a_as, (arI G 8 f_as)), (a_sk, (arJ G 50 f_sk)), (a_l, (arW G 6 f_l)), (a_lo, (oc3 e_cl a_hd a_sr a_cd)), (a_sr, (arI G n_sr f_sr)), (a_cd, (arI G n_cd f_cd)), (a_hd, (arI G n_hd f_hd)), (a_pt, (arI G 200 f_pt)), (a_th, (oc7 a_h a_k a_ba a_ad e_fu a_cn a_nx a_hp a_hl a_lv)), (a_ba, (arJ G 24 f_ba)), (a_ad, (arI G 1536 f_ad)), (a_hp, (arI G 1536 f_hp))] sz) := by
  refine Met.ofW (cc := cX7_findCore) (maxL := 3) (ret := (some .int)) (by decide) rfl ?_
  intro p e s m args below meth c s₁ B hml hv
  obtain ⟨rfl, hsz, hP, hK, hD0, hN, hT⟩ := hv
  have hx := B.exec
  have hb := B.bytes
  have hr := B.returns
  have hts : ∀ w ∈ tblG, w.before _ s = true := fun w h => atoms_spec (ws := (wsG yX7_findCore cX7_findCore 3 (some .int))) B.pre w (List.mem_cons_of_mem _ h)
  have hown : s.vm.findClass RX7 = some m.cls := findClass_of_methodNamed B.named
  have hlocks := B.notSynchronized
  subst hsz
  have hD := hD0.self (sz := s.heap.size)
  generalize hAe : va_A [(a_k, (oc5 a_h a_j a_pt e_ln e_se e_lh e_br e_we e_me e_ce e_wy e_ho e_ov)), (a_h, (oc1 e_wa e_le e_st e_fo e_lc a_l a_g a_b a_s a_p a_w e_gb a_bb)), (a_g, (oc6 6 5 a_gn e_g)), (a_gn, (arI G 30 f_g)), (a_b, (oc6 5 24 a_bn e_b)), (a_bn, (arI G 120 f_b)), (a_p, (oc6 8 5 a_pn e_p)), (a_pn, (arI G 40 f_p)), (a_s, (oc6 10 4 a_sn e_s)), (a_sn, (arI G 40 f_s)), (a_bb, (arJ G 24 f_bb)), (a_j, (oc2 a_as a_sk)), (a_as, (arI G 8 f_as)), (a_sk, (arJ G 50 f_sk)), (a_l, (arW G 6 f_l)), (a_lo, (oc3 e_cl a_hd a_sr a_cd)), (a_sr, (arI G n_sr f_sr)), (a_cd, (arI G n_cd f_cd)), (a_hd, (arI G n_hd f_hd)), (a_pt, (arI G 200 f_pt)), (a_th, (oc7 a_h a_k a_ba a_ad e_fu a_cn a_nx a_hp a_hl a_lv)), (a_ba, (arJ G 24 f_ba)), (a_ad, (arI G 1536 f_ad)), (a_hp, (arI G 1536 f_hp))] s.heap.size = A at hD hT ⊢
  have hA : ∀ q : Nat, s.heap.size ≤ q → A q := fun q h => by rw [← hAe]; exact Or.inr h
  have hS : va_S A s.heap s.heap [] := va_S.rf
  have hP : va_P G.1 vwCl [(a_k, (oc5 a_h a_j a_pt e_ln e_se e_lh e_br e_we e_me e_ce e_wy e_ho e_ov)), (a_h, (oc1 e_wa e_le e_st e_fo e_lc a_l a_g a_b a_s a_p a_w e_gb a_bb)), (a_g, (oc6 6 5 a_gn e_g)), (a_gn, (arI G 30 f_g)), (a_b, (oc6 5 24 a_bn e_b)), (a_bn, (arI G 120 f_b)), (a_p, (oc6 8 5 a_pn e_p)), (a_pn, (arI G 40 f_p)), (a_s, (oc6 10 4 a_sn e_s)), (a_sn, (arI G 40 f_s)), (a_bb, (arJ G 24 f_bb)), (a_j, (oc2 a_as a_sk)), (a_as, (arI G 8 f_as)), (a_sk, (arJ G 50 f_sk)), (a_l, (arW G 6 f_l)), (a_lo, (oc3 e_cl a_hd a_sr a_cd)), (a_sr, (arI G n_sr f_sr)), (a_cd, (arI G n_cd f_cd)), (a_hd, (arI G n_hd f_hd)), (a_pt, (arI G 200 f_pt)), (a_th, (oc7 a_h a_k a_ba a_ad e_fu a_cn a_nx a_hp a_hl a_lv)), (a_ba, (arJ G 24 f_ba)), (a_ad, (arI G 1536 f_ad)), (a_hp, (arI G 1536 f_hp))] s.heap := hP
  have hl := lv_entry ([.ref a_th]) (n := 3) (Nat.le_of_ble_eq_true rfl)
  rw [lg_entry_eq]
  generalize (lg_sl ([.ref a_th]) ++ List.replicate (3 - (lg_sl ([.ref a_th])).length) Slot.unset).toArray = ls at hl ⊢
  have hl : lv_has ls 3 [(0, .ref a_th)] := hl
  refine lv_aload_n hx hb dX7_findCore_0 rfl (lv_at hl 0 rfl) ?_
  obtain ⟨hPc, hDc, hFc⟩ := g5_sub3 (wc := [(a_th, (oc7 a_h a_k a_ba a_ad e_fu a_cn a_nx a_hp a_hl a_lv)), (a_h, (oc1 e_wa e_le e_st e_fo e_lc a_l a_g a_b a_s a_p a_w e_gb a_bb)), (a_s, (oc6 10 4 a_sn e_s))]) hP hD hS hA [20, 1, 8] (by decide) rfl
  refine va_calli (va_runV (As := []) (rest := []) ⟨hx, hb, hml, hown, hts⟩ (th_all l G a_th a_h a_s a_k a_ba a_ad a_cn a_nx a_hp a_hl a_lv a_l a_g a_b a_p a_w a_bb a_sn s.heap.size e_fu e_le e_st e_fo e_lc e_s e_wa e_gb h_e_s) (cwV 0 hts gV_X7_134 rfl rfl rfl hv_X7_allSightings ⟨Nat.le_of_ble_eq_true rfl, Nat.le_of_ble_eq_true rfl⟩) (g5_preV hPc hK hDc hN hT hS hFc (ci := 7) (q0 := 0) rfl rfl) rfl rfl hl.1 rfl (lv_room (Nat.le_of_ble_eq_true rfl)) dX7_findCore_1 ⟨Nat.le_of_ble_eq_true rfl, Nat.le_of_ble_eq_true rfl⟩) hS (fun q _ h => hFc q h) hFc (fun r u t H1 locs ht hvm hw hB hz1 hk1 hS => ?_)
  obtain ⟨hP1, hD1⟩ := hB
  rw [ht] at hP1
  obtain ⟨z1, y2, rfl⟩ := hw
  obtain ⟨hP, hD⟩ := va_join (wr := [(a_k, (oc5 a_h a_j a_pt e_ln e_se e_lh e_br e_we e_me e_ce e_wy e_ho e_ov)), (a_g, (oc6 6 5 a_gn e_g)), (a_gn, (arI G 30 f_g)), (a_b, (oc6 5 24 a_bn e_b)), (a_bn, (arI G 120 f_b)), (a_p, (oc6 8 5 a_pn e_p)), (a_pn, (arI G 40 f_p)), (a_sn, (arI G 40 f_s)), (a_bb, (arJ G 24 f_bb)), (a_j, (oc2 a_as a_sk)), (a_as, (arI G 8 f_as)), (a_sk, (arJ G 50 f_sk)), (a_l, (arW G 6 f_l)), (a_lo, (oc3 e_cl a_hd a_sr a_cd)), (a_sr, (arI G n_sr f_sr)), (a_cd, (arI G n_cd f_cd)), (a_hd, (arI G n_hd f_hd)), (a_pt, (arI G 200 f_pt)), (a_ba, (arJ G 24 f_ba)), (a_ad, (arI G 1536 f_ad)), (a_hp, (arI G 1536 f_hp))]) hP hD [20, 1, 8] [0, 2, 3, 4, 5, 6, 7, 9, 10, 11, 12, 13, 14, 15, 16, 17, 18, 19, 21, 22, 23] rfl rfl (by decide) (by decide) hk1 hFc hP1 hD1
  generalize H1 = H at hP hS ⊢
  refine g5_rs [(a_k, (oc5 a_h a_j a_pt e_ln e_se e_lh e_br e_we e_me e_ce e_wy e_ho e_ov)), (a_g, (oc6 6 5 a_gn e_g)), (a_gn, (arI G 30 f_g)), (a_b, (oc6 5 24 a_bn e_b)), (a_bn, (arI G 120 f_b)), (a_p, (oc6 8 5 a_pn e_p)), (a_pn, (arI G 40 f_p)), (a_sn, (arI G 40 f_s)), (a_bb, (arJ G 24 f_bb)), (a_j, (oc2 a_as a_sk)), (a_as, (arI G 8 f_as)), (a_sk, (arJ G 50 f_sk)), (a_l, (arW G 6 f_l)), (a_lo, (oc3 e_cl a_hd a_sr a_cd)), (a_sr, (arI G n_sr f_sr)), (a_cd, (arI G n_cd f_cd)), (a_hd, (arI G n_hd f_hd)), (a_pt, (arI G 200 f_pt)), (a_ba, (arJ G 24 f_ba)), (a_ad, (arI G 1536 f_ad)), (a_hp, (arI G 1536 f_hp)), (a_th, (oc7 a_h a_k a_ba a_ad e_fu a_cn a_nx a_hp a_hl a_lv)), (a_h, (oc1 e_wa e_le e_st e_fo e_lc a_l a_g a_b a_s a_p a_w e_gb a_bb)), (a_s, (oc6 10 4 a_sn e_s))] hP hD (fun hP hD => ?_)
  refine g5_ti (v := z1) y2 ?_
  refine lv_istore_n (lv' := [(1, .int z1), (0, .ref a_th)]) hx hb dX7_findCore_4 rfl hl (by decide) rfl (fun ls hl => ?_)
  refine lv_aload_n hx hb dX7_findCore_5 rfl (lv_at hl 1 rfl) ?_
  refine lv_iload_n hx hb dX7_findCore_6 rfl (lv_at hl 0 rfl) ?_
  obtain ⟨hPc, hDc, hFc⟩ := g5_sub3 (wc := [(a_k, (oc5 a_h a_j a_pt e_ln e_se e_lh e_br e_we e_me e_ce e_wy e_ho e_ov)), (a_h, (oc1 e_wa e_le e_st e_fo e_lc a_l a_g a_b a_s a_p a_w e_gb a_bb)), (a_g, (oc6 6 5 a_gn e_g)), (a_gn, (arI G 30 f_g)), (a_b, (oc6 5 24 a_bn e_b)), (a_bn, (arI G 120 f_b)), (a_p, (oc6 8 5 a_pn e_p)), (a_pn, (arI G 40 f_p)), (a_s, (oc6 10 4 a_sn e_s)), (a_sn, (arI G 40 f_s)), (a_bb, (arJ G 24 f_bb)), (a_j, (oc2 a_as a_sk)), (a_as, (arI G 8 f_as)), (a_sk, (arJ G 50 f_sk)), (a_l, (arW G 6 f_l)), (a_lo, (oc3 e_cl a_hd a_sr a_cd)), (a_sr, (arI G n_sr f_sr)), (a_cd, (arI G n_cd f_cd)), (a_hd, (arI G n_hd f_hd)), (a_pt, (arI G 200 f_pt)), (a_th, (oc7 a_h a_k a_ba a_ad e_fu a_cn a_nx a_hp a_hl a_lv)), (a_ba, (arJ G 24 f_ba)), (a_ad, (arI G 1536 f_ad))]) hP hD hS hA [0, 22, 1, 2, 3, 4, 5, 6, 23, 7, 8, 9, 10, 11, 12, 13, 14, 15, 16, 17, 21, 18, 19] (by decide) rfl
  refine va_callv (va_runV (As := [.int z1]) (rest := []) ⟨hx, hb, hml, hown, hts⟩ (th_loadL l G a_k a_h a_g a_gn a_b a_bn a_p a_pn a_s a_sn a_bb a_j a_as a_sk a_l a_lo a_sr a_cd a_hd a_pt a_th a_ba a_ad a_w a_cn a_nx a_hp a_hl a_lv H.size e_le e_st e_fo e_lc e_g e_b e_p e_s e_cl e_ln e_se e_lh e_br e_we e_me e_ce e_wy e_ho e_ov e_fu z1 e_wa e_gb f_g f_b f_p f_s f_bb f_as f_sk f_l f_sr f_cd f_hd f_pt f_ba f_ad n_sr n_cd n_hd h_e_g h_e_b h_e_p h_e_s h_e_cl h_e_ov (e_gk) (e_pk) (e_gi) (e_sh) (e_s5) (e_f) (e_a) (e_hn) (e_hs) (e_hk) (e_c)) (cwV 1 hts gV_X7_138 rfl rfl rfl hv_X7_load ⟨Nat.le_of_ble_eq_true rfl, Nat.le_of_ble_eq_true rfl⟩) (g5_preV hPc hK hDc hN hT hS hFc (ci := 7) (q0 := 20) rfl rfl) rfl rfl hl.1 rfl (lv_room (Nat.le_of_ble_eq_true rfl)) dX7_findCore_7 ⟨Nat.le_of_ble_eq_true rfl, Nat.le_of_ble_eq_true rfl⟩) hS (fun q _ h => hFc q h) hFc (fun u t H1 locs ht hvm hw hB hz1 hk1 hS => ?_)
  obtain ⟨hP1, hD1⟩ := hB
  rw [ht] at hP1
  obtain ⟨z5, z6, z7, z8, z9, z10, z11, z12, z13, z14, z15, z16, z17, z18, z19, z20, i_3, i_4, rfl⟩ := hw
  have i_3 : 0 ≤ z14.toInt ∧ z14.toInt ≤ 1 := i_3
  have i_4 : TOK z18 z20 := i_4
  obtain ⟨hP, hD⟩ := va_join (wr := [(a_hp, (arI G 1536 f_hp))]) hP hD [0, 22, 1, 2, 3, 4, 5, 6, 23, 7, 8, 9, 10, 11, 12, 13, 14, 15, 16, 17, 21, 18, 19] [20] rfl rfl (by decide) (by decide) hk1 hFc hP1 hD1
  generalize H1 = H at hP hS ⊢
  refine g5_rs [(a_hp, (arI G 1536 f_hp)), (a_k, (oc5 a_h a_j a_pt z5 z6 z7 z8 z9 z10 z11 z12 z13 z14)), (a_h, (oc1 e_wa e_le e_st e_fo e_lc a_l a_g a_b a_s a_p a_w e_gb a_bb)), (a_g, (oc6 6 5 a_gn e_g)), (a_gn, (arI G 30 f_g)), (a_b, (oc6 5 24 a_bn e_b)), (a_bn, (arI G 120 f_b)), (a_p, (oc6 8 5 a_pn e_p)), (a_pn, (arI G 40 f_p)), (a_s, (oc6 10 4 a_sn e_s)), (a_sn, (arI G 40 f_s)), (a_bb, (arJ G 24 f_bb)), (a_j, (oc2 a_as a_sk)), (a_as, (arI G 8 z16)), (a_sk, (arJ G 50 z17)), (a_l, (arW G 6 f_l)), (a_lo, (oc3 e_cl a_hd a_sr a_cd)), (a_sr, (arI G n_sr f_sr)), (a_cd, (arI G n_cd f_cd)), (a_hd, (arI G n_hd f_hd)), (a_pt, (arI G 200 z15)), (a_th, (oc7 a_h a_k a_ba a_ad z18 a_cn a_nx a_hp a_hl a_lv)), (a_ba, (arJ G 24 z19)), (a_ad, (arI G 1536 z20))] hP hD (fun hP hD => ?_)
  refine lv_aload_n hx hb dX7_findCore_10 rfl (lv_at hl 1 rfl) ?_
  obtain ⟨hPc, hDc, hFc⟩ := g5_sub3 (wc := [(a_th, (oc7 a_h a_k a_ba a_ad z18 a_cn a_nx a_hp a_hl a_lv)), (a_ba, (arJ G 24 z19)), (a_ad, (arI G 1536 z20)), (a_hp, (arI G 1536 f_hp))]) hP hD hS hA [21, 22, 23, 0] (by decide) rfl
  refine va_calli (va_runV (As := []) (rest := []) ⟨hx, hb, hml, hown, hts⟩ (th_anyFits l G a_th a_ba a_ad a_hp a_h a_k a_cn a_nx a_hl a_lv H.size z18 z19 z20 f_hp) (cwV 0 hts gV_X7_117 rfl rfl rfl hv_X7_anyFits ⟨Nat.le_of_ble_eq_true rfl, Nat.le_of_ble_eq_true rfl⟩) (g5_preV hPc hK hDc hN hT hS hFc (ci := 7) (q0 := 0) rfl rfl) rfl rfl hl.1 rfl (lv_room (Nat.le_of_ble_eq_true rfl)) dX7_findCore_11 ⟨Nat.le_of_ble_eq_true rfl, Nat.le_of_ble_eq_true rfl⟩) hS (fun q _ h => hFc q h) hFc (fun r u t H1 locs ht hvm hw hB hz1 hk1 hS => ?_)
  obtain ⟨hP1, hD1⟩ := hB
  rw [ht] at hP1
  obtain ⟨z22, z23, i_21, y24, rfl⟩ := hw
  have i_21 : 0 ≤ z22.toInt ∧ z22.toInt ≤ 1 := i_21
  obtain ⟨hP, hD⟩ := va_join (wr := [(a_k, (oc5 a_h a_j a_pt z5 z6 z7 z8 z9 z10 z11 z12 z13 z14)), (a_h, (oc1 e_wa e_le e_st e_fo e_lc a_l a_g a_b a_s a_p a_w e_gb a_bb)), (a_g, (oc6 6 5 a_gn e_g)), (a_gn, (arI G 30 f_g)), (a_b, (oc6 5 24 a_bn e_b)), (a_bn, (arI G 120 f_b)), (a_p, (oc6 8 5 a_pn e_p)), (a_pn, (arI G 40 f_p)), (a_s, (oc6 10 4 a_sn e_s)), (a_sn, (arI G 40 f_s)), (a_bb, (arJ G 24 f_bb)), (a_j, (oc2 a_as a_sk)), (a_as, (arI G 8 z16)), (a_sk, (arJ G 50 z17)), (a_l, (arW G 6 f_l)), (a_lo, (oc3 e_cl a_hd a_sr a_cd)), (a_sr, (arI G n_sr f_sr)), (a_cd, (arI G n_cd f_cd)), (a_hd, (arI G n_hd f_hd)), (a_pt, (arI G 200 z15))]) hP hD [21, 22, 23, 0] [1, 2, 3, 4, 5, 6, 7, 8, 9, 10, 11, 12, 13, 14, 15, 16, 17, 18, 19, 20] rfl rfl (by decide) (by decide) hk1 hFc hP1 hD1
  generalize H1 = H at hP hS ⊢
  refine g5_rs [(a_k, (oc5 a_h a_j a_pt z5 z6 z7 z8 z9 z10 z11 z12 z13 z14)), (a_h, (oc1 e_wa e_le e_st e_fo e_lc a_l a_g a_b a_s a_p a_w e_gb a_bb)), (a_g, (oc6 6 5 a_gn e_g)), (a_gn, (arI G 30 f_g)), (a_b, (oc6 5 24 a_bn e_b)), (a_bn, (arI G 120 f_b)), (a_p, (oc6 8 5 a_pn e_p)), (a_pn, (arI G 40 f_p)), (a_s, (oc6 10 4 a_sn e_s)), (a_sn, (arI G 40 f_s)), (a_bb, (arJ G 24 f_bb)), (a_j, (oc2 a_as a_sk)), (a_as, (arI G 8 z16)), (a_sk, (arJ G 50 z17)), (a_l, (arW G 6 f_l)), (a_lo, (oc3 e_cl a_hd a_sr a_cd)), (a_sr, (arI G n_sr f_sr)), (a_cd, (arI G n_cd f_cd)), (a_hd, (arI G n_hd f_hd)), (a_pt, (arI G 200 z15)), (a_th, (oc7 a_h a_k a_ba a_ad z18 a_cn a_nx a_hp a_hl a_lv)), (a_ba, (arJ G 24 z19)), (a_ad, (arI G 1536 z20)), (a_hp, (arI G 1536 z23))] hP hD (fun hP hD => ?_)
  refine g5_ti (v := z22) y24 ?_
  refine lv_if_eq (tgt := 19) hx hb dX7_findCore_14 (by decide) (fun c_25 => ?_) (fun c_25 => ?_)
  ·
    have i_25 : z22.toInt = 0 := by have z := g5_eq (a := z22.toInt) (b := 0) (by rfl) (by decide) c_25; omega
    refine lv_aload_n hx hb dX7_findCore_19 rfl (lv_at hl 1 rfl) ?_
    refine lv_iconst (v := 0) hx hb dX7_findCore_20 (by decide) ?_
    obtain ⟨hPc, hDc, hFc⟩ := g5_sub3 (wc := [(a_k, (oc5 a_h a_j a_pt z5 z6 z7 z8 z9 z10 z11 z12 z13 z14)), (a_h, (oc1 e_wa e_le e_st e_fo e_lc a_l a_g a_b a_s a_p a_w e_gb a_bb)), (a_g, (oc6 6 5 a_gn e_g)), (a_gn, (arI G 30 f_g)), (a_b, (oc6 5 24 a_bn e_b)), (a_bn, (arI G 120 f_b)), (a_p, (oc6 8 5 a_pn e_p)), (a_pn, (arI G 40 f_p)), (a_s, (oc6 10 4 a_sn e_s)), (a_sn, (arI G 40 f_s)), (a_bb, (arJ G 24 f_bb)), (a_j, (oc2 a_as a_sk)), (a_as, (arI G 8 z16)), (a_sk, (arJ G 50 z17)), (a_l, (arW G 6 f_l)), (a_lo, (oc3 e_cl a_hd a_sr a_cd)), (a_sr, (arI G n_sr f_sr)), (a_cd, (arI G n_cd f_cd)), (a_hd, (arI G n_hd f_hd)), (a_pt, (arI G 200 z15)), (a_th, (oc7 a_h a_k a_ba a_ad z18 a_cn a_nx a_hp a_hl a_lv)), (a_ba, (arJ G 24 z19)), (a_ad, (arI G 1536 z20))]) hP hD hS hA [0, 1, 2, 3, 4, 5, 6, 7, 8, 9, 10, 11, 12, 13, 14, 15, 16, 17, 18, 19, 20, 21, 22] (by decide) rfl
    refine va_callv (va_runV (As := [.int 0]) (rest := []) ⟨hx, hb, hml, hown, hts⟩ (th_loadL l G a_k a_h a_g a_gn a_b a_bn a_p a_pn a_s a_sn a_bb a_j a_as a_sk a_l a_lo a_sr a_cd a_hd a_pt a_th a_ba a_ad a_w a_cn a_nx a_hp a_hl a_lv H.size e_le e_st e_fo e_lc e_g e_b e_p e_s e_cl z5 z6 z7 z8 z9 z10 z11 z12 z13 z14 z18 0 e_wa e_gb f_g f_b f_p f_s f_bb z16 z17 f_l f_sr f_cd f_hd z15 z19 z20 n_sr n_cd n_hd h_e_g h_e_b h_e_p h_e_s h_e_cl i_3 (e_gk) (e_pk) (e_gi) (e_sh) (e_s5) (e_f) (e_a) (e_hn) (e_hs) (e_hk) (e_c)) (cwV 1 hts gV_X7_138 rfl rfl rfl hv_X7_load ⟨Nat.le_of_ble_eq_true rfl, Nat.le_of_ble_eq_true rfl⟩) (g5_preV hPc hK hDc hN hT hS hFc (ci := 7) (q0 := 20) rfl rfl) rfl rfl hl.1 rfl (lv_room (Nat.le_of_ble_eq_true rfl)) dX7_findCore_21 ⟨Nat.le_of_ble_eq_true rfl, Nat.le_of_ble_eq_true rfl⟩) hS (fun q _ h => hFc q h) hFc (fun u t H1 locs ht hvm hw hB hz1 hk1 hS => ?_)
    obtain ⟨hP1, hD1⟩ := hB
    rw [ht] at hP1
    obtain ⟨z28, z29, z30, z31, z32, z33, z34, z35, z36, z37, z38, z39, z40, z41, z42, z43, i_26, i_27, rfl⟩ := hw
    have i_26 : 0 ≤ z37.toInt ∧ z37.toInt ≤ 1 := i_26
    have i_27 : TOK z41 z43 := i_27
    obtain ⟨hP, hD⟩ := va_join (wr := [(a_hp, (arI G 1536 z23))]) hP hD [0, 1, 2, 3, 4, 5, 6, 7, 8, 9, 10, 11, 12, 13, 14, 15, 16, 17, 18, 19, 20, 21, 22] [23] rfl rfl (by decide) (by decide) hk1 hFc hP1 hD1
    generalize H1 = H at hP hS ⊢
    refine g5_rs [(a_hp, (arI G 1536 z23)), (a_k, (oc5 a_h a_j a_pt z28 z29 z30 z31 z32 z33 z34 z35 z36 z37)), (a_h, (oc1 e_wa e_le e_st e_fo e_lc a_l a_g a_b a_s a_p a_w e_gb a_bb)), (a_g, (oc6 6 5 a_gn e_g)), (a_gn, (arI G 30 f_g)), (a_b, (oc6 5 24 a_bn e_b)), (a_bn, (arI G 120 f_b)), (a_p, (oc6 8 5 a_pn e_p)), (a_pn, (arI G 40 f_p)), (a_s, (oc6 10 4 a_sn e_s)), (a_sn, (arI G 40 f_s)), (a_bb, (arJ G 24 f_bb)), (a_j, (oc2 a_as a_sk)), (a_as, (arI G 8 z39)), (a_sk, (arJ G 50 z40)), (a_l, (arW G 6 f_l)), (a_lo, (oc3 e_cl a_hd a_sr a_cd)), (a_sr, (arI G n_sr f_sr)), (a_cd, (arI G n_cd f_cd)), (a_hd, (arI G n_hd f_hd)), (a_pt, (arI G 200 z38)), (a_th, (oc7 a_h a_k a_ba a_ad z41 a_cn a_nx a_hp a_hl a_lv)), (a_ba, (arJ G 24 z42)), (a_ad, (arI G 1536 z43))] hP hD (fun hP hD => ?_)
    refine lv_aload_n hx hb dX7_findCore_24 rfl (lv_at hl 1 rfl) ?_
    obtain ⟨hPc, hDc, hFc⟩ := g5_sub3 (wc := [(a_th, (oc7 a_h a_k a_ba a_ad z41 a_cn a_nx a_hp a_hl a_lv)), (a_ba, (arJ G 24 z42)), (a_ad, (arI G 1536 z43)), (a_hp, (arI G 1536 z23))]) hP hD hS hA [21, 22, 23, 0] (by decide) rfl
    refine va_calli (va_runV (As := []) (rest := []) ⟨hx, hb, hml, hown, hts⟩ (th_anyFits l G a_th a_ba a_ad a_hp a_h a_k a_cn a_nx a_hl a_lv H.size z41 z42 z43 z23) (cwV 0 hts gV_X7_117 rfl rfl rfl hv_X7_anyFits ⟨Nat.le_of_ble_eq_true rfl, Nat.le_of_ble_eq_true rfl⟩) (g5_preV hPc hK hDc hN hT hS hFc (ci := 7) (q0 := 0) rfl rfl) rfl rfl hl.1 rfl (lv_room (Nat.le_of_ble_eq_true rfl)) dX7_findCore_25 ⟨Nat.le_of_ble_eq_true rfl, Nat.le_of_ble_eq_true rfl⟩) hS (fun q _ h => hFc q h) hFc (fun r u t H1 locs ht hvm hw hB hz1 hk1 hS => ?_)
    obtain ⟨hP1, hD1⟩ := hB
    rw [ht] at hP1
    obtain ⟨z45, z46, i_44, y47, rfl⟩ := hw
    have i_44 : 0 ≤ z45.toInt ∧ z45.toInt ≤ 1 := i_44
    obtain ⟨hP, hD⟩ := va_join (wr := [(a_k, (oc5 a_h a_j a_pt z28 z29 z30 z31 z32 z33 z34 z35 z36 z37)), (a_h, (oc1 e_wa e_le e_st e_fo e_lc a_l a_g a_b a_s a_p a_w e_gb a_bb)), (a_g, (oc6 6 5 a_gn e_g)), (a_gn, (arI G 30 f_g)), (a_b, (oc6 5 24 a_bn e_b)), (a_bn, (arI G 120 f_b)), (a_p, (oc6 8 5 a_pn e_p)), (a_pn, (arI G 40 f_p)), (a_s, (oc6 10 4 a_sn e_s)), (a_sn, (arI G 40 f_s)), (a_bb, (arJ G 24 f_bb)), (a_j, (oc2 a_as a_sk)), (a_as, (arI G 8 z39)), (a_sk, (arJ G 50 z40)), (a_l, (arW G 6 f_l)), (a_lo, (oc3 e_cl a_hd a_sr a_cd)), (a_sr, (arI G n_sr f_sr)), (a_cd, (arI G n_cd f_cd)), (a_hd, (arI G n_hd f_hd)), (a_pt, (arI G 200 z38))]) hP hD [21, 22, 23, 0] [1, 2, 3, 4, 5, 6, 7, 8, 9, 10, 11, 12, 13, 14, 15, 16, 17, 18, 19, 20] rfl rfl (by decide) (by decide) hk1 hFc hP1 hD1
    generalize H1 = H at hP hS ⊢
    refine g5_rs [(a_k, (oc5 a_h a_j a_pt z28 z29 z30 z31 z32 z33 z34 z35 z36 z37)), (a_h, (oc1 e_wa e_le e_st e_fo e_lc a_l a_g a_b a_s a_p a_w e_gb a_bb)), (a_g, (oc6 6 5 a_gn e_g)), (a_gn, (arI G 30 f_g)), (a_b, (oc6 5 24 a_bn e_b)), (a_bn, (arI G 120 f_b)), (a_p, (oc6 8 5 a_pn e_p)), (a_pn, (arI G 40 f_p)), (a_s, (oc6 10 4 a_sn e_s)), (a_sn, (arI G 40 f_s)), (a_bb, (arJ G 24 f_bb)), (a_j, (oc2 a_as a_sk)), (a_as, (arI G 8 z39)), (a_sk, (arJ G 50 z40)), (a_l, (arW G 6 f_l)), (a_lo, (oc3 e_cl a_hd a_sr a_cd)), (a_sr, (arI G n_sr f_sr)), (a_cd, (arI G n_cd f_cd)), (a_hd, (arI G n_hd f_hd)), (a_pt, (arI G 200 z38)), (a_th, (oc7 a_h a_k a_ba a_ad z41 a_cn a_nx a_hp a_hl a_lv)), (a_ba, (arJ G 24 z42)), (a_ad, (arI G 1536 z43)), (a_hp, (arI G 1536 z46))] hP hD (fun hP hD => ?_)
    refine g5_ti (v := z45) y47 ?_
    refine lv_if_ne (tgt := 33) hx hb dX7_findCore_28 (by decide) (fun c_48 => ?_) (fun c_48 => ?_)
    ·
      have n_48 : gNe (z45.toInt) (0) := by have z := g5_ne (a := z45.toInt) (b := 0) (by rfl) (by decide) c_48; unfold gNe; omega
      have i_48 : z45.toInt ≥ 1 := by have z := g5_ne (a := z45.toInt) (b := 0) (by rfl) (by decide) c_48; omega
      refine lv_iconst (v := 0) hx hb dX7_findCore_33 (by decide) ?_
      refine lv_istore_n (lv' := [(2, .int 0), (1, .int z1), (0, .ref a_th)]) hx hb dX7_findCore_34 rfl hl (by decide) rfl (fun ls hl => ?_)
      refine g5_loop (α := (Int32) × (Int32) × (Int32) × (Int32) × (Int32) × (Int32) × (Int32) × (Int32) × (Int32) × (Int32) × (Int32) × (Nat → Int32) × (Nat → Int32) × (Nat → Int64) × (Int32) × (Int32) × (Nat → Int64) × (Nat → Int32) × (Nat → Int32)) (fun (q : (Int32) × (Int32) × (Int32) × (Int32) × (Int32) × (Int32) × (Int32) × (Int32) × (Int32) × (Int32) × (Int32) × (Nat → Int32) × (Nat → Int32) × (Nat → Int64) × (Int32) × (Int32) × (Nat → Int64) × (Nat → Int32) × (Nat → Int32)) (ls : Array Slot) (H : Heap) (locs : List Loc) => match q with | (k_b, k_i, k_se, k_lh, k_br, k_we, k_me, k_ce, k_wy, k_ho, k_ov, k_pt, k_as, k_sk, k_ln, k_fu, k_ba, k_ad, k_hp) => lv_has ls 3 [(1, .int k_b), (2, .int k_i), (0, .ref a_th)] ∧ va_P G.1 vwCl [(a_k, (oc5 a_h a_j a_pt k_ln k_se k_lh k_br k_we k_me k_ce k_wy k_ho k_ov)), (a_h, (oc1 e_wa e_le e_st e_fo e_lc a_l a_g a_b a_s a_p a_w e_gb a_bb)), (a_g, (oc6 6 5 a_gn e_g)), (a_gn, (arI G 30 f_g)), (a_b, (oc6 5 24 a_bn e_b)), (a_bn, (arI G 120 f_b)), (a_p, (oc6 8 5 a_pn e_p)), (a_pn, (arI G 40 f_p)), (a_s, (oc6 10 4 a_sn e_s)), (a_sn, (arI G 40 f_s)), (a_bb, (arJ G 24 f_bb)), (a_j, (oc2 a_as a_sk)), (a_as, (arI G 8 k_as)), (a_sk, (arJ G 50 k_sk)), (a_l, (arW G 6 f_l)), (a_lo, (oc3 e_cl a_hd a_sr a_cd)), (a_sr, (arI G n_sr f_sr)), (a_cd, (arI G n_cd f_cd)), (a_hd, (arI G n_hd f_hd)), (a_pt, (arI G 200 k_pt)), (a_th, (oc7 a_h a_k a_ba a_ad k_fu a_cn a_nx a_hp a_hl a_lv)), (a_ba, (arJ G 24 k_ba)), (a_ad, (arI G 1536 k_ad)), (a_hp, (arI G 1536 k_hp))] H ∧ va_D A [(a_k, (oc5 a_h a_j a_pt k_ln k_se k_lh k_br k_we k_me k_ce k_wy k_ho k_ov)), (a_h, (oc1 e_wa e_le e_st e_fo e_lc a_l a_g a_b a_s a_p a_w e_gb a_bb)), (a_g, (oc6 6 5 a_gn e_g)), (a_gn, (arI G 30 f_g)), (a_b, (oc6 5 24 a_bn e_b)), (a_bn, (arI G 120 f_b)), (a_p, (oc6 8 5 a_pn e_p)), (a_pn, (arI G 40 f_p)), (a_s, (oc6 10 4 a_sn e_s)), (a_sn, (arI G 40 f_s)), (a_bb, (arJ G 24 f_bb)), (a_j, (oc2 a_as a_sk)), (a_as, (arI G 8 k_as)), (a_sk, (arJ G 50 k_sk)), (a_l, (arW G 6 f_l)), (a_lo, (oc3 e_cl a_hd a_sr a_cd)), (a_sr, (arI G n_sr f_sr)), (a_cd, (arI G n_cd f_cd)), (a_hd, (arI G n_hd f_hd)), (a_pt, (arI G 200 k_pt)), (a_th, (oc7 a_h a_k a_ba a_ad k_fu a_cn a_nx a_hp a_hl a_lv)), (a_ba, (arJ G 24 k_ba)), (a_ad, (arI G 1536 k_ad)), (a_hp, (arI G 1536 k_hp))] ∧ va_S A s.heap H locs ∧ (0 ≤ k_i.toInt ∧ k_i.toInt ≤ 10) ∧ (0 ≤ k_ov.toInt ∧ k_ov.toInt ≤ 1) ∧ (k_i.toInt ≤ e_s.toInt) ∧ (TOK k_fu k_ad)) (fun (q : (Int32) × (Int32) × (Int32) × (Int32) × (Int32) × (Int32) × (Int32) × (Int32) × (Int32) × (Int32) × (Int32) × (Nat → Int32) × (Nat → Int32) × (Nat → Int64) × (Int32) × (Int32) × (Nat → Int64) × (Nat → Int32) × (Nat → Int32)) => match q with | (k_b, k_i, k_se, k_lh, k_br, k_we, k_me, k_ce, k_wy, k_ho, k_ov, k_pt, k_as, k_sk, k_ln, k_fu, k_ba, k_ad, k_hp) => Int.toNat (10 - k_i.toInt)) (z1, 0, z29, z30, z31, z32, z33, z34, z35, z36, z37, z38, z39, z40, z28, z41, z42, z43, z46) ⟨lv_sub hl [1, 0, 2] rfl, hP, hD, hS, ⟨by decide, by decide⟩, i_26, by have z0 : (0 : Int32).toInt = 0 := (by decide); omega, i_27⟩ ?_
      rintro ⟨k_b, k_i, k_se, k_lh, k_br, k_we, k_me, k_ce, k_wy, k_ho, k_ov, k_pt, k_as, k_sk, k_ln, k_fu, k_ba, k_ad, k_hp⟩ ls H locs ⟨hl, hP, hD, hS, i_49, i_50, i_51, i_52⟩ ih_35_53
      have hl : lv_has ls 3 [(1, .int k_b), (2, .int k_i), (0, .ref a_th)] := hl
      have i_49 : 0 ≤ k_i.toInt ∧ k_i.toInt ≤ 10 := i_49
      have i_50 : 0 ≤ k_ov.toInt ∧ k_ov.toInt ≤ 1 := i_50
      have i_51 : k_i.toInt ≤ e_s.toInt := i_51
      have i_52 : TOK k_fu k_ad := i_52
      refine g5_rs [(a_k, (oc5 a_h a_j a_pt k_ln k_se k_lh k_br k_we k_me k_ce k_wy k_ho k_ov)), (a_h, (oc1 e_wa e_le e_st e_fo e_lc a_l a_g a_b a_s a_p a_w e_gb a_bb)), (a_g, (oc6 6 5 a_gn e_g)), (a_gn, (arI G 30 f_g)), (a_b, (oc6 5 24 a_bn e_b)), (a_bn, (arI G 120 f_b)), (a_p, (oc6 8 5 a_pn e_p)), (a_pn, (arI G 40 f_p)), (a_s, (oc6 10 4 a_sn e_s)), (a_sn, (arI G 40 f_s)), (a_bb, (arJ G 24 f_bb)), (a_j, (oc2 a_as a_sk)), (a_as, (arI G 8 k_as)), (a_sk, (arJ G 50 k_sk)), (a_l, (arW G 6 f_l)), (a_lo, (oc3 e_cl a_hd a_sr a_cd)), (a_sr, (arI G n_sr f_sr)), (a_cd, (arI G n_cd f_cd)), (a_hd, (arI G n_hd f_hd)), (a_pt, (arI G 200 k_pt)), (a_th, (oc7 a_h a_k a_ba a_ad k_fu a_cn a_nx a_hp a_hl a_lv)), (a_ba, (arJ G 24 k_ba)), (a_ad, (arI G 1536 k_ad)), (a_hp, (arI G 1536 k_hp))] hP hD (fun hP hD => ?_)
      refine lv_iload_n hx hb dX7_findCore_35 rfl (lv_at hl 1 rfl) ?_
      refine lv_aload_n hx hb dX7_findCore_36 rfl (lv_at hl 2 rfl) ?_
      refine va_get (D := G.1) (ci := 7) (v := .ref a_h) (C := RX7) (T := TX7) (N := 10) hx hb hts inG_X7 hown hK hP 20 rfl rfl 0 (by decide) (hts _ fl_X7_34) (fun _ h9 => h9) rfl dX7_findCore_37 ?_
      refine va_get (D := G.1) (ci := 1) (v := .ref a_s) (C := RX1) (T := TX1) (N := 13) hx hb hts inG_X1 hown hK hP 1 rfl rfl 8 (by decide) (hts _ fl_X7_42) (fun _ h9 => h9) rfl dX7_findCore_40 ?_
      refine va_get (D := G.1) (ci := 6) (v := .int e_s) (C := RX6) (T := TX6) (N := 4) hx hb hts inG_X6 hown hK hP 8 rfl rfl 3 (by decide) (hts _ fl_X7_48) (fun _ h9 => h9) rfl dX7_findCore_43 ?_
      refine lv_icmp_ge (tgt := 81) hx hb dX7_findCore_46 (by decide) (fun c_54 => ?_) (fun c_54 => ?_)
      ·
        have i_54 : k_i.toInt ≥ e_s.toInt := by have z := g5_ge (a := k_i.toInt) (b := e_s.toInt) (by rfl) (by rfl) c_54; omega
        refine lv_iload_n hx hb dX7_findCore_81 rfl (lv_at hl 0 rfl) ?_
        exact W.iret (v := k_b) hx hb hr (fun t ht hW => ⟨⟨k_b, [(a_k, (oc5 a_h a_j a_pt k_ln k_se k_lh k_br k_we k_me k_ce k_wy k_ho k_ov)), (a_h, (oc1 e_wa e_le e_st e_fo e_lc a_l a_g a_b a_s a_p a_w e_gb a_bb)), (a_g, (oc6 6 5 a_gn e_g)), (a_gn, (arI G 30 f_g)), (a_b, (oc6 5 24 a_bn e_b)), (a_bn, (arI G 120 f_b)), (a_p, (oc6 8 5 a_pn e_p)), (a_pn, (arI G 40 f_p)), (a_s, (oc6 10 4 a_sn e_s)), (a_sn, (arI G 40 f_s)), (a_bb, (arJ G 24 f_bb)), (a_j, (oc2 a_as a_sk)), (a_as, (arI G 8 k_as)), (a_sk, (arJ G 50 k_sk)), (a_l, (arW G 6 f_l)), (a_lo, (oc3 e_cl a_hd a_sr a_cd)), (a_sr, (arI G n_sr f_sr)), (a_cd, (arI G n_cd f_cd)), (a_hd, (arI G n_hd f_hd)), (a_pt, (arI G 200 k_pt)), (a_th, (oc7 a_h a_k a_ba a_ad k_fu a_cn a_nx a_hp a_hl a_lv)), (a_ba, (arJ G 24 k_ba)), (a_ad, (arI G 1536 k_ad)), (a_hp, (arI G 1536 k_hp))], rfl, ⟨k_b, k_ln, k_se, k_lh, k_br, k_we, k_me, k_ce, k_wy, k_ho, k_ov, k_pt, k_as, k_sk, k_fu, k_ba, k_ad, k_hp, i_50, i_52, rfl, rfl⟩, by rw [ht]; exact hP.sub [0, 1, 2, 3, 4, 5, 6, 7, 8, 9, 10, 11, 12, 13, 14, 15, 16, 17, 18, 19, 20, 21, 22, 23] rfl, hD.sub [0, 1, 2, 3, 4, 5, 6, 7, 8, 9, 10, 11, 12, 13, 14, 15, 16, 17, 18, 19, 20, 21, 22, 23] (by decide) rfl⟩, hS.F ht⟩) hS.2.2 dX7_findCore_82
      ·
        have i_54 : k_i.toInt < e_s.toInt := by have z := g5_geN (a := k_i.toInt) (b := e_s.toInt) (by rfl) (by rfl) c_54; omega
        refine lv_aload_n hx hb dX7_findCore_49 rfl (lv_at hl 2 rfl) ?_
        refine lv_iload_n hx hb dX7_findCore_50 rfl (lv_at hl 0 rfl) ?_
        refine lv_iconst (v := 1) hx hb dX7_findCore_51 (by decide) ?_
        refine lv_iload_n hx hb dX7_findCore_52 rfl (lv_at hl 1 rfl) ?_
        refine lv_ishl hx hb dX7_findCore_53 ?_
        refine lv_iconst (v := (-1)) hx hb dX7_findCore_54 (by decide) ?_
        refine lv_ixor hx hb dX7_findCore_55 ?_
        refine lv_iand hx hb dX7_findCore_56 ?_
        obtain ⟨hPc, hDc, hFc⟩ := g5_sub3 (wc := [(a_k, (oc5 a_h a_j a_pt k_ln k_se k_lh k_br k_we k_me k_ce k_wy k_ho k_ov)), (a_h, (oc1 e_wa e_le e_st e_fo e_lc a_l a_g a_b a_s a_p a_w e_gb a_bb)), (a_g, (oc6 6 5 a_gn e_g)), (a_gn, (arI G 30 f_g)), (a_b, (oc6 5 24 a_bn e_b)), (a_bn, (arI G 120 f_b)), (a_p, (oc6 8 5 a_pn e_p)), (a_pn, (arI G 40 f_p)), (a_s, (oc6 10 4 a_sn e_s)), (a_sn, (arI G 40 f_s)), (a_bb, (arJ G 24 f_bb)), (a_j, (oc2 a_as a_sk)), (a_as, (arI G 8 k_as)), (a_sk, (arJ G 50 k_sk)), (a_l, (arW G 6 f_l)), (a_lo, (oc3 e_cl a_hd a_sr a_cd)), (a_sr, (arI G n_sr f_sr)), (a_cd, (arI G n_cd f_cd)), (a_hd, (arI G n_hd f_hd)), (a_pt, (arI G 200 k_pt)), (a_th, (oc7 a_h a_k a_ba a_ad k_fu a_cn a_nx a_hp a_hl a_lv)), (a_ba, (arJ G 24 k_ba)), (a_ad, (arI G 1536 k_ad))]) hP hD hS hA [0, 1, 2, 3, 4, 5, 6, 7, 8, 9, 10, 11, 12, 13, 14, 15, 16, 17, 18, 19, 20, 21, 22] (by decide) rfl
        refine va_callv (va_runV (As := [.int (k_b &&& ((1 <<< (k_i &&& 31)) ^^^ (-1)))]) (rest := []) ⟨hx, hb, hml, hown, hts⟩ (th_loadL l G a_k a_h a_g a_gn a_b a_bn a_p a_pn a_s a_sn a_bb a_j a_as a_sk a_l a_lo a_sr a_cd a_hd a_pt a_th a_ba a_ad a_w a_cn a_nx a_hp a_hl a_lv H.size e_le e_st e_fo e_lc e_g e_b e_p e_s e_cl k_ln k_se k_lh k_br k_we k_me k_ce k_wy k_ho k_ov k_fu (k_b &&& ((1 <<< (k_i &&& 31)) ^^^ (-1))) e_wa e_gb f_g f_b f_p f_s f_bb k_as k_sk f_l f_sr f_cd f_hd k_pt k_ba k_ad n_sr n_cd n_hd h_e_g h_e_b h_e_p h_e_s h_e_cl i_50 (e_gk) (e_pk) (e_gi) (e_sh) (e_s5) (e_f) (e_a) (e_hn) (e_hs) (e_hk) (e_c)) (cwV 1 hts gV_X7_138 rfl rfl rfl hv_X7_load ⟨Nat.le_of_ble_eq_true rfl, Nat.le_of_ble_eq_true rfl⟩) (g5_preV hPc hK hDc hN hT hS hFc (ci := 7) (q0 := 20) rfl rfl) rfl rfl hl.1 rfl (lv_room (Nat.le_of_ble_eq_true rfl)) dX7_findCore_57 ⟨Nat.le_of_ble_eq_true rfl, Nat.le_of_ble_eq_true rfl⟩) hS (fun q _ h => hFc q h) hFc (fun u t H1 locs ht hvm hw hB hz1 hk1 hS => ?_)
        obtain ⟨hP1, hD1⟩ := hB
        rw [ht] at hP1
        obtain ⟨z57, z58, z59, z60, z61, z62, z63, z64, z65, z66, z67, z68, z69, z70, z71, z72, i_55, i_56, rfl⟩ := hw
        have i_55 : 0 ≤ z66.toInt ∧ z66.toInt ≤ 1 := i_55
        have i_56 : TOK z70 z72 := i_56
        obtain ⟨hP, hD⟩ := va_join (wr := [(a_hp, (arI G 1536 k_hp))]) hP hD [0, 1, 2, 3, 4, 5, 6, 7, 8, 9, 10, 11, 12, 13, 14, 15, 16, 17, 18, 19, 20, 21, 22] [23] rfl rfl (by decide) (by decide) hk1 hFc hP1 hD1
        generalize H1 = H at hP hS ⊢
        refine g5_rs [(a_hp, (arI G 1536 k_hp)), (a_k, (oc5 a_h a_j a_pt z57 z58 z59 z60 z61 z62 z63 z64 z65 z66)), (a_h, (oc1 e_wa e_le e_st e_fo e_lc a_l a_g a_b a_s a_p a_w e_gb a_bb)), (a_g, (oc6 6 5 a_gn e_g)), (a_gn, (arI G 30 f_g)), (a_b, (oc6 5 24 a_bn e_b)), (a_bn, (arI G 120 f_b)), (a_p, (oc6 8 5 a_pn e_p)), (a_pn, (arI G 40 f_p)), (a_s, (oc6 10 4 a_sn e_s)), (a_sn, (arI G 40 f_s)), (a_bb, (arJ G 24 f_bb)), (a_j, (oc2 a_as a_sk)), (a_as, (arI G 8 z68)), (a_sk, (arJ G 50 z69)), (a_l, (arW G 6 f_l)), (a_lo, (oc3 e_cl a_hd a_sr a_cd)), (a_sr, (arI G n_sr f_sr)), (a_cd, (arI G n_cd f_cd)), (a_hd, (arI G n_hd f_hd)), (a_pt, (arI G 200 z67)), (a_th, (oc7 a_h a_k a_ba a_ad z70 a_cn a_nx a_hp a_hl a_lv)), (a_ba, (arJ G 24 z71)), (a_ad, (arI G 1536 z72))] hP hD (fun hP hD => ?_)
        refine lv_aload_n hx hb dX7_findCore_60 rfl (lv_at hl 2 rfl) ?_
        obtain ⟨hPc, hDc, hFc⟩ := g5_sub3 (wc := [(a_th, (oc7 a_h a_k a_ba a_ad z70 a_cn a_nx a_hp a_hl a_lv)), (a_ba, (arJ G 24 z71)), (a_ad, (arI G 1536 z72)), (a_hp, (arI G 1536 k_hp))]) hP hD hS hA [21, 22, 23, 0] (by decide) rfl
        refine va_calli (va_runV (As := []) (rest := []) ⟨hx, hb, hml, hown, hts⟩ (th_anyFits l G a_th a_ba a_ad a_hp a_h a_k a_cn a_nx a_hl a_lv H.size z70 z71 z72 k_hp) (cwV 0 hts gV_X7_117 rfl rfl rfl hv_X7_anyFits ⟨Nat.le_of_ble_eq_true rfl, Nat.le_of_ble_eq_true rfl⟩) (g5_preV hPc hK hDc hN hT hS hFc (ci := 7) (q0 := 0) rfl rfl) rfl rfl hl.1 rfl (lv_room (Nat.le_of_ble_eq_true rfl)) dX7_findCore_61 ⟨Nat.le_of_ble_eq_true rfl, Nat.le_of_ble_eq_true rfl⟩) hS (fun q _ h => hFc q h) hFc (fun r u t H1 locs ht hvm hw hB hz1 hk1 hS => ?_)
        obtain ⟨hP1, hD1⟩ := hB
        rw [ht] at hP1
        obtain ⟨z74, z75, i_73, y76, rfl⟩ := hw
        have i_73 : 0 ≤ z74.toInt ∧ z74.toInt ≤ 1 := i_73
        obtain ⟨hP, hD⟩ := va_join (wr := [(a_k, (oc5 a_h a_j a_pt z57 z58 z59 z60 z61 z62 z63 z64 z65 z66)), (a_h, (oc1 e_wa e_le e_st e_fo e_lc a_l a_g a_b a_s a_p a_w e_gb a_bb)), (a_g, (oc6 6 5 a_gn e_g)), (a_gn, (arI G 30 f_g)), (a_b, (oc6 5 24 a_bn e_b)), (a_bn, (arI G 120 f_b)), (a_p, (oc6 8 5 a_pn e_p)), (a_pn, (arI G 40 f_p)), (a_s, (oc6 10 4 a_sn e_s)), (a_sn, (arI G 40 f_s)), (a_bb, (arJ G 24 f_bb)), (a_j, (oc2 a_as a_sk)), (a_as, (arI G 8 z68)), (a_sk, (arJ G 50 z69)), (a_l, (arW G 6 f_l)), (a_lo, (oc3 e_cl a_hd a_sr a_cd)), (a_sr, (arI G n_sr f_sr)), (a_cd, (arI G n_cd f_cd)), (a_hd, (arI G n_hd f_hd)), (a_pt, (arI G 200 z67))]) hP hD [21, 22, 23, 0] [1, 2, 3, 4, 5, 6, 7, 8, 9, 10, 11, 12, 13, 14, 15, 16, 17, 18, 19, 20] rfl rfl (by decide) (by decide) hk1 hFc hP1 hD1
        generalize H1 = H at hP hS ⊢
        refine g5_rs [(a_k, (oc5 a_h a_j a_pt z57 z58 z59 z60 z61 z62 z63 z64 z65 z66)), (a_h, (oc1 e_wa e_le e_st e_fo e_lc a_l a_g a_b a_s a_p a_w e_gb a_bb)), (a_g, (oc6 6 5 a_gn e_g)), (a_gn, (arI G 30 f_g)), (a_b, (oc6 5 24 a_bn e_b)), (a_bn, (arI G 120 f_b)), (a_p, (oc6 8 5 a_pn e_p)), (a_pn, (arI G 40 f_p)), (a_s, (oc6 10 4 a_sn e_s)), (a_sn, (arI G 40 f_s)), (a_bb, (arJ G 24 f_bb)), (a_j, (oc2 a_as a_sk)), (a_as, (arI G 8 z68)), (a_sk, (arJ G 50 z69)), (a_l, (arW G 6 f_l)), (a_lo, (oc3 e_cl a_hd a_sr a_cd)), (a_sr, (arI G n_sr f_sr)), (a_cd, (arI G n_cd f_cd)), (a_hd, (arI G n_hd f_hd)), (a_pt, (arI G 200 z67)), (a_th, (oc7 a_h a_k a_ba a_ad z70 a_cn a_nx a_hp a_hl a_lv)), (a_ba, (arJ G 24 z71)), (a_ad, (arI G 1536 z72)), (a_hp, (arI G 1536 z75))] hP hD (fun hP hD => ?_)
        refine g5_ti (v := z74) y76 ?_
        refine lv_if_ne (tgt := 75) hx hb dX7_findCore_64 (by decide) (fun c_77 => ?_) (fun c_77 => ?_)
        ·
          have n_77 : gNe (z74.toInt) (0) := by have z := g5_ne (a := z74.toInt) (b := 0) (by rfl) (by decide) c_77; unfold gNe; omega
          have i_77 : z74.toInt ≥ 1 := by have z := g5_ne (a := z74.toInt) (b := 0) (by rfl) (by decide) c_77; omega
          refine lv_iinc (v := (k_i + 1)) (lv' := [(2, .int (k_i + 1)), (1, .int k_b), (0, .ref a_th)]) hx hb dX7_findCore_75 hl (k := 1) rfl rfl (by decide) rfl (fun ls hl => ?_)
          have t_78 : (k_i + 1).toInt = k_i.toInt + 1 := g5_iadd (a := k_i.toInt) (b := 1) rfl (by decide) (by omega) (by omega)
          refine lv_goto (tgt := 35) hx hb dX7_findCore_78 (by decide) ?_
          exact ih_35_53 (k_b, (k_i + 1), z58, z59, z60, z61, z62, z63, z64, z65, z66, z67, z68, z69, z57, z70, z71, z72, z75) ls H locs (show Int.toNat (10 - (k_i + 1).toInt) < Int.toNat (10 - k_i.toInt) from g_up (show k_i.toInt < (k_i + 1).toInt by omega) (show k_i.toInt < 10 by omega)) ⟨lv_sub hl [1, 0, 2] rfl, hP, hD, hS, ⟨by omega, by omega⟩, i_55, by omega, i_56⟩
        ·
          have i_77 : z74.toInt = 0 := by have z := g5_neN (a := z74.toInt) (b := 0) (by rfl) (by decide) c_77; omega
          refine lv_iload_n hx hb dX7_findCore_67 rfl (lv_at hl 0 rfl) ?_
          refine lv_iconst (v := 1) hx hb dX7_findCore_68 (by decide) ?_
          refine lv_iload_n hx hb dX7_findCore_69 rfl (lv_at hl 1 rfl) ?_
          refine lv_ishl hx hb dX7_findCore_70 ?_
          refine lv_iconst (v := (-1)) hx hb dX7_findCore_71 (by decide) ?_
          refine lv_ixor hx hb dX7_findCore_72 ?_
          refine lv_iand hx hb dX7_findCore_73 ?_
          refine lv_istore_n (lv' := [(1, .int (k_b &&& ((1 <<< (k_i &&& 31)) ^^^ (-1)))), (2, .int k_i), (0, .ref a_th)]) hx hb dX7_findCore_74 rfl hl (by decide) rfl (fun ls hl => ?_)
          refine lv_iinc (v := (k_i + 1)) (lv' := [(2, .int (k_i + 1)), (1, .int (k_b &&& ((1 <<< (k_i &&& 31)) ^^^ (-1)))), (0, .ref a_th)]) hx hb dX7_findCore_75 hl (k := 1) rfl rfl (by decide) rfl (fun ls hl => ?_)
          have t_79 : (k_i + 1).toInt = k_i.toInt + 1 := g5_iadd (a := k_i.toInt) (b := 1) rfl (by decide) (by omega) (by omega)
          refine lv_goto (tgt := 35) hx hb dX7_findCore_78 (by decide) ?_
          exact ih_35_53 ((k_b &&& ((1 <<< (k_i &&& 31)) ^^^ (-1))), (k_i + 1), z58, z59, z60, z61, z62, z63, z64, z65, z66, z67, z68, z69, z57, z70, z71, z72, z75) ls H locs (show Int.toNat (10 - (k_i + 1).toInt) < Int.toNat (10 - k_i.toInt) from g_up (show k_i.toInt < (k_i + 1).toInt by omega) (show k_i.toInt < 10 by omega)) ⟨lv_sub hl [1, 0, 2] rfl, hP, hD, hS, ⟨by omega, by omega⟩, i_55, by omega, i_56⟩
    ·
      have i_48 : z45.toInt = 0 := by have z := g5_neN (a := z45.toInt) (b := 0) (by rfl) (by decide) c_48; omega
      refine lv_iconst (v := (-1)) hx hb dX7_findCore_31 (by decide) ?_
      exact W.iret (v := (-1)) hx hb hr (fun t ht hW => ⟨⟨(-1), [(a_k, (oc5 a_h a_j a_pt z28 z29 z30 z31 z32 z33 z34 z35 z36 z37)), (a_h, (oc1 e_wa e_le e_st e_fo e_lc a_l a_g a_b a_s a_p a_w e_gb a_bb)), (a_g, (oc6 6 5 a_gn e_g)), (a_gn, (arI G 30 f_g)), (a_b, (oc6 5 24 a_bn e_b)), (a_bn, (arI G 120 f_b)), (a_p, (oc6 8 5 a_pn e_p)), (a_pn, (arI G 40 f_p)), (a_s, (oc6 10 4 a_sn e_s)), (a_sn, (arI G 40 f_s)), (a_bb, (arJ G 24 f_bb)), (a_j, (oc2 a_as a_sk)), (a_as, (arI G 8 z39)), (a_sk, (arJ G 50 z40)), (a_l, (arW G 6 f_l)), (a_lo, (oc3 e_cl a_hd a_sr a_cd)), (a_sr, (arI G n_sr f_sr)), (a_cd, (arI G n_cd f_cd)), (a_hd, (arI G n_hd f_hd)), (a_pt, (arI G 200 z38)), (a_th, (oc7 a_h a_k a_ba a_ad z41 a_cn a_nx a_hp a_hl a_lv)), (a_ba, (arJ G 24 z42)), (a_ad, (arI G 1536 z43)), (a_hp, (arI G 1536 z46))], rfl, ⟨(-1), z28, z29, z30, z31, z32, z33, z34, z35, z36, z37, z38, z39, z40, z41, z42, z43, z46, i_26, i_27, rfl, rfl⟩, by rw [ht]; exact hP.sub [0, 1, 2, 3, 4, 5, 6, 7, 8, 9, 10, 11, 12, 13, 14, 15, 16, 17, 18, 19, 20, 21, 22, 23] rfl, hD.sub [0, 1, 2, 3, 4, 5, 6, 7, 8, 9, 10, 11, 12, 13, 14, 15, 16, 17, 18, 19, 20, 21, 22, 23] (by decide) rfl⟩, hS.F ht⟩) hS.2.2 dX7_findCore_32
  ·
    have n_25 : gNe (z22.toInt) (0) := by have z := g5_eqN (a := z22.toInt) (b := 0) (by rfl) (by decide) c_25; unfold gNe; omega
    have i_25 : z22.toInt ≥ 1 := by have z := g5_eqN (a := z22.toInt) (b := 0) (by rfl) (by decide) c_25; omega
    refine lv_iconst (v := 0) hx hb dX7_findCore_17 (by decide) ?_
    exact W.iret (v := 0) hx hb hr (fun t ht hW => ⟨⟨0, [(a_k, (oc5 a_h a_j a_pt z5 z6 z7 z8 z9 z10 z11 z12 z13 z14)), (a_h, (oc1 e_wa e_le e_st e_fo e_lc a_l a_g a_b a_s a_p a_w e_gb a_bb)), (a_g, (oc6 6 5 a_gn e_g)), (a_gn, (arI G 30 f_g)), (a_b, (oc6 5 24 a_bn e_b)), (a_bn, (arI G 120 f_b)), (a_p, (oc6 8 5 a_pn e_p)), (a_pn, (arI G 40 f_p)), (a_s, (oc6 10 4 a_sn e_s)), (a_sn, (arI G 40 f_s)), (a_bb, (arJ G 24 f_bb)), (a_j, (oc2 a_as a_sk)), (a_as, (arI G 8 z16)), (a_sk, (arJ G 50 z17)), (a_l, (arW G 6 f_l)), (a_lo, (oc3 e_cl a_hd a_sr a_cd)), (a_sr, (arI G n_sr f_sr)), (a_cd, (arI G n_cd f_cd)), (a_hd, (arI G n_hd f_hd)), (a_pt, (arI G 200 z15)), (a_th, (oc7 a_h a_k a_ba a_ad z18 a_cn a_nx a_hp a_hl a_lv)), (a_ba, (arJ G 24 z19)), (a_ad, (arI G 1536 z20)), (a_hp, (arI G 1536 z23))], rfl, ⟨0, z5, z6, z7, z8, z9, z10, z11, z12, z13, z14, z15, z16, z17, z18, z19, z20, z23, i_3, i_4, rfl, rfl⟩, by rw [ht]; exact hP.sub [0, 1, 2, 3, 4, 5, 6, 7, 8, 9, 10, 11, 12, 13, 14, 15, 16, 17, 18, 19, 20, 21, 22, 23] rfl, hD.sub [0, 1, 2, 3, 4, 5, 6, 7, 8, 9, 10, 11, 12, 13, 14, 15, 16, 17, 18, 19, 20, 21, 22, 23] (by decide) rfl⟩, hS.F ht⟩) hS.2.2 dX7_findCore_18
theorem dgJ3_checkIndex_8e157_0 : ∀ r ∈ ([(0, (.iload_n 0, 1)), (1, (.ifCond .lt 8, 3)), (4, (.iload_n 0, 1)), (5, (.iload_n 1, 1)), (6, (.if_icmp .lt 10, 3)), (9, (.aload_n 2, 1)), (10, (.iload_n 0, 1)), (11, (.iload_n 1, 1)), (12, (.invokestatic 95, 3)), (15, (.athrow, 1)), (16, (.iload_n 0, 1)), (17, (.ireturn, 1))] : List (Nat × (Instr × Nat))), decode cJ3_checkIndex_8e157 r.1 = .ok r.2 := by decide +kernel
theorem dJ3_checkIndex_8e157_0 : decode cJ3_checkIndex_8e157 0 = .ok (.iload_n 0, 1) := dgJ3_checkIndex_8e157_0 (0, (.iload_n 0, 1)) (List.mem_of_getElem? (i := 0) rfl)
theorem dJ3_checkIndex_8e157_1 : decode cJ3_checkIndex_8e157 1 = .ok (.ifCond .lt 8, 3) := dgJ3_checkIndex_8e157_0 (1, (.ifCond .lt 8, 3)) (List.mem_of_getElem? (i := 1) rfl)
theorem dJ3_checkIndex_8e157_4 : decode cJ3_checkIndex_8e157 4 = .ok (.iload_n 0, 1) := dgJ3_checkIndex_8e157_0 (4, (.iload_n 0, 1)) (List.mem_of_getElem? (i := 2) rfl)
theorem dJ3_checkIndex_8e157_5 : decode cJ3_checkIndex_8e157 5 = .ok (.iload_n 1, 1) := dgJ3_checkIndex_8e157_0 (5, (.iload_n 1, 1)) (List.mem_of_getElem? (i := 3) rfl)
theorem dJ3_checkIndex_8e157_6 : decode cJ3_checkIndex_8e157 6 = .ok (.if_icmp .lt 10, 3) := dgJ3_checkIndex_8e157_0 (6, (.if_icmp .lt 10, 3)) (List.mem_of_getElem? (i := 4) rfl)
theorem dJ3_checkIndex_8e157_16 : decode cJ3_checkIndex_8e157 16 = .ok (.iload_n 0, 1) := dgJ3_checkIndex_8e157_0 (16, (.iload_n 0, 1)) (List.mem_of_getElem? (i := 10) rfl)
theorem dJ3_checkIndex_8e157_17 : decode cJ3_checkIndex_8e157 17 = .ok (.ireturn, 1) := dgJ3_checkIndex_8e157_0 (17, (.ireturn, 1)) (List.mem_of_getElem? (i := 11) rfl)
set_option maxHeartbeats 4000000 in
set_option maxRecDepth 100000 in
theorem s_preN (l : Launch) (G : g5_G) (sz : Nat) (p_i : Int32) (h_p_i : 0 ≤ p_i.toInt ∧ p_i.toInt ≤ 73) : Met l yJ3_checkIndex_8e157 (wsG yJ3_checkIndex_8e157 cJ3_checkIndex_8e157 3 (some .int)) ({ frames := 0, cells := 0, slots := 0, locals := 0 }) (va_Pc [.int p_i, .int 74, .null] (g5_P G [] sz)) (va_Qi (fun (r : Int32) (u : va_W) => ((r = p_i) ∧ (u = []))) (g5_B G (va_A [] sz)) (va_A [] sz)) 0 0 (va_A [] sz) := by
  refine Met.ofW (cc := cJ3_checkIndex_8e157) (maxL := 3) (ret := (some .int)) (by decide) rfl ?_
  intro p e s m args below meth c s₁ B hml hv
  obtain ⟨rfl, hsz, hP, hK, hD0, hN, hT⟩ := hv
  have hx := B.exec
  have hb := B.bytes
  have hr := B.returns
  have hts : ∀ w ∈ tblG, w.before _ s = true := fun w h => atoms_spec (ws := (wsG yJ3_checkIndex_8e157 cJ3_checkIndex_8e157 3 (some .int))) B.pre w (List.mem_cons_of_mem _ h)
  have hown : s.vm.findClass RJ3 = some m.cls := findClass_of_methodNamed B.named
  have hlocks := B.notSynchronized
  subst hsz
  have hD := hD0.self (sz := s.heap.size)
  generalize hAe : va_A [] s.heap.size = A at hD hT ⊢
  have hA : ∀ q : Nat, s.heap.size ≤ q → A q := fun q h => by rw [← hAe]; exact Or.inr h
  have hS : va_S A s.heap s.heap [] := va_S.rf
  have hP : va_P G.1 vwCl [] s.heap := hP
  have hl := lv_entry ([.int p_i, .int 74, .null]) (n := 3) (Nat.le_of_ble_eq_true rfl)
  rw [lg_entry_eq]
  generalize (lg_sl ([.int p_i, .int 74, .null]) ++ List.replicate (3 - (lg_sl ([.int p_i, .int 74, .null])).length) Slot.unset).toArray = ls at hl ⊢
  have hl : lv_has ls 3 [(0, .int p_i), (1, .int 74), (2, .null)] := hl
  refine lv_iload_n hx hb dJ3_checkIndex_8e157_0 rfl (lv_at hl 0 rfl) ?_
  refine lv_if_lt (tgt := 9) hx hb dJ3_checkIndex_8e157_1 (by decide) (fun c_1 => ?_) (fun c_1 => ?_)
  ·
    have i_1 : p_i.toInt < 0 := by have z := g5_lt (a := p_i.toInt) (b := 0) (by rfl) (by decide) c_1; omega
    omega
  ·
    have i_1 : p_i.toInt ≥ 0 := by have z := g5_ltN (a := p_i.toInt) (b := 0) (by rfl) (by decide) c_1; omega
    refine lv_iload_n hx hb dJ3_checkIndex_8e157_4 rfl (lv_at hl 0 rfl) ?_
    refine lv_iload_n hx hb dJ3_checkIndex_8e157_5 rfl (lv_at hl 1 rfl) ?_
    refine lv_icmp_lt (tgt := 16) hx hb dJ3_checkIndex_8e157_6 (by decide) (fun c_2 => ?_) (fun c_2 => ?_)
    ·
      have i_2 : p_i.toInt < 74 := by have z := g5_lt (a := p_i.toInt) (b := 74) (by rfl) (by decide) c_2; omega
      refine lv_iload_n hx hb dJ3_checkIndex_8e157_16 rfl (lv_at hl 0 rfl) ?_
      exact W.iret (v := p_i) hx hb hr (fun t ht hW => ⟨⟨p_i, [], rfl, ⟨rfl, rfl⟩, by rw [ht]; exact hP.sub [] rfl, hD.sub [] (by decide) rfl⟩, hS.F ht⟩) hS.2.2 dJ3_checkIndex_8e157_17
    ·
      have i_2 : p_i.toInt ≥ 74 := by have z := g5_ltN (a := p_i.toInt) (b := 74) (by rfl) (by decide) c_2; omega
      omega
set_option maxHeartbeats 4000000 in
set_option maxRecDepth 100000 in
theorem s_preR (l : Launch) (G : g5_G) (a_f : Nat) (sz : Nat) (p_i : Int32) (h_p_i : 0 ≤ p_i.toInt ∧ p_i.toInt ≤ 73) : Met l yJ3_checkIndex_8e157 (wsG yJ3_checkIndex_8e157 cJ3_checkIndex_8e157 3 (some .int)) ({ frames := 0, cells := 0, slots := 0, locals := 0 }) (va_Pc [.int p_i, .int 74, .ref a_f] (g5_P G [] sz)) (va_Qi (fun (r : Int32) (u : va_W) => ((r = p_i) ∧ (u = []))) (g5_B G (va_A [] sz)) (va_A [] sz)) 0 0 (va_A [] sz) := by
  refine Met.ofW (cc := cJ3_checkIndex_8e157) (maxL := 3) (ret := (some .int)) (by decide) rfl ?_
  intro p e s m args below meth c s₁ B hml hv
  obtain ⟨rfl, hsz, hP, hK, hD0, hN, hT⟩ := hv
  have hx := B.exec
  have hb := B.bytes
  have hr := B.returns
  have hts : ∀ w ∈ tblG, w.before _ s = true := fun w h => atoms_spec (ws := (wsG yJ3_checkIndex_8e157 cJ3_checkIndex_8e157 3 (some .int))) B.pre w (List.mem_cons_of_mem _ h)
  have hown : s.vm.findClass RJ3 = some m.cls := findClass_of_methodNamed B.named
  have hlocks := B.notSynchronized
  subst hsz
  have hD := hD0.self (sz := s.heap.size)
  generalize hAe : va_A [] s.heap.size = A at hD hT ⊢
  have hA : ∀ q : Nat, s.heap.size ≤ q → A q := fun q h => by rw [← hAe]; exact Or.inr h
  have hS : va_S A s.heap s.heap [] := va_S.rf
  have hP : va_P G.1 vwCl [] s.heap := hP
  have hl := lv_entry ([.int p_i, .int 74, .ref a_f]) (n := 3) (Nat.le_of_ble_eq_true rfl)
  rw [lg_entry_eq]
  generalize (lg_sl ([.int p_i, .int 74, .ref a_f]) ++ List.replicate (3 - (lg_sl ([.int p_i, .int 74, .ref a_f])).length) Slot.unset).toArray = ls at hl ⊢
  have hl : lv_has ls 3 [(0, .int p_i), (1, .int 74), (2, .ref a_f)] := hl
  refine lv_iload_n hx hb dJ3_checkIndex_8e157_0 rfl (lv_at hl 0 rfl) ?_
  refine lv_if_lt (tgt := 9) hx hb dJ3_checkIndex_8e157_1 (by decide) (fun c_1 => ?_) (fun c_1 => ?_)
  ·
    have i_1 : p_i.toInt < 0 := by have z := g5_lt (a := p_i.toInt) (b := 0) (by rfl) (by decide) c_1; omega
    omega
  ·
    have i_1 : p_i.toInt ≥ 0 := by have z := g5_ltN (a := p_i.toInt) (b := 0) (by rfl) (by decide) c_1; omega
    refine lv_iload_n hx hb dJ3_checkIndex_8e157_4 rfl (lv_at hl 0 rfl) ?_
    refine lv_iload_n hx hb dJ3_checkIndex_8e157_5 rfl (lv_at hl 1 rfl) ?_
    refine lv_icmp_lt (tgt := 16) hx hb dJ3_checkIndex_8e157_6 (by decide) (fun c_2 => ?_) (fun c_2 => ?_)
    ·
      have i_2 : p_i.toInt < 74 := by have z := g5_lt (a := p_i.toInt) (b := 74) (by rfl) (by decide) c_2; omega
      refine lv_iload_n hx hb dJ3_checkIndex_8e157_16 rfl (lv_at hl 0 rfl) ?_
      exact W.iret (v := p_i) hx hb hr (fun t ht hW => ⟨⟨p_i, [], rfl, ⟨rfl, rfl⟩, by rw [ht]; exact hP.sub [] rfl, hD.sub [] (by decide) rfl⟩, hS.F ht⟩) hS.2.2 dJ3_checkIndex_8e157_17
    ·
      have i_2 : p_i.toInt ≥ 74 := by have z := g5_ltN (a := p_i.toInt) (b := 74) (by rfl) (by decide) c_2; omega
      omega
theorem dgJ0_checkIndex_df160_0 : ∀ r ∈ ([(0, (.iload_n 0, 1)), (1, (.iload_n 1, 1)), (2, (.getstatic 1053, 3)), (5, (.invokestatic 1059, 3)), (8, (.pop, 1)), (9, (.return_, 1))] : List (Nat × (Instr × Nat))), decode cJ0_checkIndex_df160 r.1 = .ok r.2 := by decide +kernel
theorem dJ0_checkIndex_df160_0 : decode cJ0_checkIndex_df160 0 = .ok (.iload_n 0, 1) := dgJ0_checkIndex_df160_0 (0, (.iload_n 0, 1)) (List.mem_of_getElem? (i := 0) rfl)
theorem dJ0_checkIndex_df160_1 : decode cJ0_checkIndex_df160 1 = .ok (.iload_n 1, 1) := dgJ0_checkIndex_df160_0 (1, (.iload_n 1, 1)) (List.mem_of_getElem? (i := 1) rfl)
theorem dJ0_checkIndex_df160_2 : decode cJ0_checkIndex_df160 2 = .ok (.getstatic 1053, 3) := dgJ0_checkIndex_df160_0 (2, (.getstatic 1053, 3)) (List.mem_of_getElem? (i := 2) rfl)
theorem dJ0_checkIndex_df160_5 : decode cJ0_checkIndex_df160 5 = .ok (.invokestatic 1059, 3) := dgJ0_checkIndex_df160_0 (5, (.invokestatic 1059, 3)) (List.mem_of_getElem? (i := 3) rfl)
theorem dJ0_checkIndex_df160_8 : decode cJ0_checkIndex_df160 8 = .ok (.pop, 1) := dgJ0_checkIndex_df160_0 (8, (.pop, 1)) (List.mem_of_getElem? (i := 4) rfl)
theorem dJ0_checkIndex_df160_9 : decode cJ0_checkIndex_df160 9 = .ok (.return_, 1) := dgJ0_checkIndex_df160_0 (9, (.return_, 1)) (List.mem_of_getElem? (i := 5) rfl)
theorem fl_J0_1053 : Cond.fieldLink RJ0 1053 "jdk/internal/util/Preconditions" "SIOOBE_FORMATTER" "Ljava/util/function/BiFunction;" ∈ tblG := tg 692 (by decide +kernel) (by decide +kernel)
theorem ml_J0_1059 : Cond.methodLink RJ0 1059 yJ3_checkIndex_8e157 ∈ tblG := tg 694 (by decide +kernel) (by decide +kernel)
theorem st_J3_checkIndex_8e157 : Cond.static yJ3_checkIndex_8e157 ∈ tblG := tg 695 (by decide +kernel) (by decide +kernel)
theorem ini_J3 : Cond.initialized RJ3 ∈ tblG := tg 102 (by decide +kernel) (by decide +kernel)
theorem cd_J3_checkIndex_8e157 : Cond.code yJ3_checkIndex_8e157 cJ3_checkIndex_8e157 3 (some .int) ∈ tblG := tg 696 (by decide +kernel) (by decide +kernel)
theorem gW_J3_checkIndex_8e157 : GoodIn tblG (wsG yJ3_checkIndex_8e157 cJ3_checkIndex_8e157 3 (some .int)) := tgi cd_J3_checkIndex_8e157
theorem gS_J0_1059 : GoodIn tblG (va_wsS RJ0 1059 yJ3_checkIndex_8e157 (wsG yJ3_checkIndex_8e157 cJ3_checkIndex_8e157 3 (some .int))) := tgS ml_J0_1059 st_J3_checkIndex_8e157 ini_J3 gW_J3_checkIndex_8e157
theorem hs_J3_checkIndex_8e157 : yJ3_checkIndex_8e157.cls ≠ "java/lang/invoke/MethodHandle" ∧ yJ3_checkIndex_8e157.cls ≠ "java/lang/invoke/VarHandle" ∧ (parseMethodDescriptor yJ3_checkIndex_8e157.desc).map (fun d => d.parameters.length) = some 3 := by decide +kernel
set_option maxHeartbeats 4000000 in
set_option maxRecDepth 100000 in
theorem s_check (l : Launch) (G : g5_G) (sz : Nat) (p_i : Int32) (h_p_i : 0 ≤ p_i.toInt ∧ p_i.toInt ≤ 73) : Met l yJ0_checkIndex_df160 (wsG yJ0_checkIndex_df160 cJ0_checkIndex_df160 2 none) ({ frames := 1, cells := 0, slots := 0, locals := 22 }) (va_Pc [.int p_i, .int 74] (g5_P G [] sz)) (va_Qv (fun (u : va_W) => ((u = []))) (g5_B G (va_A [] sz)) (va_A [] sz)) 0 0 (va_A [] sz) := by
  refine Met.ofW (cc := cJ0_checkIndex_df160) (maxL := 2) (ret := none) (by decide) rfl ?_
  intro p e s m args below meth c s₁ B hml hv
  obtain ⟨rfl, hsz, hP, hK, hD0, hN, hT⟩ := hv
  have hx := B.exec
  have hb := B.bytes
  have hr := B.returns
  have hts : ∀ w ∈ tblG, w.before _ s = true := fun w h => atoms_spec (ws := (wsG yJ0_checkIndex_df160 cJ0_checkIndex_df160 2 none)) B.pre w (List.mem_cons_of_mem _ h)
  have hown : s.vm.findClass RJ0 = some m.cls := findClass_of_methodNamed B.named
  have hlocks := B.notSynchronized
  subst hsz
  have hD := hD0.self (sz := s.heap.size)
  generalize hAe : va_A [] s.heap.size = A at hD hT ⊢
  have hA : ∀ q : Nat, s.heap.size ≤ q → A q := fun q h => by rw [← hAe]; exact Or.inr h
  have hS : va_S A s.heap s.heap [] := va_S.rf
  have hP : va_P G.1 vwCl [] s.heap := hP
  have hl := lv_entry ([.int p_i, .int 74]) (n := 2) (Nat.le_of_ble_eq_true rfl)
  rw [lg_entry_eq]
  generalize (lg_sl ([.int p_i, .int 74]) ++ List.replicate (2 - (lg_sl ([.int p_i, .int 74])).length) Slot.unset).toArray = ls at hl ⊢
  have hl : lv_has ls 2 [(0, .int p_i), (1, .int 74)] := hl
  obtain ⟨tH0, tL0, tK0, tV0, tF, hZH0, hTH0, hZL0, hTL0, hRK0, hVK0, hZC, hZF⟩ := id hT
  refine lv_iload_n hx hb dJ0_checkIndex_df160_0 rfl (lv_at hl 0 rfl) ?_
  refine lv_iload_n hx hb dJ0_checkIndex_df160_1 rfl (lv_at hl 1 rfl) ?_
  rcases tF with _ | tF
  ·
    refine va_gets hx hb hZF hS hown (hts _ fl_J0_1053) (fun _ h9 => h9) dJ0_checkIndex_df160_2 ?_
    refine g5_tv (v := .null) rfl ?_
    obtain ⟨hPc, hDc, hFc⟩ := g5_sub3 (wc := []) hP hD hS hA [] (by decide) rfl
    refine va_calli (va_runS (As := [.int p_i, .int 74, .null]) (rest := []) ⟨hx, hb, hml, hown, hts⟩ (s_preN l G s.heap.size p_i h_p_i) (va_cwS 3 hts gS_J0_1059 rfl rfl rfl hs_J3_checkIndex_8e157 ⟨Nat.le_of_ble_eq_true rfl, Nat.le_of_ble_eq_true rfl⟩) (g5_preS hPc hK hDc hN hT hS hFc) rfl rfl hl.1 rfl (lv_room (Nat.le_of_ble_eq_true rfl)) dJ0_checkIndex_df160_5 ⟨Nat.le_of_ble_eq_true rfl, Nat.le_of_ble_eq_true rfl⟩) hS (fun q _ h => hFc q h) hFc (fun r u t H1 locs ht hvm hw hB hz1 hk1 hS => ?_)
    obtain ⟨hP1, hD1⟩ := hB
    rw [ht] at hP1
    obtain ⟨rfl, rfl⟩ := hw
    have hP := g5_same hP hk1
    generalize H1 = H at hP hS ⊢
    refine lv_pop hx hb dJ0_checkIndex_df160_8 rfl ?_
    exact W.vret hx hb hr (fun t ht hW => ⟨⟨[], rfl, rfl, by rw [ht]; exact hP.sub [] rfl, hD.sub [] (by decide) rfl⟩, hS.F ht⟩) hS.2.2 dJ0_checkIndex_df160_9
  ·
    refine va_gets hx hb hZF hS hown (hts _ fl_J0_1053) (fun _ h9 => h9) dJ0_checkIndex_df160_2 ?_
    refine g5_tv (v := .ref tF) rfl ?_
    obtain ⟨hPc, hDc, hFc⟩ := g5_sub3 (wc := []) hP hD hS hA [] (by decide) rfl
    refine va_calli (va_runS (As := [.int p_i, .int 74, .ref tF]) (rest := []) ⟨hx, hb, hml, hown, hts⟩ (s_preR l G tF s.heap.size p_i h_p_i) (va_cwS 3 hts gS_J0_1059 rfl rfl rfl hs_J3_checkIndex_8e157 ⟨Nat.le_of_ble_eq_true rfl, Nat.le_of_ble_eq_true rfl⟩) (g5_preS hPc hK hDc hN hT hS hFc) rfl rfl hl.1 rfl (lv_room (Nat.le_of_ble_eq_true rfl)) dJ0_checkIndex_df160_5 ⟨Nat.le_of_ble_eq_true rfl, Nat.le_of_ble_eq_true rfl⟩) hS (fun q _ h => hFc q h) hFc (fun r u t H1 locs ht hvm hw hB hz1 hk1 hS => ?_)
    obtain ⟨hP1, hD1⟩ := hB
    rw [ht] at hP1
    obtain ⟨rfl, rfl⟩ := hw
    have hP := g5_same hP hk1
    generalize H1 = H at hP hS ⊢
    refine lv_pop hx hb dJ0_checkIndex_df160_8 rfl ?_
    exact W.vret hx hb hr (fun t ht hW => ⟨⟨[], rfl, rfl, by rw [ht]; exact hP.sub [] rfl, hD.sub [] (by decide) rfl⟩, hS.F ht⟩) hS.2.2 dJ0_checkIndex_df160_9
theorem dgJ0_coder_7d493_0 : ∀ r ∈ ([(0, (.getstatic 38, 3)), (3, (.ifCond .eq 10, 3)), (6, (.aload_n 0, 1)), (7, (.getfield 15, 3)), (10, (.goto 4, 3)), (13, (.iconst 1, 1)), (14, (.ireturn, 1))] : List (Nat × (Instr × Nat))), decode cJ0_coder_7d493 r.1 = .ok r.2 := by decide +kernel
theorem dJ0_coder_7d493_0 : decode cJ0_coder_7d493 0 = .ok (.getstatic 38, 3) := dgJ0_coder_7d493_0 (0, (.getstatic 38, 3)) (List.mem_of_getElem? (i := 0) rfl)
theorem dJ0_coder_7d493_3 : decode cJ0_coder_7d493 3 = .ok (.ifCond .eq 10, 3) := dgJ0_coder_7d493_0 (3, (.ifCond .eq 10, 3)) (List.mem_of_getElem? (i := 1) rfl)
theorem dJ0_coder_7d493_6 : decode cJ0_coder_7d493 6 = .ok (.aload_n 0, 1) := dgJ0_coder_7d493_0 (6, (.aload_n 0, 1)) (List.mem_of_getElem? (i := 2) rfl)
theorem dJ0_coder_7d493_7 : decode cJ0_coder_7d493 7 = .ok (.getfield 15, 3) := dgJ0_coder_7d493_0 (7, (.getfield 15, 3)) (List.mem_of_getElem? (i := 3) rfl)
theorem dJ0_coder_7d493_10 : decode cJ0_coder_7d493 10 = .ok (.goto 4, 3) := dgJ0_coder_7d493_0 (10, (.goto 4, 3)) (List.mem_of_getElem? (i := 4) rfl)
theorem dJ0_coder_7d493_14 : decode cJ0_coder_7d493 14 = .ok (.ireturn, 1) := dgJ0_coder_7d493_0 (14, (.ireturn, 1)) (List.mem_of_getElem? (i := 6) rfl)
theorem fl_J0_38 : Cond.fieldLink RJ0 38 "java/lang/String" "COMPACT_STRINGS" "Z" ∈ tblG := tg 676 (by decide +kernel) (by decide +kernel)
theorem fl_J0_15 : Cond.fieldLink RJ0 15 "java/lang/String" "coder" "B" ∈ tblG := tg 1834 (by decide +kernel) (by decide +kernel)
set_option maxHeartbeats 4000000 in
set_option maxRecDepth 100000 in
theorem s_coder (l : Launch) (G : g5_G) (a_q a_v : Nat) (sz : Nat) : Met l yJ0_coder_7d493 (wsG yJ0_coder_7d493 cJ0_coder_7d493 1 (some .byte)) ({ frames := 0, cells := 0, slots := 0, locals := 0 }) (va_Pc [.ref a_q] (g5_PK G a_q a_v [] sz)) (va_Qi (fun (r : Int32) (u : va_W) => ((r = 0) ∧ (u = []))) (g5_B G (va_A [] sz)) (va_A [] sz)) 0 0 (va_A [] sz) := by
  refine Met.ofW (cc := cJ0_coder_7d493) (maxL := 1) (ret := (some .byte)) (by decide) rfl ?_
  intro p e s m args below meth c s₁ B hml hv
  obtain ⟨rfl, ⟨hsz, hP, hK, hD0, hN, hT⟩, hRK, hVK⟩ := hv
  have hx := B.exec
  have hb := B.bytes
  have hr := B.returns
  have hts : ∀ w ∈ tblG, w.before _ s = true := fun w h => atoms_spec (ws := (wsG yJ0_coder_7d493 cJ0_coder_7d493 1 (some .byte))) B.pre w (List.mem_cons_of_mem _ h)
  have hown : s.vm.findClass RJ0 = some m.cls := findClass_of_methodNamed B.named
  have hlocks := B.notSynchronized
  subst hsz
  have hD := hD0.self (sz := s.heap.size)
  generalize hAe : va_A [] s.heap.size = A at hD hT hVK ⊢
  have hA : ∀ q : Nat, s.heap.size ≤ q → A q := fun q h => by rw [← hAe]; exact Or.inr h
  have hS : va_S A s.heap s.heap [] := va_S.rf
  have hP : va_P G.1 vwCl [] s.heap := hP
  have hl := lv_entry ([.ref a_q]) (n := 1) (Nat.le_of_ble_eq_true rfl)
  rw [lg_entry_eq]
  generalize (lg_sl ([.ref a_q]) ++ List.replicate (1 - (lg_sl ([.ref a_q])).length) Slot.unset).toArray = ls at hl ⊢
  have hl : lv_has ls 1 [(0, .ref a_q)] := hl
  obtain ⟨tH0, tL0, tK0, tV0, tF, hZH0, hTH0, hZL0, hTL0, hRK0, hVK0, hZC, hZF⟩ := id hT
  refine va_gets hx hb hZC hS hown (hts _ fl_J0_38) (fun _ h9 => h9) dJ0_coder_7d493_0 ?_
  refine lv_if_eq (tgt := 13) hx hb dJ0_coder_7d493_3 (by decide) (fun c_1 => ?_) (fun c_1 => ?_)
  ·
    exact absurd c_1 (by decide)
  ·
    refine lv_aload_n hx hb dJ0_coder_7d493_6 rfl (lv_at hl 0 rfl) ?_
    refine vk_getf hx hb (hVK.1 0 (by decide)).2.1 hS hown (hts _ fl_J0_15) (fun _ h9 => h9) dJ0_coder_7d493_7 ?_
    refine lv_goto (tgt := 14) hx hb dJ0_coder_7d493_10 (by decide) ?_
    exact W.zret (v := 0) hx hb hr rfl (fun t ht hW => ⟨⟨0, [], rfl, ⟨rfl, rfl⟩, by rw [ht]; exact hP.sub [] rfl, hD.sub [] (by decide) rfl⟩, hS.F ht⟩) hS.2.2 dJ0_coder_7d493_14
theorem dgJ0_isLatin1_aae02_0 : ∀ r ∈ ([(0, (.getstatic 38, 3)), (3, (.ifCond .eq 14, 3)), (6, (.aload_n 0, 1)), (7, (.getfield 15, 3)), (10, (.ifCond .ne 7, 3)), (13, (.iconst 1, 1)), (14, (.goto 4, 3)), (17, (.iconst 0, 1)), (18, (.ireturn, 1))] : List (Nat × (Instr × Nat))), decode cJ0_isLatin1_aae02 r.1 = .ok r.2 := by decide +kernel
theorem dJ0_isLatin1_aae02_0 : decode cJ0_isLatin1_aae02 0 = .ok (.getstatic 38, 3) := dgJ0_isLatin1_aae02_0 (0, (.getstatic 38, 3)) (List.mem_of_getElem? (i := 0) rfl)
theorem dJ0_isLatin1_aae02_3 : decode cJ0_isLatin1_aae02 3 = .ok (.ifCond .eq 14, 3) := dgJ0_isLatin1_aae02_0 (3, (.ifCond .eq 14, 3)) (List.mem_of_getElem? (i := 1) rfl)
theorem dJ0_isLatin1_aae02_6 : decode cJ0_isLatin1_aae02 6 = .ok (.aload_n 0, 1) := dgJ0_isLatin1_aae02_0 (6, (.aload_n 0, 1)) (List.mem_of_getElem? (i := 2) rfl)
theorem dJ0_isLatin1_aae02_7 : decode cJ0_isLatin1_aae02 7 = .ok (.getfield 15, 3) := dgJ0_isLatin1_aae02_0 (7, (.getfield 15, 3)) (List.mem_of_getElem? (i := 3) rfl)
theorem dJ0_isLatin1_aae02_10 : decode cJ0_isLatin1_aae02 10 = .ok (.ifCond .ne 7, 3) := dgJ0_isLatin1_aae02_0 (10, (.ifCond .ne 7, 3)) (List.mem_of_getElem? (i := 4) rfl)
theorem dJ0_isLatin1_aae02_13 : decode cJ0_isLatin1_aae02 13 = .ok (.iconst 1, 1) := dgJ0_isLatin1_aae02_0 (13, (.iconst 1, 1)) (List.mem_of_getElem? (i := 5) rfl)
theorem dJ0_isLatin1_aae02_14 : decode cJ0_isLatin1_aae02 14 = .ok (.goto 4, 3) := dgJ0_isLatin1_aae02_0 (14, (.goto 4, 3)) (List.mem_of_getElem? (i := 6) rfl)
theorem dJ0_isLatin1_aae02_18 : decode cJ0_isLatin1_aae02 18 = .ok (.ireturn, 1) := dgJ0_isLatin1_aae02_0 (18, (.ireturn, 1)) (List.mem_of_getElem? (i := 8) rfl)
set_option maxHeartbeats 4000000 in
set_option maxRecDepth 100000 in
theorem s_latin (l : Launch) (G : g5_G) (a_q a_v : Nat) (sz : Nat) : Met l yJ0_isLatin1_aae02 (wsG yJ0_isLatin1_aae02 cJ0_isLatin1_aae02 1 (some .boolean)) ({ frames := 0, cells := 0, slots := 0, locals := 0 }) (va_Pc [.ref a_q] (g5_PK G a_q a_v [] sz)) (va_Qi (fun (r : Int32) (u : va_W) => ((r = 1) ∧ (u = []))) (g5_B G (va_A [] sz)) (va_A [] sz)) 0 0 (va_A [] sz) := by
  refine Met.ofW (cc := cJ0_isLatin1_aae02) (maxL := 1) (ret := (some .boolean)) (by decide) rfl ?_
  intro p e s m args below meth c s₁ B hml hv
  obtain ⟨rfl, ⟨hsz, hP, hK, hD0, hN, hT⟩, hRK, hVK⟩ := hv
  have hx := B.exec
  have hb := B.bytes
  have hr := B.returns
  have hts : ∀ w ∈ tblG, w.before _ s = true := fun w h => atoms_spec (ws := (wsG yJ0_isLatin1_aae02 cJ0_isLatin1_aae02 1 (some .boolean))) B.pre w (List.mem_cons_of_mem _ h)
  have hown : s.vm.findClass RJ0 = some m.cls := findClass_of_methodNamed B.named
  have hlocks := B.notSynchronized
  subst hsz
  have hD := hD0.self (sz := s.heap.size)
  generalize hAe : va_A [] s.heap.size = A at hD hT hVK ⊢
  have hA : ∀ q : Nat, s.heap.size ≤ q → A q := fun q h => by rw [← hAe]; exact Or.inr h
  have hS : va_S A s.heap s.heap [] := va_S.rf
  have hP : va_P G.1 vwCl [] s.heap := hP
  have hl := lv_entry ([.ref a_q]) (n := 1) (Nat.le_of_ble_eq_true rfl)
  rw [lg_entry_eq]
  generalize (lg_sl ([.ref a_q]) ++ List.replicate (1 - (lg_sl ([.ref a_q])).length) Slot.unset).toArray = ls at hl ⊢
  have hl : lv_has ls 1 [(0, .ref a_q)] := hl
  obtain ⟨tH0, tL0, tK0, tV0, tF, hZH0, hTH0, hZL0, hTL0, hRK0, hVK0, hZC, hZF⟩ := id hT
  refine va_gets hx hb hZC hS hown (hts _ fl_J0_38) (fun _ h9 => h9) dJ0_isLatin1_aae02_0 ?_
  refine lv_if_eq (tgt := 17) hx hb dJ0_isLatin1_aae02_3 (by decide) (fun c_1 => ?_) (fun c_1 => ?_)
  ·
    exact absurd c_1 (by decide)
  ·
    refine lv_aload_n hx hb dJ0_isLatin1_aae02_6 rfl (lv_at hl 0 rfl) ?_
    refine vk_getf hx hb (hVK.1 0 (by decide)).2.1 hS hown (hts _ fl_J0_15) (fun _ h9 => h9) dJ0_isLatin1_aae02_7 ?_
    refine lv_if_ne (tgt := 17) hx hb dJ0_isLatin1_aae02_10 (by decide) (fun c_2 => ?_) (fun c_2 => ?_)
    ·
      exact absurd c_2 (by decide)
    ·
      refine lv_iconst (v := 1) hx hb dJ0_isLatin1_aae02_13 (by decide) ?_
      refine lv_goto (tgt := 18) hx hb dJ0_isLatin1_aae02_14 (by decide) ?_
      exact W.zret (v := 1) hx hb hr rfl (fun t ht hW => ⟨⟨1, [], rfl, ⟨rfl, rfl⟩, by rw [ht]; exact hP.sub [] rfl, hD.sub [] (by decide) rfl⟩, hS.F ht⟩) hS.2.2 dJ0_isLatin1_aae02_18
theorem dgJ0_length_8abf5_0 : ∀ r ∈ ([(0, (.aload_n 0, 1)), (1, (.getfield 9, 3)), (4, (.arraylength, 1)), (5, (.aload_n 0, 1)), (6, (.invokevirtual 335, 3)), (9, (.ishr, 1)), (10, (.ireturn, 1))] : List (Nat × (Instr × Nat))), decode cJ0_length_8abf5 r.1 = .ok r.2 := by decide +kernel
theorem dJ0_length_8abf5_0 : decode cJ0_length_8abf5 0 = .ok (.aload_n 0, 1) := dgJ0_length_8abf5_0 (0, (.aload_n 0, 1)) (List.mem_of_getElem? (i := 0) rfl)
theorem dJ0_length_8abf5_1 : decode cJ0_length_8abf5 1 = .ok (.getfield 9, 3) := dgJ0_length_8abf5_0 (1, (.getfield 9, 3)) (List.mem_of_getElem? (i := 1) rfl)
theorem dJ0_length_8abf5_4 : decode cJ0_length_8abf5 4 = .ok (.arraylength, 1) := dgJ0_length_8abf5_0 (4, (.arraylength, 1)) (List.mem_of_getElem? (i := 2) rfl)
theorem dJ0_length_8abf5_5 : decode cJ0_length_8abf5 5 = .ok (.aload_n 0, 1) := dgJ0_length_8abf5_0 (5, (.aload_n 0, 1)) (List.mem_of_getElem? (i := 3) rfl)
theorem dJ0_length_8abf5_6 : decode cJ0_length_8abf5 6 = .ok (.invokevirtual 335, 3) := dgJ0_length_8abf5_0 (6, (.invokevirtual 335, 3)) (List.mem_of_getElem? (i := 4) rfl)
theorem dJ0_length_8abf5_9 : decode cJ0_length_8abf5 9 = .ok (.ishr, 1) := dgJ0_length_8abf5_0 (9, (.ishr, 1)) (List.mem_of_getElem? (i := 5) rfl)
theorem dJ0_length_8abf5_10 : decode cJ0_length_8abf5 10 = .ok (.ireturn, 1) := dgJ0_length_8abf5_0 (10, (.ireturn, 1)) (List.mem_of_getElem? (i := 6) rfl)
theorem fl_J0_9 : Cond.fieldLink RJ0 9 "java/lang/String" "value" "[B" ∈ tblG := tg 1833 (by decide +kernel) (by decide +kernel)
theorem ml_J0_335 : Cond.methodLink RJ0 335 yJ0_coder_7d493 ∈ tblG := tg 672 (by decide +kernel) (by decide +kernel)
theorem im_J0_coder_7d493 : Cond.instanceMethod yJ0_coder_7d493 ∈ tblG := tg 673 (by decide +kernel) (by decide +kernel)
theorem se_J0_coder_7d493 : Cond.selects RJ0 yJ0_coder_7d493 yJ0_coder_7d493 ∈ tblG := tg 674 (by decide +kernel) (by decide +kernel)
theorem ini_J0 : Cond.initialized RJ0 ∈ tblG := tg 100 (by decide +kernel) (by decide +kernel)
theorem cd_J0_coder_7d493 : Cond.code yJ0_coder_7d493 cJ0_coder_7d493 1 (some .byte) ∈ tblG := tg 675 (by decide +kernel) (by decide +kernel)
theorem gW_J0_coder_7d493 : GoodIn tblG (wsG yJ0_coder_7d493 cJ0_coder_7d493 1 (some .byte)) := tgi cd_J0_coder_7d493
theorem gV_J0_335 : GoodIn tblG (wsV RJ0 335 RJ0 yJ0_coder_7d493 (wsG yJ0_coder_7d493 cJ0_coder_7d493 1 (some .byte))) := tgV ml_J0_335 im_J0_coder_7d493 se_J0_coder_7d493 ini_J0 gW_J0_coder_7d493
theorem hv_J0_coder_7d493 : yJ0_coder_7d493.cls = RJ0 ∧ yJ0_coder_7d493.cls ≠ "java/lang/invoke/MethodHandle" ∧ yJ0_coder_7d493.cls ≠ "java/lang/invoke/VarHandle" ∧ (parseMethodDescriptor yJ0_coder_7d493.desc).map (fun d => d.parameters.length) = some 0 := by decide +kernel
set_option maxHeartbeats 4000000 in
set_option maxRecDepth 100000 in
theorem s_length (l : Launch) (G : g5_G) (a_q a_v : Nat) (sz : Nat) : Met l yJ0_length_8abf5 (wsG yJ0_length_8abf5 cJ0_length_8abf5 1 (some .int)) ({ frames := 1, cells := 0, slots := 0, locals := 20 }) (va_Pc [.ref a_q] (g5_PK G a_q a_v [] sz)) (va_Qi (fun (r : Int32) (u : va_W) => ((r = 74) ∧ (u = []))) (g5_B G (va_A [] sz)) (va_A [] sz)) 0 0 (va_A [] sz) := by
  refine Met.ofW (cc := cJ0_length_8abf5) (maxL := 1) (ret := (some .int)) (by decide) rfl ?_
  intro p e s m args below meth c s₁ B hml hv
  obtain ⟨rfl, ⟨hsz, hP, hK, hD0, hN, hT⟩, hRK, hVK⟩ := hv
  have hx := B.exec
  have hb := B.bytes
  have hr := B.returns
  have hts : ∀ w ∈ tblG, w.before _ s = true := fun w h => atoms_spec (ws := (wsG yJ0_length_8abf5 cJ0_length_8abf5 1 (some .int))) B.pre w (List.mem_cons_of_mem _ h)
  have hown : s.vm.findClass RJ0 = some m.cls := findClass_of_methodNamed B.named
  have hlocks := B.notSynchronized
  subst hsz
  have hD := hD0.self (sz := s.heap.size)
  generalize hAe : va_A [] s.heap.size = A at hD hT hVK ⊢
  have hA : ∀ q : Nat, s.heap.size ≤ q → A q := fun q h => by rw [← hAe]; exact Or.inr h
  have hS : va_S A s.heap s.heap [] := va_S.rf
  have hP : va_P G.1 vwCl [] s.heap := hP
  have hl := lv_entry ([.ref a_q]) (n := 1) (Nat.le_of_ble_eq_true rfl)
  rw [lg_entry_eq]
  generalize (lg_sl ([.ref a_q]) ++ List.replicate (1 - (lg_sl ([.ref a_q])).length) Slot.unset).toArray = ls at hl ⊢
  have hl : lv_has ls 1 [(0, .ref a_q)] := hl
  obtain ⟨tH0, tL0, tK0, tV0, tF, hZH0, hTH0, hZL0, hTL0, hRK0, hVK0, hZC, hZF⟩ := id hT
  refine lv_aload_n hx hb dJ0_length_8abf5_0 rfl (lv_at hl 0 rfl) ?_
  refine vk_getf hx hb (hVK.1 0 (by decide)).2.2.1 hS hown (hts _ fl_J0_9) (fun _ h9 => h9) dJ0_length_8abf5_1 ?_
  refine g5_tv (v := .ref a_v) rfl ?_
  refine va_tlen hx hb (hVK.1 0 (by decide)).2.2.2 hS (v := 74) (by decide) dJ0_length_8abf5_4 ?_
  refine lv_aload_n hx hb dJ0_length_8abf5_5 rfl (lv_at hl 0 rfl) ?_
  obtain ⟨hPc, hDc, hFc⟩ := g5_sub3 (wc := []) hP hD hS hA [] (by decide) rfl
  refine va_calli (va_runV (As := []) (rest := [.int 74]) ⟨hx, hb, hml, hown, hts⟩ (s_coder l G a_q a_v s.heap.size) (cwV 0 hts gV_J0_335 rfl rfl rfl hv_J0_coder_7d493 ⟨Nat.le_of_ble_eq_true rfl, Nat.le_of_ble_eq_true rfl⟩) (g5_preVK hPc hK hDc hN hT hS hFc hRK hVK) rfl rfl hl.1 rfl (lv_room (Nat.le_of_ble_eq_true rfl)) dJ0_length_8abf5_6 ⟨Nat.le_of_ble_eq_true rfl, Nat.le_of_ble_eq_true rfl⟩) hS (fun q _ h => hFc q h) hFc (fun r u t H1 locs ht hvm hw hB hz1 hk1 hS => ?_)
  obtain ⟨hP1, hD1⟩ := hB
  rw [ht] at hP1
  obtain ⟨rfl, rfl⟩ := hw
  have hP := g5_same hP hk1
  generalize H1 = H at hP hS ⊢
  refine lv_ishr hx hb dJ0_length_8abf5_9 ?_
  refine g5_ti (v := 74) (by decide) ?_
  exact W.iret (v := 74) hx hb hr (fun t ht hW => ⟨⟨74, [], rfl, ⟨rfl, rfl⟩, by rw [ht]; exact hP.sub [] rfl, hD.sub [] (by decide) rfl⟩, hS.F ht⟩) hS.2.2 dJ0_length_8abf5_10
theorem dgJ1_charAt_3b067_0 : ∀ r ∈ ([(0, (.iload_n 1, 1)), (1, (.aload_n 0, 1)), (2, (.arraylength, 1)), (3, (.invokestatic 9, 3)), (6, (.aload_n 0, 1)), (7, (.iload_n 1, 1)), (8, (.baload, 1)), (9, (.sipush 255, 3)), (12, (.iand, 1)), (13, (.i2c, 1)), (14, (.ireturn, 1))] : List (Nat × (Instr × Nat))), decode cJ1_charAt_3b067 r.1 = .ok r.2 := by decide +kernel
theorem dJ1_charAt_3b067_0 : decode cJ1_charAt_3b067 0 = .ok (.iload_n 1, 1) := dgJ1_charAt_3b067_0 (0, (.iload_n 1, 1)) (List.mem_of_getElem? (i := 0) rfl)
theorem dJ1_charAt_3b067_1 : decode cJ1_charAt_3b067 1 = .ok (.aload_n 0, 1) := dgJ1_charAt_3b067_0 (1, (.aload_n 0, 1)) (List.mem_of_getElem? (i := 1) rfl)
theorem dJ1_charAt_3b067_2 : decode cJ1_charAt_3b067 2 = .ok (.arraylength, 1) := dgJ1_charAt_3b067_0 (2, (.arraylength, 1)) (List.mem_of_getElem? (i := 2) rfl)
theorem dJ1_charAt_3b067_3 : decode cJ1_charAt_3b067 3 = .ok (.invokestatic 9, 3) := dgJ1_charAt_3b067_0 (3, (.invokestatic 9, 3)) (List.mem_of_getElem? (i := 3) rfl)
theorem dJ1_charAt_3b067_6 : decode cJ1_charAt_3b067 6 = .ok (.aload_n 0, 1) := dgJ1_charAt_3b067_0 (6, (.aload_n 0, 1)) (List.mem_of_getElem? (i := 4) rfl)
theorem dJ1_charAt_3b067_7 : decode cJ1_charAt_3b067 7 = .ok (.iload_n 1, 1) := dgJ1_charAt_3b067_0 (7, (.iload_n 1, 1)) (List.mem_of_getElem? (i := 5) rfl)
theorem dJ1_charAt_3b067_8 : decode cJ1_charAt_3b067 8 = .ok (.baload, 1) := dgJ1_charAt_3b067_0 (8, (.baload, 1)) (List.mem_of_getElem? (i := 6) rfl)
theorem dJ1_charAt_3b067_9 : decode cJ1_charAt_3b067 9 = .ok (.sipush 255, 3) := dgJ1_charAt_3b067_0 (9, (.sipush 255, 3)) (List.mem_of_getElem? (i := 7) rfl)
theorem dJ1_charAt_3b067_12 : decode cJ1_charAt_3b067 12 = .ok (.iand, 1) := dgJ1_charAt_3b067_0 (12, (.iand, 1)) (List.mem_of_getElem? (i := 8) rfl)
theorem dJ1_charAt_3b067_13 : decode cJ1_charAt_3b067 13 = .ok (.i2c, 1) := dgJ1_charAt_3b067_0 (13, (.i2c, 1)) (List.mem_of_getElem? (i := 9) rfl)
theorem dJ1_charAt_3b067_14 : decode cJ1_charAt_3b067 14 = .ok (.ireturn, 1) := dgJ1_charAt_3b067_0 (14, (.ireturn, 1)) (List.mem_of_getElem? (i := 10) rfl)
theorem ml_J1_9 : Cond.methodLink RJ1 9 yJ0_checkIndex_df160 ∈ tblG := tg 689 (by decide +kernel) (by decide +kernel)
theorem st_J0_checkIndex_df160 : Cond.static yJ0_checkIndex_df160 ∈ tblG := tg 690 (by decide +kernel) (by decide +kernel)
theorem cd_J0_checkIndex_df160 : Cond.code yJ0_checkIndex_df160 cJ0_checkIndex_df160 2 none ∈ tblG := tg 691 (by decide +kernel) (by decide +kernel)
theorem gW_J0_checkIndex_df160 : GoodIn tblG (wsG yJ0_checkIndex_df160 cJ0_checkIndex_df160 2 none) := tgi cd_J0_checkIndex_df160
theorem gS_J1_9 : GoodIn tblG (va_wsS RJ1 9 yJ0_checkIndex_df160 (wsG yJ0_checkIndex_df160 cJ0_checkIndex_df160 2 none)) := tgS ml_J1_9 st_J0_checkIndex_df160 ini_J0 gW_J0_checkIndex_df160
theorem hs_J0_checkIndex_df160 : yJ0_checkIndex_df160.cls ≠ "java/lang/invoke/MethodHandle" ∧ yJ0_checkIndex_df160.cls ≠ "java/lang/invoke/VarHandle" ∧ (parseMethodDescriptor yJ0_checkIndex_df160.desc).map (fun d => d.parameters.length) = some 2 := by decide +kernel
theorem dgJ0_charAt_5068e_0 : ∀ r ∈ ([(0, (.aload_n 0, 1)), (1, (.invokevirtual 492, 3)), (4, (.ifCond .eq 12, 3)), (7, (.aload_n 0, 1)), (8, (.getfield 9, 3)), (11, (.iload_n 1, 1)), (12, (.invokestatic 495, 3)), (15, (.ireturn, 1)), (16, (.aload_n 0, 1)), (17, (.getfield 9, 3)), (20, (.iload_n 1, 1)), (21, (.invokestatic 498, 3)), (24, (.ireturn, 1))] : List (Nat × (Instr × Nat))), decode cJ0_charAt_5068e r.1 = .ok r.2 := by decide +kernel
theorem dJ0_charAt_5068e_0 : decode cJ0_charAt_5068e 0 = .ok (.aload_n 0, 1) := dgJ0_charAt_5068e_0 (0, (.aload_n 0, 1)) (List.mem_of_getElem? (i := 0) rfl)
theorem dJ0_charAt_5068e_1 : decode cJ0_charAt_5068e 1 = .ok (.invokevirtual 492, 3) := dgJ0_charAt_5068e_0 (1, (.invokevirtual 492, 3)) (List.mem_of_getElem? (i := 1) rfl)
theorem dJ0_charAt_5068e_4 : decode cJ0_charAt_5068e 4 = .ok (.ifCond .eq 12, 3) := dgJ0_charAt_5068e_0 (4, (.ifCond .eq 12, 3)) (List.mem_of_getElem? (i := 2) rfl)
theorem dJ0_charAt_5068e_7 : decode cJ0_charAt_5068e 7 = .ok (.aload_n 0, 1) := dgJ0_charAt_5068e_0 (7, (.aload_n 0, 1)) (List.mem_of_getElem? (i := 3) rfl)
theorem dJ0_charAt_5068e_8 : decode cJ0_charAt_5068e 8 = .ok (.getfield 9, 3) := dgJ0_charAt_5068e_0 (8, (.getfield 9, 3)) (List.mem_of_getElem? (i := 4) rfl)
theorem dJ0_charAt_5068e_11 : decode cJ0_charAt_5068e 11 = .ok (.iload_n 1, 1) := dgJ0_charAt_5068e_0 (11, (.iload_n 1, 1)) (List.mem_of_getElem? (i := 5) rfl)
theorem dJ0_charAt_5068e_12 : decode cJ0_charAt_5068e 12 = .ok (.invokestatic 495, 3) := dgJ0_charAt_5068e_0 (12, (.invokestatic 495, 3)) (List.mem_of_getElem? (i := 6) rfl)
theorem dJ0_charAt_5068e_15 : decode cJ0_charAt_5068e 15 = .ok (.ireturn, 1) := dgJ0_charAt_5068e_0 (15, (.ireturn, 1)) (List.mem_of_getElem? (i := 7) rfl)
theorem ml_J0_492 : Cond.methodLink RJ0 492 yJ0_isLatin1_aae02 ∈ tblG := tg 682 (by decide +kernel) (by decide +kernel)
theorem im_J0_isLatin1_aae02 : Cond.instanceMethod yJ0_isLatin1_aae02 ∈ tblG := tg 683 (by decide +kernel) (by decide +kernel)
theorem se_J0_isLatin1_aae02 : Cond.selects RJ0 yJ0_isLatin1_aae02 yJ0_isLatin1_aae02 ∈ tblG := tg 684 (by decide +kernel) (by decide +kernel)
theorem cd_J0_isLatin1_aae02 : Cond.code yJ0_isLatin1_aae02 cJ0_isLatin1_aae02 1 (some .boolean) ∈ tblG := tg 685 (by decide +kernel) (by decide +kernel)
theorem gW_J0_isLatin1_aae02 : GoodIn tblG (wsG yJ0_isLatin1_aae02 cJ0_isLatin1_aae02 1 (some .boolean)) := tgi cd_J0_isLatin1_aae02
theorem gV_J0_492 : GoodIn tblG (wsV RJ0 492 RJ0 yJ0_isLatin1_aae02 (wsG yJ0_isLatin1_aae02 cJ0_isLatin1_aae02 1 (some .boolean))) := tgV ml_J0_492 im_J0_isLatin1_aae02 se_J0_isLatin1_aae02 ini_J0 gW_J0_isLatin1_aae02
theorem hv_J0_isLatin1_aae02 : yJ0_isLatin1_aae02.cls = RJ0 ∧ yJ0_isLatin1_aae02.cls ≠ "java/lang/invoke/MethodHandle" ∧ yJ0_isLatin1_aae02.cls ≠ "java/lang/invoke/VarHandle" ∧ (parseMethodDescriptor yJ0_isLatin1_aae02.desc).map (fun d => d.parameters.length) = some 0 := by decide +kernel
theorem ml_J0_495 : Cond.methodLink RJ0 495 yJ1_charAt_3b067 ∈ tblG := tg 686 (by decide +kernel) (by decide +kernel)
theorem st_J1_charAt_3b067 : Cond.static yJ1_charAt_3b067 ∈ tblG := tg 687 (by decide +kernel) (by decide +kernel)
theorem ini_J1 : Cond.initialized RJ1 ∈ tblG := tg 101 (by decide +kernel) (by decide +kernel)
theorem cd_J1_charAt_3b067 : Cond.code yJ1_charAt_3b067 cJ1_charAt_3b067 2 (some .char) ∈ tblG := tg 688 (by decide +kernel) (by decide +kernel)
theorem gW_J1_charAt_3b067 : GoodIn tblG (wsG yJ1_charAt_3b067 cJ1_charAt_3b067 2 (some .char)) := tgi cd_J1_charAt_3b067
theorem gS_J0_495 : GoodIn tblG (va_wsS RJ0 495 yJ1_charAt_3b067 (wsG yJ1_charAt_3b067 cJ1_charAt_3b067 2 (some .char))) := tgS ml_J0_495 st_J1_charAt_3b067 ini_J1 gW_J1_charAt_3b067
theorem hs_J1_charAt_3b067 : yJ1_charAt_3b067.cls ≠ "java/lang/invoke/MethodHandle" ∧ yJ1_charAt_3b067.cls ≠ "java/lang/invoke/VarHandle" ∧ (parseMethodDescriptor yJ1_charAt_3b067.desc).map (fun d => d.parameters.length) = some 2 := by decide +kernel
theorem dgX8_isLetter_0 : ∀ r ∈ ([(0, (.iload_n 0, 1)), (1, (.bipush 97, 2)), (3, (.if_icmp .lt 13, 3)), (6, (.iload_n 0, 1)), (7, (.bipush 122, 2)), (9, (.if_icmp .gt 7, 3)), (12, (.iconst 1, 1)), (13, (.goto 4, 3)), (16, (.iconst 0, 1)), (17, (.ireturn, 1))] : List (Nat × (Instr × Nat))), decode cX8_isLetter r.1 = .ok r.2 := by decide +kernel
theorem dX8_isLetter_0 : decode cX8_isLetter 0 = .ok (.iload_n 0, 1) := dgX8_isLetter_0 (0, (.iload_n 0, 1)) (List.mem_of_getElem? (i := 0) rfl)
theorem dX8_isLetter_1 : decode cX8_isLetter 1 = .ok (.bipush 97, 2) := dgX8_isLetter_0 (1, (.bipush 97, 2)) (List.mem_of_getElem? (i := 1) rfl)
theorem dX8_isLetter_3 : decode cX8_isLetter 3 = .ok (.if_icmp .lt 13, 3) := dgX8_isLetter_0 (3, (.if_icmp .lt 13, 3)) (List.mem_of_getElem? (i := 2) rfl)
theorem dX8_isLetter_6 : decode cX8_isLetter 6 = .ok (.iload_n 0, 1) := dgX8_isLetter_0 (6, (.iload_n 0, 1)) (List.mem_of_getElem? (i := 3) rfl)
theorem dX8_isLetter_7 : decode cX8_isLetter 7 = .ok (.bipush 122, 2) := dgX8_isLetter_0 (7, (.bipush 122, 2)) (List.mem_of_getElem? (i := 4) rfl)
theorem dX8_isLetter_9 : decode cX8_isLetter 9 = .ok (.if_icmp .gt 7, 3) := dgX8_isLetter_0 (9, (.if_icmp .gt 7, 3)) (List.mem_of_getElem? (i := 5) rfl)
theorem dX8_isLetter_12 : decode cX8_isLetter 12 = .ok (.iconst 1, 1) := dgX8_isLetter_0 (12, (.iconst 1, 1)) (List.mem_of_getElem? (i := 6) rfl)
theorem dX8_isLetter_13 : decode cX8_isLetter 13 = .ok (.goto 4, 3) := dgX8_isLetter_0 (13, (.goto 4, 3)) (List.mem_of_getElem? (i := 7) rfl)
theorem dX8_isLetter_16 : decode cX8_isLetter 16 = .ok (.iconst 0, 1) := dgX8_isLetter_0 (16, (.iconst 0, 1)) (List.mem_of_getElem? (i := 8) rfl)
theorem dX8_isLetter_17 : decode cX8_isLetter 17 = .ok (.ireturn, 1) := dgX8_isLetter_0 (17, (.ireturn, 1)) (List.mem_of_getElem? (i := 9) rfl)
theorem dgX8_isDigit_0 : ∀ r ∈ ([(0, (.iload_n 0, 1)), (1, (.bipush 48, 2)), (3, (.if_icmp .lt 13, 3)), (6, (.iload_n 0, 1)), (7, (.bipush 57, 2)), (9, (.if_icmp .gt 7, 3)), (12, (.iconst 1, 1)), (13, (.goto 4, 3)), (16, (.iconst 0, 1)), (17, (.ireturn, 1))] : List (Nat × (Instr × Nat))), decode cX8_isDigit r.1 = .ok r.2 := by decide +kernel
theorem dX8_isDigit_0 : decode cX8_isDigit 0 = .ok (.iload_n 0, 1) := dgX8_isDigit_0 (0, (.iload_n 0, 1)) (List.mem_of_getElem? (i := 0) rfl)
theorem dX8_isDigit_1 : decode cX8_isDigit 1 = .ok (.bipush 48, 2) := dgX8_isDigit_0 (1, (.bipush 48, 2)) (List.mem_of_getElem? (i := 1) rfl)
theorem dX8_isDigit_3 : decode cX8_isDigit 3 = .ok (.if_icmp .lt 13, 3) := dgX8_isDigit_0 (3, (.if_icmp .lt 13, 3)) (List.mem_of_getElem? (i := 2) rfl)
theorem dX8_isDigit_6 : decode cX8_isDigit 6 = .ok (.iload_n 0, 1) := dgX8_isDigit_0 (6, (.iload_n 0, 1)) (List.mem_of_getElem? (i := 3) rfl)
theorem dX8_isDigit_7 : decode cX8_isDigit 7 = .ok (.bipush 57, 2) := dgX8_isDigit_0 (7, (.bipush 57, 2)) (List.mem_of_getElem? (i := 4) rfl)
theorem dX8_isDigit_9 : decode cX8_isDigit 9 = .ok (.if_icmp .gt 7, 3) := dgX8_isDigit_0 (9, (.if_icmp .gt 7, 3)) (List.mem_of_getElem? (i := 5) rfl)
theorem dX8_isDigit_12 : decode cX8_isDigit 12 = .ok (.iconst 1, 1) := dgX8_isDigit_0 (12, (.iconst 1, 1)) (List.mem_of_getElem? (i := 6) rfl)
theorem dX8_isDigit_13 : decode cX8_isDigit 13 = .ok (.goto 4, 3) := dgX8_isDigit_0 (13, (.goto 4, 3)) (List.mem_of_getElem? (i := 7) rfl)
theorem dX8_isDigit_16 : decode cX8_isDigit 16 = .ok (.iconst 0, 1) := dgX8_isDigit_0 (16, (.iconst 0, 1)) (List.mem_of_getElem? (i := 8) rfl)
theorem dX8_isDigit_17 : decode cX8_isDigit 17 = .ok (.ireturn, 1) := dgX8_isDigit_0 (17, (.ireturn, 1)) (List.mem_of_getElem? (i := 9) rfl)
set_option maxHeartbeats 4000000 in
set_option maxRecDepth 100000 in
theorem k_digit (l : Launch) (G : g5_G) (sz : Nat) (p_x : Int32) : Met l yX8_isDigit (wsG yX8_isDigit cX8_isDigit 1 (some .boolean)) ({ frames := 0, cells := 0, slots := 0, locals := 0 }) (va_Pc [.int p_x] (g5_P G [] sz)) (va_Qi (fun (r : Int32) (u : va_W) => ((48 ≤ p_x.toInt ∧ p_x.toInt ≤ 57) ∧ (r = 1) ∧ (u = [])) ∨ ((p_x.toInt < 48 ∨ 57 < p_x.toInt) ∧ (r = 0) ∧ (u = []))) (g5_B G (va_A [] sz)) (va_A [] sz)) 0 0 (va_A [] sz) := by
  refine Met.ofW (cc := cX8_isDigit) (maxL := 1) (ret := (some .boolean)) (by decide) rfl ?_
  intro p e s m args below meth c s₁ B hml hv
  obtain ⟨rfl, hsz, hP, hK, hD0, hN, hT⟩ := hv
  have hx := B.exec
  have hb := B.bytes
  have hr := B.returns
  have hts : ∀ w ∈ tblG, w.before _ s = true := fun w h => atoms_spec (ws := (wsG yX8_isDigit cX8_isDigit 1 (some .boolean))) B.pre w (List.mem_cons_of_mem _ h)
  have hown : s.vm.findClass RX8 = some m.cls := findClass_of_methodNamed B.named
  have hlocks := B.notSynchronized
  subst hsz
  have hD := hD0.self (sz := s.heap.size)
  generalize hAe : va_A [] s.heap.size = A at hD hT ⊢
  have hA : ∀ q : Nat, s.heap.size ≤ q → A q := fun q h => by rw [← hAe]; exact Or.inr h
  have hS : va_S A s.heap s.heap [] := va_S.rf
  have hP : va_P G.1 vwCl [] s.heap := hP
  have hl := lv_entry ([.int p_x]) (n := 1) (Nat.le_of_ble_eq_true rfl)
  rw [lg_entry_eq]
  generalize (lg_sl ([.int p_x]) ++ List.replicate (1 - (lg_sl ([.int p_x])).length) Slot.unset).toArray = ls at hl ⊢
  have hl : lv_has ls 1 [(0, .int p_x)] := hl
  refine lv_iload_n hx hb dX8_isDigit_0 rfl (lv_at hl 0 rfl) ?_
  refine lv_bipush (v := 48) hx hb dX8_isDigit_1 (by decide) ?_
  refine lv_icmp_lt (tgt := 16) hx hb dX8_isDigit_3 (by decide) (fun c_1 => ?_) (fun c_1 => ?_)
  ·
    have i_1 : p_x.toInt < 48 := by have z := g5_lt (a := p_x.toInt) (b := 48) (by rfl) (by decide) c_1; omega
    refine lv_iconst (v := 0) hx hb dX8_isDigit_16 (by decide) ?_
    exact W.zret (v := 0) hx hb hr rfl (fun t ht hW => ⟨⟨0, [], rfl, Or.inr (⟨by omega, rfl, rfl⟩), by rw [ht]; exact hP.sub [] rfl, hD.sub [] (by decide) rfl⟩, hS.F ht⟩) hS.2.2 dX8_isDigit_17
  ·
    have i_1 : p_x.toInt ≥ 48 := by have z := g5_ltN (a := p_x.toInt) (b := 48) (by rfl) (by decide) c_1; omega
    refine lv_iload_n hx hb dX8_isDigit_6 rfl (lv_at hl 0 rfl) ?_
    refine lv_bipush (v := 57) hx hb dX8_isDigit_7 (by decide) ?_
    refine lv_icmp_gt (tgt := 16) hx hb dX8_isDigit_9 (by decide) (fun c_2 => ?_) (fun c_2 => ?_)
    ·
      have i_2 : p_x.toInt > 57 := by have z := g5_gt (a := p_x.toInt) (b := 57) (by rfl) (by decide) c_2; omega
      refine lv_iconst (v := 0) hx hb dX8_isDigit_16 (by decide) ?_
      exact W.zret (v := 0) hx hb hr rfl (fun t ht hW => ⟨⟨0, [], rfl, Or.inr (⟨by omega, rfl, rfl⟩), by rw [ht]; exact hP.sub [] rfl, hD.sub [] (by decide) rfl⟩, hS.F ht⟩) hS.2.2 dX8_isDigit_17
    ·
      have i_2 : p_x.toInt ≤ 57 := by have z := g5_gtN (a := p_x.toInt) (b := 57) (by rfl) (by decide) c_2; omega
      refine lv_iconst (v := 1) hx hb dX8_isDigit_12 (by decide) ?_
      refine lv_goto (tgt := 17) hx hb dX8_isDigit_13 (by decide) ?_
      exact W.zret (v := 1) hx hb hr rfl (fun t ht hW => ⟨⟨1, [], rfl, Or.inl (⟨by omega, rfl, rfl⟩), by rw [ht]; exact hP.sub [] rfl, hD.sub [] (by decide) rfl⟩, hS.F ht⟩) hS.2.2 dX8_isDigit_17
theorem dgX8_endOf_0 : ∀ r ∈ ([(0, (.iload_n 1, 1)), (1, (.iconst 1, 1)), (2, (.iadd, 1)), (3, (.istore_n 3, 1)), (4, (.aload_n 0, 1)), (5, (.iload_n 1, 1)), (6, (.iaload, 1)), (7, (.invokestatic 35, 3)), (10, (.ifCond .eq 23, 3)), (13, (.iload_n 3, 1)), (14, (.iload_n 2, 1)), (15, (.if_icmp .ge 47, 3)), (18, (.aload_n 0, 1)), (19, (.iload_n 3, 1)), (20, (.iaload, 1)), (21, (.invokestatic 35, 3)), (24, (.ifCond .eq 38, 3)), (27, (.iinc 3 1, 3)), (30, (.goto (-17), 3)), (33, (.aload_n 0, 1)), (34, (.iload_n 1, 1)), (35, (.iaload, 1)), (36, (.invokestatic 25, 3)), (39, (.ifCond .eq 23, 3)), (42, (.iload_n 3, 1)), (43, (.iload_n 2, 1)), (44, (.if_icmp .ge 18, 3)), (47, (.aload_n 0, 1)), (48, (.iload_n 3, 1)), (49, (.iaload, 1)), (50, (.invokestatic 25, 3)), (53, (.ifCond .eq 9, 3)), (56, (.iinc 3 1, 3)), (59, (.goto (-17), 3)), (62, (.iload_n 3, 1)), (63, (.ireturn, 1))] : List (Nat × (Instr × Nat))), decode cX8_endOf r.1 = .ok r.2 := by decide +kernel
theorem dX8_endOf_0 : decode cX8_endOf 0 = .ok (.iload_n 1, 1) := dgX8_endOf_0 (0, (.iload_n 1, 1)) (List.mem_of_getElem? (i := 0) rfl)
theorem dX8_endOf_1 : decode cX8_endOf 1 = .ok (.iconst 1, 1) := dgX8_endOf_0 (1, (.iconst 1, 1)) (List.mem_of_getElem? (i := 1) rfl)
theorem dX8_endOf_2 : decode cX8_endOf 2 = .ok (.iadd, 1) := dgX8_endOf_0 (2, (.iadd, 1)) (List.mem_of_getElem? (i := 2) rfl)
theorem dX8_endOf_3 : decode cX8_endOf 3 = .ok (.istore_n 3, 1) := dgX8_endOf_0 (3, (.istore_n 3, 1)) (List.mem_of_getElem? (i := 3) rfl)
theorem dX8_endOf_4 : decode cX8_endOf 4 = .ok (.aload_n 0, 1) := dgX8_endOf_0 (4, (.aload_n 0, 1)) (List.mem_of_getElem? (i := 4) rfl)
theorem dX8_endOf_5 : decode cX8_endOf 5 = .ok (.iload_n 1, 1) := dgX8_endOf_0 (5, (.iload_n 1, 1)) (List.mem_of_getElem? (i := 5) rfl)
theorem dX8_endOf_6 : decode cX8_endOf 6 = .ok (.iaload, 1) := dgX8_endOf_0 (6, (.iaload, 1)) (List.mem_of_getElem? (i := 6) rfl)
theorem dX8_endOf_7 : decode cX8_endOf 7 = .ok (.invokestatic 35, 3) := dgX8_endOf_0 (7, (.invokestatic 35, 3)) (List.mem_of_getElem? (i := 7) rfl)
theorem dX8_endOf_10 : decode cX8_endOf 10 = .ok (.ifCond .eq 23, 3) := dgX8_endOf_0 (10, (.ifCond .eq 23, 3)) (List.mem_of_getElem? (i := 8) rfl)
theorem dX8_endOf_13 : decode cX8_endOf 13 = .ok (.iload_n 3, 1) := dgX8_endOf_0 (13, (.iload_n 3, 1)) (List.mem_of_getElem? (i := 9) rfl)
theorem dX8_endOf_14 : decode cX8_endOf 14 = .ok (.iload_n 2, 1) := dgX8_endOf_0 (14, (.iload_n 2, 1)) (List.mem_of_getElem? (i := 10) rfl)
theorem dX8_endOf_15 : decode cX8_endOf 15 = .ok (.if_icmp .ge 47, 3) := dgX8_endOf_0 (15, (.if_icmp .ge 47, 3)) (List.mem_of_getElem? (i := 11) rfl)
theorem dX8_endOf_18 : decode cX8_endOf 18 = .ok (.aload_n 0, 1) := dgX8_endOf_0 (18, (.aload_n 0, 1)) (List.mem_of_getElem? (i := 12) rfl)
theorem dX8_endOf_19 : decode cX8_endOf 19 = .ok (.iload_n 3, 1) := dgX8_endOf_0 (19, (.iload_n 3, 1)) (List.mem_of_getElem? (i := 13) rfl)
theorem dX8_endOf_20 : decode cX8_endOf 20 = .ok (.iaload, 1) := dgX8_endOf_0 (20, (.iaload, 1)) (List.mem_of_getElem? (i := 14) rfl)
theorem dX8_endOf_21 : decode cX8_endOf 21 = .ok (.invokestatic 35, 3) := dgX8_endOf_0 (21, (.invokestatic 35, 3)) (List.mem_of_getElem? (i := 15) rfl)
theorem dX8_endOf_24 : decode cX8_endOf 24 = .ok (.ifCond .eq 38, 3) := dgX8_endOf_0 (24, (.ifCond .eq 38, 3)) (List.mem_of_getElem? (i := 16) rfl)
theorem dX8_endOf_27 : decode cX8_endOf 27 = .ok (.iinc 3 1, 3) := dgX8_endOf_0 (27, (.iinc 3 1, 3)) (List.mem_of_getElem? (i := 17) rfl)
theorem dX8_endOf_30 : decode cX8_endOf 30 = .ok (.goto (-17), 3) := dgX8_endOf_0 (30, (.goto (-17), 3)) (List.mem_of_getElem? (i := 18) rfl)
theorem dX8_endOf_33 : decode cX8_endOf 33 = .ok (.aload_n 0, 1) := dgX8_endOf_0 (33, (.aload_n 0, 1)) (List.mem_of_getElem? (i := 19) rfl)
theorem dX8_endOf_34 : decode cX8_endOf 34 = .ok (.iload_n 1, 1) := dgX8_endOf_0 (34, (.iload_n 1, 1)) (List.mem_of_getElem? (i := 20) rfl)
theorem dX8_endOf_35 : decode cX8_endOf 35 = .ok (.iaload, 1) := dgX8_endOf_0 (35, (.iaload, 1)) (List.mem_of_getElem? (i := 21) rfl)
theorem dX8_endOf_36 : decode cX8_endOf 36 = .ok (.invokestatic 25, 3) := dgX8_endOf_0 (36, (.invokestatic 25, 3)) (List.mem_of_getElem? (i := 22) rfl)
theorem dX8_endOf_39 : decode cX8_endOf 39 = .ok (.ifCond .eq 23, 3) := dgX8_endOf_0 (39, (.ifCond .eq 23, 3)) (List.mem_of_getElem? (i := 23) rfl)
theorem dX8_endOf_42 : decode cX8_endOf 42 = .ok (.iload_n 3, 1) := dgX8_endOf_0 (42, (.iload_n 3, 1)) (List.mem_of_getElem? (i := 24) rfl)
theorem dX8_endOf_43 : decode cX8_endOf 43 = .ok (.iload_n 2, 1) := dgX8_endOf_0 (43, (.iload_n 2, 1)) (List.mem_of_getElem? (i := 25) rfl)
theorem dX8_endOf_44 : decode cX8_endOf 44 = .ok (.if_icmp .ge 18, 3) := dgX8_endOf_0 (44, (.if_icmp .ge 18, 3)) (List.mem_of_getElem? (i := 26) rfl)
theorem dX8_endOf_47 : decode cX8_endOf 47 = .ok (.aload_n 0, 1) := dgX8_endOf_0 (47, (.aload_n 0, 1)) (List.mem_of_getElem? (i := 27) rfl)
theorem dX8_endOf_48 : decode cX8_endOf 48 = .ok (.iload_n 3, 1) := dgX8_endOf_0 (48, (.iload_n 3, 1)) (List.mem_of_getElem? (i := 28) rfl)
theorem dX8_endOf_49 : decode cX8_endOf 49 = .ok (.iaload, 1) := dgX8_endOf_0 (49, (.iaload, 1)) (List.mem_of_getElem? (i := 29) rfl)
theorem dX8_endOf_50 : decode cX8_endOf 50 = .ok (.invokestatic 25, 3) := dgX8_endOf_0 (50, (.invokestatic 25, 3)) (List.mem_of_getElem? (i := 30) rfl)
theorem dX8_endOf_53 : decode cX8_endOf 53 = .ok (.ifCond .eq 9, 3) := dgX8_endOf_0 (53, (.ifCond .eq 9, 3)) (List.mem_of_getElem? (i := 31) rfl)
theorem dX8_endOf_56 : decode cX8_endOf 56 = .ok (.iinc 3 1, 3) := dgX8_endOf_0 (56, (.iinc 3 1, 3)) (List.mem_of_getElem? (i := 32) rfl)
theorem dX8_endOf_59 : decode cX8_endOf 59 = .ok (.goto (-17), 3) := dgX8_endOf_0 (59, (.goto (-17), 3)) (List.mem_of_getElem? (i := 33) rfl)
theorem dX8_endOf_62 : decode cX8_endOf 62 = .ok (.iload_n 3, 1) := dgX8_endOf_0 (62, (.iload_n 3, 1)) (List.mem_of_getElem? (i := 34) rfl)
theorem dX8_endOf_63 : decode cX8_endOf 63 = .ok (.ireturn, 1) := dgX8_endOf_0 (63, (.ireturn, 1)) (List.mem_of_getElem? (i := 35) rfl)
theorem ml_X8_35 : Cond.methodLink RX8 35 yX8_isLetter ∈ tblG := tg 652 (by decide +kernel) (by decide +kernel)
theorem st_X8_isLetter : Cond.static yX8_isLetter ∈ tblG := tg 653 (by decide +kernel) (by decide +kernel)
theorem ini_X8 : Cond.initialized RX8 ∈ tblG := tg 98 (by decide +kernel) (by decide +kernel)
theorem cd_X8_isLetter : Cond.code yX8_isLetter cX8_isLetter 1 (some .boolean) ∈ tblG := tg 654 (by decide +kernel) (by decide +kernel)
theorem gW_X8_isLetter : GoodIn tblG (wsG yX8_isLetter cX8_isLetter 1 (some .boolean)) := tgi cd_X8_isLetter
theorem gS_X8_35 : GoodIn tblG (va_wsS RX8 35 yX8_isLetter (wsG yX8_isLetter cX8_isLetter 1 (some .boolean))) := tgS ml_X8_35 st_X8_isLetter ini_X8 gW_X8_isLetter
theorem hs_X8_isLetter : yX8_isLetter.cls ≠ "java/lang/invoke/MethodHandle" ∧ yX8_isLetter.cls ≠ "java/lang/invoke/VarHandle" ∧ (parseMethodDescriptor yX8_isLetter.desc).map (fun d => d.parameters.length) = some 1 := by decide +kernel
theorem ml_X8_25 : Cond.methodLink RX8 25 yX8_isDigit ∈ tblG := tg 655 (by decide +kernel) (by decide +kernel)
theorem st_X8_isDigit : Cond.static yX8_isDigit ∈ tblG := tg 656 (by decide +kernel) (by decide +kernel)
theorem cd_X8_isDigit : Cond.code yX8_isDigit cX8_isDigit 1 (some .boolean) ∈ tblG := tg 657 (by decide +kernel) (by decide +kernel)
theorem gW_X8_isDigit : GoodIn tblG (wsG yX8_isDigit cX8_isDigit 1 (some .boolean)) := tgi cd_X8_isDigit
theorem gS_X8_25 : GoodIn tblG (va_wsS RX8 25 yX8_isDigit (wsG yX8_isDigit cX8_isDigit 1 (some .boolean))) := tgS ml_X8_25 st_X8_isDigit ini_X8 gW_X8_isDigit
theorem hs_X8_isDigit : yX8_isDigit.cls ≠ "java/lang/invoke/MethodHandle" ∧ yX8_isDigit.cls ≠ "java/lang/invoke/VarHandle" ∧ (parseMethodDescriptor yX8_isDigit.desc).map (fun d => d.parameters.length) = some 1 := by decide +kernel
theorem dgX8_numberIn_0 : ∀ r ∈ ([(0, (.iconst 0, 1)), (1, (.istore_n 3, 1)), (2, (.iload_n 1, 1)), (3, (.istore 4, 2)), (5, (.iload 4, 2)), (7, (.iload_n 2, 1)), (8, (.if_icmp .ge 29, 3)), (11, (.iload_n 3, 1)), (12, (.sipush 1000, 3)), (15, (.if_icmp .gt 22, 3)), (18, (.iload_n 3, 1)), (19, (.bipush 10, 2)), (21, (.imul, 1)), (22, (.aload_n 0, 1)), (23, (.iload 4, 2)), (25, (.iaload, 1)), (26, (.iadd, 1)), (27, (.bipush 48, 2)), (29, (.isub, 1)), (30, (.istore_n 3, 1)), (31, (.iinc 4 1, 3)), (34, (.goto (-29), 3)), (37, (.iload_n 3, 1)), (38, (.ireturn, 1))] : List (Nat × (Instr × Nat))), decode cX8_numberIn r.1 = .ok r.2 := by decide +kernel
theorem dX8_numberIn_0 : decode cX8_numberIn 0 = .ok (.iconst 0, 1) := dgX8_numberIn_0 (0, (.iconst 0, 1)) (List.mem_of_getElem? (i := 0) rfl)
theorem dX8_numberIn_1 : decode cX8_numberIn 1 = .ok (.istore_n 3, 1) := dgX8_numberIn_0 (1, (.istore_n 3, 1)) (List.mem_of_getElem? (i := 1) rfl)
theorem dX8_numberIn_2 : decode cX8_numberIn 2 = .ok (.iload_n 1, 1) := dgX8_numberIn_0 (2, (.iload_n 1, 1)) (List.mem_of_getElem? (i := 2) rfl)
theorem dX8_numberIn_3 : decode cX8_numberIn 3 = .ok (.istore 4, 2) := dgX8_numberIn_0 (3, (.istore 4, 2)) (List.mem_of_getElem? (i := 3) rfl)
theorem dX8_numberIn_5 : decode cX8_numberIn 5 = .ok (.iload 4, 2) := dgX8_numberIn_0 (5, (.iload 4, 2)) (List.mem_of_getElem? (i := 4) rfl)
theorem dX8_numberIn_7 : decode cX8_numberIn 7 = .ok (.iload_n 2, 1) := dgX8_numberIn_0 (7, (.iload_n 2, 1)) (List.mem_of_getElem? (i := 5) rfl)
theorem dX8_numberIn_8 : decode cX8_numberIn 8 = .ok (.if_icmp .ge 29, 3) := dgX8_numberIn_0 (8, (.if_icmp .ge 29, 3)) (List.mem_of_getElem? (i := 6) rfl)
theorem dX8_numberIn_11 : decode cX8_numberIn 11 = .ok (.iload_n 3, 1) := dgX8_numberIn_0 (11, (.iload_n 3, 1)) (List.mem_of_getElem? (i := 7) rfl)
theorem dX8_numberIn_12 : decode cX8_numberIn 12 = .ok (.sipush 1000, 3) := dgX8_numberIn_0 (12, (.sipush 1000, 3)) (List.mem_of_getElem? (i := 8) rfl)
theorem dX8_numberIn_15 : decode cX8_numberIn 15 = .ok (.if_icmp .gt 22, 3) := dgX8_numberIn_0 (15, (.if_icmp .gt 22, 3)) (List.mem_of_getElem? (i := 9) rfl)
theorem dX8_numberIn_18 : decode cX8_numberIn 18 = .ok (.iload_n 3, 1) := dgX8_numberIn_0 (18, (.iload_n 3, 1)) (List.mem_of_getElem? (i := 10) rfl)
theorem dX8_numberIn_19 : decode cX8_numberIn 19 = .ok (.bipush 10, 2) := dgX8_numberIn_0 (19, (.bipush 10, 2)) (List.mem_of_getElem? (i := 11) rfl)
theorem dX8_numberIn_21 : decode cX8_numberIn 21 = .ok (.imul, 1) := dgX8_numberIn_0 (21, (.imul, 1)) (List.mem_of_getElem? (i := 12) rfl)
theorem dX8_numberIn_22 : decode cX8_numberIn 22 = .ok (.aload_n 0, 1) := dgX8_numberIn_0 (22, (.aload_n 0, 1)) (List.mem_of_getElem? (i := 13) rfl)
theorem dX8_numberIn_23 : decode cX8_numberIn 23 = .ok (.iload 4, 2) := dgX8_numberIn_0 (23, (.iload 4, 2)) (List.mem_of_getElem? (i := 14) rfl)
theorem dX8_numberIn_25 : decode cX8_numberIn 25 = .ok (.iaload, 1) := dgX8_numberIn_0 (25, (.iaload, 1)) (List.mem_of_getElem? (i := 15) rfl)
theorem dX8_numberIn_26 : decode cX8_numberIn 26 = .ok (.iadd, 1) := dgX8_numberIn_0 (26, (.iadd, 1)) (List.mem_of_getElem? (i := 16) rfl)
theorem dX8_numberIn_27 : decode cX8_numberIn 27 = .ok (.bipush 48, 2) := dgX8_numberIn_0 (27, (.bipush 48, 2)) (List.mem_of_getElem? (i := 17) rfl)
theorem dX8_numberIn_29 : decode cX8_numberIn 29 = .ok (.isub, 1) := dgX8_numberIn_0 (29, (.isub, 1)) (List.mem_of_getElem? (i := 18) rfl)
theorem dX8_numberIn_30 : decode cX8_numberIn 30 = .ok (.istore_n 3, 1) := dgX8_numberIn_0 (30, (.istore_n 3, 1)) (List.mem_of_getElem? (i := 19) rfl)
theorem dX8_numberIn_31 : decode cX8_numberIn 31 = .ok (.iinc 4 1, 3) := dgX8_numberIn_0 (31, (.iinc 4 1, 3)) (List.mem_of_getElem? (i := 20) rfl)
theorem dX8_numberIn_34 : decode cX8_numberIn 34 = .ok (.goto (-29), 3) := dgX8_numberIn_0 (34, (.goto (-29), 3)) (List.mem_of_getElem? (i := 21) rfl)
theorem dX8_numberIn_37 : decode cX8_numberIn 37 = .ok (.iload_n 3, 1) := dgX8_numberIn_0 (37, (.iload_n 3, 1)) (List.mem_of_getElem? (i := 22) rfl)
theorem dX8_numberIn_38 : decode cX8_numberIn 38 = .ok (.ireturn, 1) := dgX8_numberIn_0 (38, (.ireturn, 1)) (List.mem_of_getElem? (i := 23) rfl)
set_option maxHeartbeats 4000000 in
set_option maxRecDepth 100000 in
theorem k_number (l : Launch) (G : g5_G) (a_x : Nat) (sz : Nat) (p_a : Int32) (p_t : Int32) (f_x : Nat → Int32) (h_p_a : 0 ≤ p_a.toInt ∧ p_a.toInt ≤ 400) (h_p_t : 0 ≤ p_t.toInt ∧ p_t.toInt ≤ 400) : Met l yX8_numberIn (wsG yX8_numberIn cX8_numberIn 5 (some .int)) ({ frames := 0, cells := 0, slots := 0, locals := 0 }) (va_Pc [.ref a_x, .int p_a, .int p_t] (g5_P G [(a_x, (arI G 400 f_x))] sz)) (va_Qi (fun (r : Int32) (u : va_W) => (∃ (o_r : Int32), (o_r = nmbO f_x p_a p_t 0) ∧ (r = o_r) ∧ (u = [(a_x, (arI G 400 f_x))]))) (g5_B G (va_A [(a_x, (arI G 400 f_x))] sz)) (va_A [(a_x, (arI G 400 f_x))] sz)) 0 0 (va_A [(a_x, (arI G 400 f_x))] sz) := by
  refine Met.ofW (cc := cX8_numberIn) (maxL := 5) (ret := (some .int)) (by decide) rfl ?_
  intro p e s m args below meth c s₁ B hml hv
  obtain ⟨rfl, hsz, hP, hK, hD0, hN, hT⟩ := hv
  have hx := B.exec
  have hb := B.bytes
  have hr := B.returns
  have hts : ∀ w ∈ tblG, w.before _ s = true := fun w h => atoms_spec (ws := (wsG yX8_numberIn cX8_numberIn 5 (some .int))) B.pre w (List.mem_cons_of_mem _ h)
  have hown : s.vm.findClass RX8 = some m.cls := findClass_of_methodNamed B.named
  have hlocks := B.notSynchronized
  subst hsz
  have hD := hD0.self (sz := s.heap.size)
  generalize hAe : va_A [(a_x, (arI G 400 f_x))] s.heap.size = A at hD hT ⊢
  have hA : ∀ q : Nat, s.heap.size ≤ q → A q := fun q h => by rw [← hAe]; exact Or.inr h
  have hS : va_S A s.heap s.heap [] := va_S.rf
  have hP : va_P G.1 vwCl [(a_x, (arI G 400 f_x))] s.heap := hP
  have hl := lv_entry ([.ref a_x, .int p_a, .int p_t]) (n := 5) (Nat.le_of_ble_eq_true rfl)
  rw [lg_entry_eq]
  generalize (lg_sl ([.ref a_x, .int p_a, .int p_t]) ++ List.replicate (5 - (lg_sl ([.ref a_x, .int p_a, .int p_t])).length) Slot.unset).toArray = ls at hl ⊢
  have hl : lv_has ls 5 [(0, .ref a_x), (1, .int p_a), (2, .int p_t)] := hl
  refine lv_iconst (v := 0) hx hb dX8_numberIn_0 (by decide) ?_
  refine lv_istore_n (lv' := [(3, .int 0), (0, .ref a_x), (1, .int p_a), (2, .int p_t)]) hx hb dX8_numberIn_1 rfl hl (by decide) rfl (fun ls hl => ?_)
  refine lv_iload_n hx hb dX8_numberIn_2 rfl (lv_at hl 2 rfl) ?_
  refine lv_istore (lv' := [(4, .int p_a), (3, .int 0), (0, .ref a_x), (1, .int p_a), (2, .int p_t)]) hx hb dX8_numberIn_3 hl (by decide) rfl (fun ls hl => ?_)
  refine g5_loop (α := (Int32) × (Int32)) (fun (q : (Int32) × (Int32)) (ls : Array Slot) (H : Heap) (locs : List Loc) => match q with | (k_n, k_a) => lv_has ls 5 [(3, .int k_n), (4, .int k_a), (0, .ref a_x), (1, .int p_a), (2, .int p_t)] ∧ va_P G.1 vwCl [(a_x, (arI G 400 f_x))] H ∧ va_D A [(a_x, (arI G 400 f_x))] ∧ va_S A s.heap H locs ∧ (0 ≤ k_a.toInt ∧ k_a.toInt ≤ 400) ∧ (nmbO f_x k_a p_t k_n = nmbO f_x p_a p_t 0)) (fun (q : (Int32) × (Int32)) => match q with | (k_n, k_a) => Int.toNat (400 - k_a.toInt)) (0, p_a) ⟨lv_sub hl [1, 0, 2, 3, 4] rfl, hP, hD, hS, h_p_a, rfl⟩ ?_
  rintro ⟨k_n, k_a⟩ ls H locs ⟨hl, hP, hD, hS, i_1, i_2⟩ ih_5_3
  have hl : lv_has ls 5 [(3, .int k_n), (4, .int k_a), (0, .ref a_x), (1, .int p_a), (2, .int p_t)] := hl
  have i_1 : 0 ≤ k_a.toInt ∧ k_a.toInt ≤ 400 := i_1
  have i_2 : nmbO f_x k_a p_t k_n = nmbO f_x p_a p_t 0 := i_2
  refine g5_rs [(a_x, (arI G 400 f_x))] hP hD (fun hP hD => ?_)
  refine lv_iload hx hb dX8_numberIn_5 (lv_at hl 1 rfl) ?_
  refine lv_iload_n hx hb dX8_numberIn_7 rfl (lv_at hl 4 rfl) ?_
  refine lv_icmp_ge (tgt := 37) hx hb dX8_numberIn_8 (by decide) (fun c_4 => ?_) (fun c_4 => ?_)
  ·
    have i_4 : k_a.toInt ≥ p_t.toInt := by have z := g5_ge (a := k_a.toInt) (b := p_t.toInt) (by rfl) (by rfl) c_4; omega
    refine lv_iload_n hx hb dX8_numberIn_37 rfl (lv_at hl 0 rfl) ?_
    exact W.iret (v := k_n) hx hb hr (fun t ht hW => ⟨⟨k_n, [(a_x, (arI G 400 f_x))], rfl, ⟨k_n, (nmb_end (by omega)).trans i_2, rfl, rfl⟩, by rw [ht]; exact hP.sub [0] rfl, hD.sub [0] (by decide) rfl⟩, hS.F ht⟩) hS.2.2 dX8_numberIn_38
  ·
    have i_4 : k_a.toInt < p_t.toInt := by have z := g5_geN (a := k_a.toInt) (b := p_t.toInt) (by rfl) (by rfl) c_4; omega
    refine lv_iload_n hx hb dX8_numberIn_11 rfl (lv_at hl 0 rfl) ?_
    refine lv_sipush (v := 1000) hx hb dX8_numberIn_12 (by decide) ?_
    refine lv_icmp_gt (tgt := 37) hx hb dX8_numberIn_15 (by decide) (fun c_5 => ?_) (fun c_5 => ?_)
    ·
      have i_5 : k_n.toInt > 1000 := by have z := g5_gt (a := k_n.toInt) (b := 1000) (by rfl) (by decide) c_5; omega
      refine lv_iload_n hx hb dX8_numberIn_37 rfl (lv_at hl 0 rfl) ?_
      exact W.iret (v := k_n) hx hb hr (fun t ht hW => ⟨⟨k_n, [(a_x, (arI G 400 f_x))], rfl, ⟨k_n, (nmb_over (by omega)).trans i_2, rfl, rfl⟩, by rw [ht]; exact hP.sub [0] rfl, hD.sub [0] (by decide) rfl⟩, hS.F ht⟩) hS.2.2 dX8_numberIn_38
    ·
      have i_5 : k_n.toInt ≤ 1000 := by have z := g5_gtN (a := k_n.toInt) (b := 1000) (by rfl) (by decide) c_5; omega
      refine lv_iload_n hx hb dX8_numberIn_18 rfl (lv_at hl 0 rfl) ?_
      refine lv_bipush (v := 10) hx hb dX8_numberIn_19 (by decide) ?_
      refine lv_imul hx hb dX8_numberIn_21 ?_
      refine lv_aload_n hx hb dX8_numberIn_22 rfl (lv_at hl 2 rfl) ?_
      refine lv_iload hx hb dX8_numberIn_23 (lv_at hl 1 rfl) ?_
      refine va_iald hx hb hK hP 0 0 rfl rfl (i := k_a) (vp_in_iff.mpr ⟨by omega, by omega⟩) dX8_numberIn_25 ?_
      refine lv_iadd hx hb dX8_numberIn_26 ?_
      refine lv_bipush (v := 48) hx hb dX8_numberIn_27 (by decide) ?_
      refine lv_isub hx hb dX8_numberIn_29 ?_
      refine lv_istore_n (lv' := [(3, .int (((k_n * 10) + (f_x k_a.toNatClampNeg)) - 48)), (4, .int k_a), (0, .ref a_x), (1, .int p_a), (2, .int p_t)]) hx hb dX8_numberIn_30 rfl hl (by decide) rfl (fun ls hl => ?_)
      refine lv_iinc (v := (k_a + 1)) (lv' := [(4, .int (k_a + 1)), (3, .int (((k_n * 10) + (f_x k_a.toNatClampNeg)) - 48)), (0, .ref a_x), (1, .int p_a), (2, .int p_t)]) hx hb dX8_numberIn_31 hl (k := 1) rfl rfl (by decide) rfl (fun ls hl => ?_)
      have t_6 : (k_a + 1).toInt = k_a.toInt + 1 := g5_iadd (a := k_a.toInt) (b := 1) rfl (by decide) (by omega) (by omega)
      refine lv_goto (tgt := 5) hx hb dX8_numberIn_34 (by decide) ?_
      exact ih_5_3 ((((k_n * 10) + (f_x k_a.toNatClampNeg)) - 48), (k_a + 1)) ls H locs (show Int.toNat (400 - (k_a + 1).toInt) < Int.toNat (400 - k_a.toInt) from g_up (show k_a.toInt < (k_a + 1).toInt by omega) (show k_a.toInt < 400 by omega)) ⟨lv_sub hl [1, 0, 2, 3, 4] rfl, hP, hD, hS, ⟨by omega, by omega⟩, (nmb_step (by omega) (by omega) (by omega) (by omega)).trans i_2⟩
theorem dgX8_wordIn_0 : ∀ r ∈ ([(0, (.iconst 0, 1)), (1, (.istore_n 3, 1)), (2, (.iload_n 1, 1)), (3, (.istore 4, 2)), (5, (.iconst 1, 1)), (6, (.istore 5, 2)), (8, (.iconst 0, 1)), (9, (.istore 6, 2)), (11, (.iload 6, 2)), (13, (.ldc 41, 2)), (15, (.invokevirtual 43, 3)), (18, (.if_icmp .ge 80, 3)), (21, (.ldc 41, 2)), (23, (.iload 6, 2)), (25, (.invokevirtual 49, 3)), (28, (.istore 7, 2)), (30, (.iload 7, 2)), (32, (.bipush 32, 2)), (34, (.if_icmp .eq 36, 3)), (37, (.iload 5, 2)), (39, (.ifCond .eq 22, 3)), (42, (.iload 4, 2)), (44, (.iload_n 2, 1)), (45, (.if_icmp .ge 16, 3)), (48, (.aload_n 0, 1)), (49, (.iload 4, 2)), (51, (.iaload, 1)), (52, (.iload 7, 2)), (54, (.if_icmp .ne 7, 3)), (57, (.iconst 1, 1)), (58, (.goto 4, 3)), (61, (.iconst 0, 1)), (62, (.istore 5, 2)), (64, (.iinc 4 1, 3)), (67, (.goto 25, 3)), (70, (.iload 5, 2)), (72, (.ifCond .eq 11, 3)), (75, (.iload 4, 2)), (77, (.iload_n 2, 1)), (78, (.if_icmp .ne 5, 3))] : List (Nat × (Instr × Nat))), decode cX8_wordIn r.1 = .ok r.2 := by decide +kernel
theorem dX8_wordIn_0 : decode cX8_wordIn 0 = .ok (.iconst 0, 1) := dgX8_wordIn_0 (0, (.iconst 0, 1)) (List.mem_of_getElem? (i := 0) rfl)
theorem dX8_wordIn_1 : decode cX8_wordIn 1 = .ok (.istore_n 3, 1) := dgX8_wordIn_0 (1, (.istore_n 3, 1)) (List.mem_of_getElem? (i := 1) rfl)
theorem dX8_wordIn_2 : decode cX8_wordIn 2 = .ok (.iload_n 1, 1) := dgX8_wordIn_0 (2, (.iload_n 1, 1)) (List.mem_of_getElem? (i := 2) rfl)
theorem dX8_wordIn_3 : decode cX8_wordIn 3 = .ok (.istore 4, 2) := dgX8_wordIn_0 (3, (.istore 4, 2)) (List.mem_of_getElem? (i := 3) rfl)
theorem dX8_wordIn_5 : decode cX8_wordIn 5 = .ok (.iconst 1, 1) := dgX8_wordIn_0 (5, (.iconst 1, 1)) (List.mem_of_getElem? (i := 4) rfl)
theorem dX8_wordIn_6 : decode cX8_wordIn 6 = .ok (.istore 5, 2) := dgX8_wordIn_0 (6, (.istore 5, 2)) (List.mem_of_getElem? (i := 5) rfl)
theorem dX8_wordIn_8 : decode cX8_wordIn 8 = .ok (.iconst 0, 1) := dgX8_wordIn_0 (8, (.iconst 0, 1)) (List.mem_of_getElem? (i := 6) rfl)
theorem dX8_wordIn_9 : decode cX8_wordIn 9 = .ok (.istore 6, 2) := dgX8_wordIn_0 (9, (.istore 6, 2)) (List.mem_of_getElem? (i := 7) rfl)
theorem dX8_wordIn_11 : decode cX8_wordIn 11 = .ok (.iload 6, 2) := dgX8_wordIn_0 (11, (.iload 6, 2)) (List.mem_of_getElem? (i := 8) rfl)
theorem dX8_wordIn_13 : decode cX8_wordIn 13 = .ok (.ldc 41, 2) := dgX8_wordIn_0 (13, (.ldc 41, 2)) (List.mem_of_getElem? (i := 9) rfl)
theorem dX8_wordIn_15 : decode cX8_wordIn 15 = .ok (.invokevirtual 43, 3) := dgX8_wordIn_0 (15, (.invokevirtual 43, 3)) (List.mem_of_getElem? (i := 10) rfl)
theorem dX8_wordIn_18 : decode cX8_wordIn 18 = .ok (.if_icmp .ge 80, 3) := dgX8_wordIn_0 (18, (.if_icmp .ge 80, 3)) (List.mem_of_getElem? (i := 11) rfl)
theorem dX8_wordIn_21 : decode cX8_wordIn 21 = .ok (.ldc 41, 2) := dgX8_wordIn_0 (21, (.ldc 41, 2)) (List.mem_of_getElem? (i := 12) rfl)
theorem dX8_wordIn_23 : decode cX8_wordIn 23 = .ok (.iload 6, 2) := dgX8_wordIn_0 (23, (.iload 6, 2)) (List.mem_of_getElem? (i := 13) rfl)
theorem dX8_wordIn_25 : decode cX8_wordIn 25 = .ok (.invokevirtual 49, 3) := dgX8_wordIn_0 (25, (.invokevirtual 49, 3)) (List.mem_of_getElem? (i := 14) rfl)
theorem dX8_wordIn_28 : decode cX8_wordIn 28 = .ok (.istore 7, 2) := dgX8_wordIn_0 (28, (.istore 7, 2)) (List.mem_of_getElem? (i := 15) rfl)
theorem dX8_wordIn_30 : decode cX8_wordIn 30 = .ok (.iload 7, 2) := dgX8_wordIn_0 (30, (.iload 7, 2)) (List.mem_of_getElem? (i := 16) rfl)
theorem dX8_wordIn_32 : decode cX8_wordIn 32 = .ok (.bipush 32, 2) := dgX8_wordIn_0 (32, (.bipush 32, 2)) (List.mem_of_getElem? (i := 17) rfl)
theorem dX8_wordIn_34 : decode cX8_wordIn 34 = .ok (.if_icmp .eq 36, 3) := dgX8_wordIn_0 (34, (.if_icmp .eq 36, 3)) (List.mem_of_getElem? (i := 18) rfl)
theorem dX8_wordIn_37 : decode cX8_wordIn 37 = .ok (.iload 5, 2) := dgX8_wordIn_0 (37, (.iload 5, 2)) (List.mem_of_getElem? (i := 19) rfl)
theorem dX8_wordIn_39 : decode cX8_wordIn 39 = .ok (.ifCond .eq 22, 3) := dgX8_wordIn_0 (39, (.ifCond .eq 22, 3)) (List.mem_of_getElem? (i := 20) rfl)
theorem dX8_wordIn_42 : decode cX8_wordIn 42 = .ok (.iload 4, 2) := dgX8_wordIn_0 (42, (.iload 4, 2)) (List.mem_of_getElem? (i := 21) rfl)
theorem dX8_wordIn_44 : decode cX8_wordIn 44 = .ok (.iload_n 2, 1) := dgX8_wordIn_0 (44, (.iload_n 2, 1)) (List.mem_of_getElem? (i := 22) rfl)
theorem dX8_wordIn_45 : decode cX8_wordIn 45 = .ok (.if_icmp .ge 16, 3) := dgX8_wordIn_0 (45, (.if_icmp .ge 16, 3)) (List.mem_of_getElem? (i := 23) rfl)
theorem dX8_wordIn_48 : decode cX8_wordIn 48 = .ok (.aload_n 0, 1) := dgX8_wordIn_0 (48, (.aload_n 0, 1)) (List.mem_of_getElem? (i := 24) rfl)
theorem dX8_wordIn_49 : decode cX8_wordIn 49 = .ok (.iload 4, 2) := dgX8_wordIn_0 (49, (.iload 4, 2)) (List.mem_of_getElem? (i := 25) rfl)
theorem dX8_wordIn_51 : decode cX8_wordIn 51 = .ok (.iaload, 1) := dgX8_wordIn_0 (51, (.iaload, 1)) (List.mem_of_getElem? (i := 26) rfl)
theorem dX8_wordIn_52 : decode cX8_wordIn 52 = .ok (.iload 7, 2) := dgX8_wordIn_0 (52, (.iload 7, 2)) (List.mem_of_getElem? (i := 27) rfl)
theorem dX8_wordIn_54 : decode cX8_wordIn 54 = .ok (.if_icmp .ne 7, 3) := dgX8_wordIn_0 (54, (.if_icmp .ne 7, 3)) (List.mem_of_getElem? (i := 28) rfl)
theorem dX8_wordIn_57 : decode cX8_wordIn 57 = .ok (.iconst 1, 1) := dgX8_wordIn_0 (57, (.iconst 1, 1)) (List.mem_of_getElem? (i := 29) rfl)
theorem dX8_wordIn_58 : decode cX8_wordIn 58 = .ok (.goto 4, 3) := dgX8_wordIn_0 (58, (.goto 4, 3)) (List.mem_of_getElem? (i := 30) rfl)
theorem dX8_wordIn_61 : decode cX8_wordIn 61 = .ok (.iconst 0, 1) := dgX8_wordIn_0 (61, (.iconst 0, 1)) (List.mem_of_getElem? (i := 31) rfl)
theorem dX8_wordIn_62 : decode cX8_wordIn 62 = .ok (.istore 5, 2) := dgX8_wordIn_0 (62, (.istore 5, 2)) (List.mem_of_getElem? (i := 32) rfl)
theorem dX8_wordIn_64 : decode cX8_wordIn 64 = .ok (.iinc 4 1, 3) := dgX8_wordIn_0 (64, (.iinc 4 1, 3)) (List.mem_of_getElem? (i := 33) rfl)
theorem dX8_wordIn_67 : decode cX8_wordIn 67 = .ok (.goto 25, 3) := dgX8_wordIn_0 (67, (.goto 25, 3)) (List.mem_of_getElem? (i := 34) rfl)
theorem dX8_wordIn_70 : decode cX8_wordIn 70 = .ok (.iload 5, 2) := dgX8_wordIn_0 (70, (.iload 5, 2)) (List.mem_of_getElem? (i := 35) rfl)
theorem dX8_wordIn_72 : decode cX8_wordIn 72 = .ok (.ifCond .eq 11, 3) := dgX8_wordIn_0 (72, (.ifCond .eq 11, 3)) (List.mem_of_getElem? (i := 36) rfl)
theorem dX8_wordIn_75 : decode cX8_wordIn 75 = .ok (.iload 4, 2) := dgX8_wordIn_0 (75, (.iload 4, 2)) (List.mem_of_getElem? (i := 37) rfl)
theorem dX8_wordIn_77 : decode cX8_wordIn 77 = .ok (.iload_n 2, 1) := dgX8_wordIn_0 (77, (.iload_n 2, 1)) (List.mem_of_getElem? (i := 38) rfl)
theorem dX8_wordIn_78 : decode cX8_wordIn 78 = .ok (.if_icmp .ne 5, 3) := dgX8_wordIn_0 (78, (.if_icmp .ne 5, 3)) (List.mem_of_getElem? (i := 39) rfl)
theorem dgX8_wordIn_1 : ∀ r ∈ ([(81, (.iload_n 3, 1)), (82, (.ireturn, 1)), (83, (.iinc 3 1, 3)), (86, (.iload_n 1, 1)), (87, (.istore 4, 2)), (89, (.iconst 1, 1)), (90, (.istore 5, 2)), (92, (.iinc 6 1, 3)), (95, (.goto (-84), 3)), (98, (.iconst (-1), 1)), (99, (.ireturn, 1))] : List (Nat × (Instr × Nat))), decode cX8_wordIn r.1 = .ok r.2 := by decide +kernel
theorem dX8_wordIn_81 : decode cX8_wordIn 81 = .ok (.iload_n 3, 1) := dgX8_wordIn_1 (81, (.iload_n 3, 1)) (List.mem_of_getElem? (i := 0) rfl)
theorem dX8_wordIn_82 : decode cX8_wordIn 82 = .ok (.ireturn, 1) := dgX8_wordIn_1 (82, (.ireturn, 1)) (List.mem_of_getElem? (i := 1) rfl)
theorem dX8_wordIn_83 : decode cX8_wordIn 83 = .ok (.iinc 3 1, 3) := dgX8_wordIn_1 (83, (.iinc 3 1, 3)) (List.mem_of_getElem? (i := 2) rfl)
theorem dX8_wordIn_86 : decode cX8_wordIn 86 = .ok (.iload_n 1, 1) := dgX8_wordIn_1 (86, (.iload_n 1, 1)) (List.mem_of_getElem? (i := 3) rfl)
theorem dX8_wordIn_87 : decode cX8_wordIn 87 = .ok (.istore 4, 2) := dgX8_wordIn_1 (87, (.istore 4, 2)) (List.mem_of_getElem? (i := 4) rfl)
theorem dX8_wordIn_89 : decode cX8_wordIn 89 = .ok (.iconst 1, 1) := dgX8_wordIn_1 (89, (.iconst 1, 1)) (List.mem_of_getElem? (i := 5) rfl)
theorem dX8_wordIn_90 : decode cX8_wordIn 90 = .ok (.istore 5, 2) := dgX8_wordIn_1 (90, (.istore 5, 2)) (List.mem_of_getElem? (i := 6) rfl)
theorem dX8_wordIn_92 : decode cX8_wordIn 92 = .ok (.iinc 6 1, 3) := dgX8_wordIn_1 (92, (.iinc 6 1, 3)) (List.mem_of_getElem? (i := 7) rfl)
theorem dX8_wordIn_95 : decode cX8_wordIn 95 = .ok (.goto (-84), 3) := dgX8_wordIn_1 (95, (.goto (-84), 3)) (List.mem_of_getElem? (i := 8) rfl)
theorem dX8_wordIn_98 : decode cX8_wordIn 98 = .ok (.iconst (-1), 1) := dgX8_wordIn_1 (98, (.iconst (-1), 1)) (List.mem_of_getElem? (i := 9) rfl)
theorem dX8_wordIn_99 : decode cX8_wordIn 99 = .ok (.ireturn, 1) := dgX8_wordIn_1 (99, (.ireturn, 1)) (List.mem_of_getElem? (i := 10) rfl)
theorem ml_X8_43 : Cond.methodLink RX8 43 yJ0_length_8abf5 ∈ tblG := tg 668 (by decide +kernel) (by decide +kernel)
theorem im_J0_length_8abf5 : Cond.instanceMethod yJ0_length_8abf5 ∈ tblG := tg 669 (by decide +kernel) (by decide +kernel)
theorem se_J0_length_8abf5 : Cond.selects RJ0 yJ0_length_8abf5 yJ0_length_8abf5 ∈ tblG := tg 670 (by decide +kernel) (by decide +kernel)
theorem cd_J0_length_8abf5 : Cond.code yJ0_length_8abf5 cJ0_length_8abf5 1 (some .int) ∈ tblG := tg 671 (by decide +kernel) (by decide +kernel)
theorem gW_J0_length_8abf5 : GoodIn tblG (wsG yJ0_length_8abf5 cJ0_length_8abf5 1 (some .int)) := tgi cd_J0_length_8abf5
theorem gV_X8_43 : GoodIn tblG (wsV RX8 43 RJ0 yJ0_length_8abf5 (wsG yJ0_length_8abf5 cJ0_length_8abf5 1 (some .int))) := tgV ml_X8_43 im_J0_length_8abf5 se_J0_length_8abf5 ini_J0 gW_J0_length_8abf5
theorem hv_J0_length_8abf5 : yJ0_length_8abf5.cls = RJ0 ∧ yJ0_length_8abf5.cls ≠ "java/lang/invoke/MethodHandle" ∧ yJ0_length_8abf5.cls ≠ "java/lang/invoke/VarHandle" ∧ (parseMethodDescriptor yJ0_length_8abf5.desc).map (fun d => d.parameters.length) = some 0 := by decide +kernel
theorem ml_X8_49 : Cond.methodLink RX8 49 yJ0_charAt_5068e ∈ tblG := tg 678 (by decide +kernel) (by decide +kernel)
theorem im_J0_charAt_5068e : Cond.instanceMethod yJ0_charAt_5068e ∈ tblG := tg 679 (by decide +kernel) (by decide +kernel)
theorem se_J0_charAt_5068e : Cond.selects RJ0 yJ0_charAt_5068e yJ0_charAt_5068e ∈ tblG := tg 680 (by decide +kernel) (by decide +kernel)
theorem cd_J0_charAt_5068e : Cond.code yJ0_charAt_5068e cJ0_charAt_5068e 2 (some .char) ∈ tblG := tg 681 (by decide +kernel) (by decide +kernel)
theorem gW_J0_charAt_5068e : GoodIn tblG (wsG yJ0_charAt_5068e cJ0_charAt_5068e 2 (some .char)) := tgi cd_J0_charAt_5068e
theorem gV_X8_49 : GoodIn tblG (wsV RX8 49 RJ0 yJ0_charAt_5068e (wsG yJ0_charAt_5068e cJ0_charAt_5068e 2 (some .char))) := tgV ml_X8_49 im_J0_charAt_5068e se_J0_charAt_5068e ini_J0 gW_J0_charAt_5068e
theorem hv_J0_charAt_5068e : yJ0_charAt_5068e.cls = RJ0 ∧ yJ0_charAt_5068e.cls ≠ "java/lang/invoke/MethodHandle" ∧ yJ0_charAt_5068e.cls ≠ "java/lang/invoke/VarHandle" ∧ (parseMethodDescriptor yJ0_charAt_5068e.desc).map (fun d => d.parameters.length) = some 1 := by decide +kernel
theorem dgX8_kindOf_0 : ∀ r ∈ ([(0, (.aload_n 0, 1)), (1, (.iload_n 1, 1)), (2, (.iaload, 1)), (3, (.invokestatic 25, 3)), (6, (.ifCond .eq 25, 3)), (9, (.aload_n 0, 1)), (10, (.iload_n 1, 1)), (11, (.iload_n 2, 1)), (12, (.invokestatic 29, 3)), (15, (.sipush 1000, 3)), (18, (.if_icmp .gt 9, 3)), (21, (.sipush 300, 3)), (24, (.goto 6, 3)), (27, (.sipush 301, 3)), (30, (.ireturn, 1)), (31, (.aload_n 0, 1)), (32, (.iload_n 1, 1)), (33, (.iaload, 1)), (34, (.invokestatic 35, 3)), (37, (.ifCond .eq 27, 3)), (40, (.aload_n 0, 1)), (41, (.iload_n 1, 1)), (42, (.iload_n 2, 1)), (43, (.invokestatic 38, 3)), (46, (.istore_n 3, 1)), (47, (.iload_n 3, 1)), (48, (.iconst (-1), 1)), (49, (.if_icmp .ne 9, 3)), (52, (.sipush 301, 3)), (55, (.goto 8, 3)), (58, (.sipush 256, 3)), (61, (.iload_n 3, 1)), (62, (.iadd, 1)), (63, (.ireturn, 1)), (64, (.aload_n 0, 1)), (65, (.iload_n 1, 1)), (66, (.iaload, 1)), (67, (.ireturn, 1))] : List (Nat × (Instr × Nat))), decode cX8_kindOf r.1 = .ok r.2 := by decide +kernel
theorem dX8_kindOf_0 : decode cX8_kindOf 0 = .ok (.aload_n 0, 1) := dgX8_kindOf_0 (0, (.aload_n 0, 1)) (List.mem_of_getElem? (i := 0) rfl)
theorem dX8_kindOf_1 : decode cX8_kindOf 1 = .ok (.iload_n 1, 1) := dgX8_kindOf_0 (1, (.iload_n 1, 1)) (List.mem_of_getElem? (i := 1) rfl)
theorem dX8_kindOf_2 : decode cX8_kindOf 2 = .ok (.iaload, 1) := dgX8_kindOf_0 (2, (.iaload, 1)) (List.mem_of_getElem? (i := 2) rfl)
theorem dX8_kindOf_3 : decode cX8_kindOf 3 = .ok (.invokestatic 25, 3) := dgX8_kindOf_0 (3, (.invokestatic 25, 3)) (List.mem_of_getElem? (i := 3) rfl)
theorem dX8_kindOf_6 : decode cX8_kindOf 6 = .ok (.ifCond .eq 25, 3) := dgX8_kindOf_0 (6, (.ifCond .eq 25, 3)) (List.mem_of_getElem? (i := 4) rfl)
theorem dX8_kindOf_9 : decode cX8_kindOf 9 = .ok (.aload_n 0, 1) := dgX8_kindOf_0 (9, (.aload_n 0, 1)) (List.mem_of_getElem? (i := 5) rfl)
theorem dX8_kindOf_10 : decode cX8_kindOf 10 = .ok (.iload_n 1, 1) := dgX8_kindOf_0 (10, (.iload_n 1, 1)) (List.mem_of_getElem? (i := 6) rfl)
theorem dX8_kindOf_11 : decode cX8_kindOf 11 = .ok (.iload_n 2, 1) := dgX8_kindOf_0 (11, (.iload_n 2, 1)) (List.mem_of_getElem? (i := 7) rfl)
theorem dX8_kindOf_12 : decode cX8_kindOf 12 = .ok (.invokestatic 29, 3) := dgX8_kindOf_0 (12, (.invokestatic 29, 3)) (List.mem_of_getElem? (i := 8) rfl)
theorem dX8_kindOf_15 : decode cX8_kindOf 15 = .ok (.sipush 1000, 3) := dgX8_kindOf_0 (15, (.sipush 1000, 3)) (List.mem_of_getElem? (i := 9) rfl)
theorem dX8_kindOf_18 : decode cX8_kindOf 18 = .ok (.if_icmp .gt 9, 3) := dgX8_kindOf_0 (18, (.if_icmp .gt 9, 3)) (List.mem_of_getElem? (i := 10) rfl)
theorem dX8_kindOf_21 : decode cX8_kindOf 21 = .ok (.sipush 300, 3) := dgX8_kindOf_0 (21, (.sipush 300, 3)) (List.mem_of_getElem? (i := 11) rfl)
theorem dX8_kindOf_24 : decode cX8_kindOf 24 = .ok (.goto 6, 3) := dgX8_kindOf_0 (24, (.goto 6, 3)) (List.mem_of_getElem? (i := 12) rfl)
theorem dX8_kindOf_27 : decode cX8_kindOf 27 = .ok (.sipush 301, 3) := dgX8_kindOf_0 (27, (.sipush 301, 3)) (List.mem_of_getElem? (i := 13) rfl)
theorem dX8_kindOf_30 : decode cX8_kindOf 30 = .ok (.ireturn, 1) := dgX8_kindOf_0 (30, (.ireturn, 1)) (List.mem_of_getElem? (i := 14) rfl)
theorem dX8_kindOf_31 : decode cX8_kindOf 31 = .ok (.aload_n 0, 1) := dgX8_kindOf_0 (31, (.aload_n 0, 1)) (List.mem_of_getElem? (i := 15) rfl)
theorem dX8_kindOf_32 : decode cX8_kindOf 32 = .ok (.iload_n 1, 1) := dgX8_kindOf_0 (32, (.iload_n 1, 1)) (List.mem_of_getElem? (i := 16) rfl)
theorem dX8_kindOf_33 : decode cX8_kindOf 33 = .ok (.iaload, 1) := dgX8_kindOf_0 (33, (.iaload, 1)) (List.mem_of_getElem? (i := 17) rfl)
theorem dX8_kindOf_34 : decode cX8_kindOf 34 = .ok (.invokestatic 35, 3) := dgX8_kindOf_0 (34, (.invokestatic 35, 3)) (List.mem_of_getElem? (i := 18) rfl)
theorem dX8_kindOf_37 : decode cX8_kindOf 37 = .ok (.ifCond .eq 27, 3) := dgX8_kindOf_0 (37, (.ifCond .eq 27, 3)) (List.mem_of_getElem? (i := 19) rfl)
theorem dX8_kindOf_40 : decode cX8_kindOf 40 = .ok (.aload_n 0, 1) := dgX8_kindOf_0 (40, (.aload_n 0, 1)) (List.mem_of_getElem? (i := 20) rfl)
theorem dX8_kindOf_41 : decode cX8_kindOf 41 = .ok (.iload_n 1, 1) := dgX8_kindOf_0 (41, (.iload_n 1, 1)) (List.mem_of_getElem? (i := 21) rfl)
theorem dX8_kindOf_42 : decode cX8_kindOf 42 = .ok (.iload_n 2, 1) := dgX8_kindOf_0 (42, (.iload_n 2, 1)) (List.mem_of_getElem? (i := 22) rfl)
theorem dX8_kindOf_43 : decode cX8_kindOf 43 = .ok (.invokestatic 38, 3) := dgX8_kindOf_0 (43, (.invokestatic 38, 3)) (List.mem_of_getElem? (i := 23) rfl)
theorem dX8_kindOf_46 : decode cX8_kindOf 46 = .ok (.istore_n 3, 1) := dgX8_kindOf_0 (46, (.istore_n 3, 1)) (List.mem_of_getElem? (i := 24) rfl)
theorem dX8_kindOf_47 : decode cX8_kindOf 47 = .ok (.iload_n 3, 1) := dgX8_kindOf_0 (47, (.iload_n 3, 1)) (List.mem_of_getElem? (i := 25) rfl)
theorem dX8_kindOf_48 : decode cX8_kindOf 48 = .ok (.iconst (-1), 1) := dgX8_kindOf_0 (48, (.iconst (-1), 1)) (List.mem_of_getElem? (i := 26) rfl)
theorem dX8_kindOf_49 : decode cX8_kindOf 49 = .ok (.if_icmp .ne 9, 3) := dgX8_kindOf_0 (49, (.if_icmp .ne 9, 3)) (List.mem_of_getElem? (i := 27) rfl)
theorem dX8_kindOf_52 : decode cX8_kindOf 52 = .ok (.sipush 301, 3) := dgX8_kindOf_0 (52, (.sipush 301, 3)) (List.mem_of_getElem? (i := 28) rfl)
theorem dX8_kindOf_55 : decode cX8_kindOf 55 = .ok (.goto 8, 3) := dgX8_kindOf_0 (55, (.goto 8, 3)) (List.mem_of_getElem? (i := 29) rfl)
theorem dX8_kindOf_58 : decode cX8_kindOf 58 = .ok (.sipush 256, 3) := dgX8_kindOf_0 (58, (.sipush 256, 3)) (List.mem_of_getElem? (i := 30) rfl)
theorem dX8_kindOf_61 : decode cX8_kindOf 61 = .ok (.iload_n 3, 1) := dgX8_kindOf_0 (61, (.iload_n 3, 1)) (List.mem_of_getElem? (i := 31) rfl)
theorem dX8_kindOf_62 : decode cX8_kindOf 62 = .ok (.iadd, 1) := dgX8_kindOf_0 (62, (.iadd, 1)) (List.mem_of_getElem? (i := 32) rfl)
theorem dX8_kindOf_63 : decode cX8_kindOf 63 = .ok (.ireturn, 1) := dgX8_kindOf_0 (63, (.ireturn, 1)) (List.mem_of_getElem? (i := 33) rfl)
theorem dX8_kindOf_64 : decode cX8_kindOf 64 = .ok (.aload_n 0, 1) := dgX8_kindOf_0 (64, (.aload_n 0, 1)) (List.mem_of_getElem? (i := 34) rfl)
theorem dX8_kindOf_65 : decode cX8_kindOf 65 = .ok (.iload_n 1, 1) := dgX8_kindOf_0 (65, (.iload_n 1, 1)) (List.mem_of_getElem? (i := 35) rfl)
theorem dX8_kindOf_66 : decode cX8_kindOf 66 = .ok (.iaload, 1) := dgX8_kindOf_0 (66, (.iaload, 1)) (List.mem_of_getElem? (i := 36) rfl)
theorem dX8_kindOf_67 : decode cX8_kindOf 67 = .ok (.ireturn, 1) := dgX8_kindOf_0 (67, (.ireturn, 1)) (List.mem_of_getElem? (i := 37) rfl)
theorem ml_X8_29 : Cond.methodLink RX8 29 yX8_numberIn ∈ tblG := tg 658 (by decide +kernel) (by decide +kernel)
theorem st_X8_numberIn : Cond.static yX8_numberIn ∈ tblG := tg 659 (by decide +kernel) (by decide +kernel)
theorem cd_X8_numberIn : Cond.code yX8_numberIn cX8_numberIn 5 (some .int) ∈ tblG := tg 660 (by decide +kernel) (by decide +kernel)
theorem gW_X8_numberIn : GoodIn tblG (wsG yX8_numberIn cX8_numberIn 5 (some .int)) := tgi cd_X8_numberIn
theorem gS_X8_29 : GoodIn tblG (va_wsS RX8 29 yX8_numberIn (wsG yX8_numberIn cX8_numberIn 5 (some .int))) := tgS ml_X8_29 st_X8_numberIn ini_X8 gW_X8_numberIn
theorem hs_X8_numberIn : yX8_numberIn.cls ≠ "java/lang/invoke/MethodHandle" ∧ yX8_numberIn.cls ≠ "java/lang/invoke/VarHandle" ∧ (parseMethodDescriptor yX8_numberIn.desc).map (fun d => d.parameters.length) = some 3 := by decide +kernel
theorem ml_X8_38 : Cond.methodLink RX8 38 yX8_wordIn ∈ tblG := tg 664 (by decide +kernel) (by decide +kernel)
theorem st_X8_wordIn : Cond.static yX8_wordIn ∈ tblG := tg 665 (by decide +kernel) (by decide +kernel)
theorem cd_X8_wordIn : Cond.code yX8_wordIn cX8_wordIn 8 (some .int) ∈ tblG := tg 666 (by decide +kernel) (by decide +kernel)
theorem gW_X8_wordIn : GoodIn tblG (wsG yX8_wordIn cX8_wordIn 8 (some .int)) := tgi cd_X8_wordIn
theorem gS_X8_38 : GoodIn tblG (va_wsS RX8 38 yX8_wordIn (wsG yX8_wordIn cX8_wordIn 8 (some .int))) := tgS ml_X8_38 st_X8_wordIn ini_X8 gW_X8_wordIn
theorem hs_X8_wordIn : yX8_wordIn.cls ≠ "java/lang/invoke/MethodHandle" ∧ yX8_wordIn.cls ≠ "java/lang/invoke/VarHandle" ∧ (parseMethodDescriptor yX8_wordIn.desc).map (fun d => d.parameters.length) = some 3 := by decide +kernel
theorem dgX8_kindAt_0 : ∀ r ∈ ([(0, (.iload_n 1, 1)), (1, (.ifCond .lt 21, 3)), (4, (.iload_n 1, 1)), (5, (.aload_n 0, 1)), (6, (.getfield 9, 3)), (9, (.arraylength, 1)), (10, (.if_icmp .ge 12, 3)), (13, (.aload_n 0, 1)), (14, (.getfield 9, 3)), (17, (.iload_n 1, 1)), (18, (.iaload, 1)), (19, (.goto 6, 3)), (22, (.sipush 302, 3)), (25, (.ireturn, 1))] : List (Nat × (Instr × Nat))), decode cX8_kindAt r.1 = .ok r.2 := by decide +kernel
theorem dX8_kindAt_0 : decode cX8_kindAt 0 = .ok (.iload_n 1, 1) := dgX8_kindAt_0 (0, (.iload_n 1, 1)) (List.mem_of_getElem? (i := 0) rfl)
theorem dX8_kindAt_1 : decode cX8_kindAt 1 = .ok (.ifCond .lt 21, 3) := dgX8_kindAt_0 (1, (.ifCond .lt 21, 3)) (List.mem_of_getElem? (i := 1) rfl)
theorem dX8_kindAt_4 : decode cX8_kindAt 4 = .ok (.iload_n 1, 1) := dgX8_kindAt_0 (4, (.iload_n 1, 1)) (List.mem_of_getElem? (i := 2) rfl)
theorem dX8_kindAt_5 : decode cX8_kindAt 5 = .ok (.aload_n 0, 1) := dgX8_kindAt_0 (5, (.aload_n 0, 1)) (List.mem_of_getElem? (i := 3) rfl)
theorem dX8_kindAt_6 : decode cX8_kindAt 6 = .ok (.getfield 9, 3) := dgX8_kindAt_0 (6, (.getfield 9, 3)) (List.mem_of_getElem? (i := 4) rfl)
theorem dX8_kindAt_9 : decode cX8_kindAt 9 = .ok (.arraylength, 1) := dgX8_kindAt_0 (9, (.arraylength, 1)) (List.mem_of_getElem? (i := 5) rfl)
theorem dX8_kindAt_10 : decode cX8_kindAt 10 = .ok (.if_icmp .ge 12, 3) := dgX8_kindAt_0 (10, (.if_icmp .ge 12, 3)) (List.mem_of_getElem? (i := 6) rfl)
theorem dX8_kindAt_13 : decode cX8_kindAt 13 = .ok (.aload_n 0, 1) := dgX8_kindAt_0 (13, (.aload_n 0, 1)) (List.mem_of_getElem? (i := 7) rfl)
theorem dX8_kindAt_14 : decode cX8_kindAt 14 = .ok (.getfield 9, 3) := dgX8_kindAt_0 (14, (.getfield 9, 3)) (List.mem_of_getElem? (i := 8) rfl)
theorem dX8_kindAt_17 : decode cX8_kindAt 17 = .ok (.iload_n 1, 1) := dgX8_kindAt_0 (17, (.iload_n 1, 1)) (List.mem_of_getElem? (i := 9) rfl)
theorem dX8_kindAt_18 : decode cX8_kindAt 18 = .ok (.iaload, 1) := dgX8_kindAt_0 (18, (.iaload, 1)) (List.mem_of_getElem? (i := 10) rfl)
theorem dX8_kindAt_19 : decode cX8_kindAt 19 = .ok (.goto 6, 3) := dgX8_kindAt_0 (19, (.goto 6, 3)) (List.mem_of_getElem? (i := 11) rfl)
theorem dX8_kindAt_25 : decode cX8_kindAt 25 = .ok (.ireturn, 1) := dgX8_kindAt_0 (25, (.ireturn, 1)) (List.mem_of_getElem? (i := 13) rfl)
theorem inG_X8 : ∀ w ∈ wsX80, w ∈ tblG := tgs [411, 413, 415] (by decide +kernel) (by decide +kernel)
theorem fl_X8_9 : Cond.fieldLink RX8 9 "LateGlass$Tokens" "kinds" "[I" ∈ tblG := tg 405 (by decide +kernel) (by decide +kernel)
theorem dgX8_cut_0 : ∀ r ∈ ([(0, (.iconst 0, 1)), (1, (.istore_n 3, 1)), (2, (.iconst 0, 1)), (3, (.istore 4, 2)), (5, (.iconst 0, 1)), (6, (.istore 5, 2)), (8, (.iload 5, 2)), (10, (.iload_n 2, 1)), (11, (.if_icmp .ge 90, 3)), (14, (.iload 4, 2)), (16, (.iload_n 2, 1)), (17, (.if_icmp .ge 84, 3)), (20, (.aload_n 1, 1)), (21, (.iload 4, 2)), (23, (.iload_n 2, 1)), (24, (.invokestatic 21, 3)), (27, (.istore 6, 2)), (29, (.aload_n 1, 1)), (30, (.iload 4, 2)), (32, (.iaload, 1)), (33, (.bipush 32, 2)), (35, (.if_icmp .eq 56, 3)), (38, (.aload_n 0, 1)), (39, (.getfield 18, 3)), (42, (.iload_n 3, 1)), (43, (.iload 4, 2)), (45, (.iastore, 1)), (46, (.aload_n 0, 1)), (47, (.getfield 15, 3)), (50, (.iload_n 3, 1)), (51, (.aload_n 1, 1)), (52, (.iload 4, 2)), (54, (.iaload, 1)), (55, (.invokestatic 25, 3)), (58, (.ifCond .eq 14, 3)), (61, (.aload_n 1, 1)), (62, (.iload 4, 2)), (64, (.iload 6, 2)), (66, (.invokestatic 29, 3)), (69, (.goto 4, 3))] : List (Nat × (Instr × Nat))), decode cX8_cut r.1 = .ok r.2 := by decide +kernel
theorem dX8_cut_0 : decode cX8_cut 0 = .ok (.iconst 0, 1) := dgX8_cut_0 (0, (.iconst 0, 1)) (List.mem_of_getElem? (i := 0) rfl)
theorem dX8_cut_1 : decode cX8_cut 1 = .ok (.istore_n 3, 1) := dgX8_cut_0 (1, (.istore_n 3, 1)) (List.mem_of_getElem? (i := 1) rfl)
theorem dX8_cut_2 : decode cX8_cut 2 = .ok (.iconst 0, 1) := dgX8_cut_0 (2, (.iconst 0, 1)) (List.mem_of_getElem? (i := 2) rfl)
theorem dX8_cut_3 : decode cX8_cut 3 = .ok (.istore 4, 2) := dgX8_cut_0 (3, (.istore 4, 2)) (List.mem_of_getElem? (i := 3) rfl)
theorem dX8_cut_5 : decode cX8_cut 5 = .ok (.iconst 0, 1) := dgX8_cut_0 (5, (.iconst 0, 1)) (List.mem_of_getElem? (i := 4) rfl)
theorem dX8_cut_6 : decode cX8_cut 6 = .ok (.istore 5, 2) := dgX8_cut_0 (6, (.istore 5, 2)) (List.mem_of_getElem? (i := 5) rfl)
theorem dX8_cut_8 : decode cX8_cut 8 = .ok (.iload 5, 2) := dgX8_cut_0 (8, (.iload 5, 2)) (List.mem_of_getElem? (i := 6) rfl)
theorem dX8_cut_10 : decode cX8_cut 10 = .ok (.iload_n 2, 1) := dgX8_cut_0 (10, (.iload_n 2, 1)) (List.mem_of_getElem? (i := 7) rfl)
theorem dX8_cut_11 : decode cX8_cut 11 = .ok (.if_icmp .ge 90, 3) := dgX8_cut_0 (11, (.if_icmp .ge 90, 3)) (List.mem_of_getElem? (i := 8) rfl)
theorem dX8_cut_14 : decode cX8_cut 14 = .ok (.iload 4, 2) := dgX8_cut_0 (14, (.iload 4, 2)) (List.mem_of_getElem? (i := 9) rfl)
theorem dX8_cut_16 : decode cX8_cut 16 = .ok (.iload_n 2, 1) := dgX8_cut_0 (16, (.iload_n 2, 1)) (List.mem_of_getElem? (i := 10) rfl)
theorem dX8_cut_17 : decode cX8_cut 17 = .ok (.if_icmp .ge 84, 3) := dgX8_cut_0 (17, (.if_icmp .ge 84, 3)) (List.mem_of_getElem? (i := 11) rfl)
theorem dX8_cut_20 : decode cX8_cut 20 = .ok (.aload_n 1, 1) := dgX8_cut_0 (20, (.aload_n 1, 1)) (List.mem_of_getElem? (i := 12) rfl)
theorem dX8_cut_21 : decode cX8_cut 21 = .ok (.iload 4, 2) := dgX8_cut_0 (21, (.iload 4, 2)) (List.mem_of_getElem? (i := 13) rfl)
theorem dX8_cut_23 : decode cX8_cut 23 = .ok (.iload_n 2, 1) := dgX8_cut_0 (23, (.iload_n 2, 1)) (List.mem_of_getElem? (i := 14) rfl)
theorem dX8_cut_24 : decode cX8_cut 24 = .ok (.invokestatic 21, 3) := dgX8_cut_0 (24, (.invokestatic 21, 3)) (List.mem_of_getElem? (i := 15) rfl)
theorem dX8_cut_27 : decode cX8_cut 27 = .ok (.istore 6, 2) := dgX8_cut_0 (27, (.istore 6, 2)) (List.mem_of_getElem? (i := 16) rfl)
theorem dX8_cut_29 : decode cX8_cut 29 = .ok (.aload_n 1, 1) := dgX8_cut_0 (29, (.aload_n 1, 1)) (List.mem_of_getElem? (i := 17) rfl)
theorem dX8_cut_30 : decode cX8_cut 30 = .ok (.iload 4, 2) := dgX8_cut_0 (30, (.iload 4, 2)) (List.mem_of_getElem? (i := 18) rfl)
theorem dX8_cut_32 : decode cX8_cut 32 = .ok (.iaload, 1) := dgX8_cut_0 (32, (.iaload, 1)) (List.mem_of_getElem? (i := 19) rfl)
theorem dX8_cut_33 : decode cX8_cut 33 = .ok (.bipush 32, 2) := dgX8_cut_0 (33, (.bipush 32, 2)) (List.mem_of_getElem? (i := 20) rfl)
theorem dX8_cut_35 : decode cX8_cut 35 = .ok (.if_icmp .eq 56, 3) := dgX8_cut_0 (35, (.if_icmp .eq 56, 3)) (List.mem_of_getElem? (i := 21) rfl)
theorem dX8_cut_38 : decode cX8_cut 38 = .ok (.aload_n 0, 1) := dgX8_cut_0 (38, (.aload_n 0, 1)) (List.mem_of_getElem? (i := 22) rfl)
theorem dX8_cut_39 : decode cX8_cut 39 = .ok (.getfield 18, 3) := dgX8_cut_0 (39, (.getfield 18, 3)) (List.mem_of_getElem? (i := 23) rfl)
theorem dX8_cut_42 : decode cX8_cut 42 = .ok (.iload_n 3, 1) := dgX8_cut_0 (42, (.iload_n 3, 1)) (List.mem_of_getElem? (i := 24) rfl)
theorem dX8_cut_43 : decode cX8_cut 43 = .ok (.iload 4, 2) := dgX8_cut_0 (43, (.iload 4, 2)) (List.mem_of_getElem? (i := 25) rfl)
theorem dX8_cut_45 : decode cX8_cut 45 = .ok (.iastore, 1) := dgX8_cut_0 (45, (.iastore, 1)) (List.mem_of_getElem? (i := 26) rfl)
theorem dX8_cut_46 : decode cX8_cut 46 = .ok (.aload_n 0, 1) := dgX8_cut_0 (46, (.aload_n 0, 1)) (List.mem_of_getElem? (i := 27) rfl)
theorem dX8_cut_47 : decode cX8_cut 47 = .ok (.getfield 15, 3) := dgX8_cut_0 (47, (.getfield 15, 3)) (List.mem_of_getElem? (i := 28) rfl)
theorem dX8_cut_50 : decode cX8_cut 50 = .ok (.iload_n 3, 1) := dgX8_cut_0 (50, (.iload_n 3, 1)) (List.mem_of_getElem? (i := 29) rfl)
theorem dX8_cut_51 : decode cX8_cut 51 = .ok (.aload_n 1, 1) := dgX8_cut_0 (51, (.aload_n 1, 1)) (List.mem_of_getElem? (i := 30) rfl)
theorem dX8_cut_52 : decode cX8_cut 52 = .ok (.iload 4, 2) := dgX8_cut_0 (52, (.iload 4, 2)) (List.mem_of_getElem? (i := 31) rfl)
theorem dX8_cut_54 : decode cX8_cut 54 = .ok (.iaload, 1) := dgX8_cut_0 (54, (.iaload, 1)) (List.mem_of_getElem? (i := 32) rfl)
theorem dX8_cut_55 : decode cX8_cut 55 = .ok (.invokestatic 25, 3) := dgX8_cut_0 (55, (.invokestatic 25, 3)) (List.mem_of_getElem? (i := 33) rfl)
theorem dX8_cut_58 : decode cX8_cut 58 = .ok (.ifCond .eq 14, 3) := dgX8_cut_0 (58, (.ifCond .eq 14, 3)) (List.mem_of_getElem? (i := 34) rfl)
theorem dX8_cut_61 : decode cX8_cut 61 = .ok (.aload_n 1, 1) := dgX8_cut_0 (61, (.aload_n 1, 1)) (List.mem_of_getElem? (i := 35) rfl)
theorem dX8_cut_62 : decode cX8_cut 62 = .ok (.iload 4, 2) := dgX8_cut_0 (62, (.iload 4, 2)) (List.mem_of_getElem? (i := 36) rfl)
theorem dX8_cut_64 : decode cX8_cut 64 = .ok (.iload 6, 2) := dgX8_cut_0 (64, (.iload 6, 2)) (List.mem_of_getElem? (i := 37) rfl)
theorem dX8_cut_66 : decode cX8_cut 66 = .ok (.invokestatic 29, 3) := dgX8_cut_0 (66, (.invokestatic 29, 3)) (List.mem_of_getElem? (i := 38) rfl)
theorem dX8_cut_69 : decode cX8_cut 69 = .ok (.goto 4, 3) := dgX8_cut_0 (69, (.goto 4, 3)) (List.mem_of_getElem? (i := 39) rfl)
theorem dgX8_cut_1 : ∀ r ∈ ([(72, (.iconst 0, 1)), (73, (.iastore, 1)), (74, (.aload_n 0, 1)), (75, (.getfield 9, 3)), (78, (.iload_n 3, 1)), (79, (.aload_n 1, 1)), (80, (.iload 4, 2)), (82, (.iload 6, 2)), (84, (.invokestatic 32, 3)), (87, (.iastore, 1)), (88, (.iinc 3 1, 3)), (91, (.iload 6, 2)), (93, (.istore 4, 2)), (95, (.iinc 5 1, 3)), (98, (.goto (-90), 3)), (101, (.aload_n 0, 1)), (102, (.getfield 18, 3)), (105, (.iload_n 3, 1)), (106, (.iload_n 2, 1)), (107, (.iastore, 1)), (108, (.aload_n 0, 1)), (109, (.getfield 9, 3)), (112, (.iload_n 3, 1)), (113, (.sipush 302, 3)), (116, (.iastore, 1)), (117, (.return_, 1))] : List (Nat × (Instr × Nat))), decode cX8_cut r.1 = .ok r.2 := by decide +kernel
theorem dX8_cut_72 : decode cX8_cut 72 = .ok (.iconst 0, 1) := dgX8_cut_1 (72, (.iconst 0, 1)) (List.mem_of_getElem? (i := 0) rfl)
theorem dX8_cut_73 : decode cX8_cut 73 = .ok (.iastore, 1) := dgX8_cut_1 (73, (.iastore, 1)) (List.mem_of_getElem? (i := 1) rfl)
theorem dX8_cut_74 : decode cX8_cut 74 = .ok (.aload_n 0, 1) := dgX8_cut_1 (74, (.aload_n 0, 1)) (List.mem_of_getElem? (i := 2) rfl)
theorem dX8_cut_75 : decode cX8_cut 75 = .ok (.getfield 9, 3) := dgX8_cut_1 (75, (.getfield 9, 3)) (List.mem_of_getElem? (i := 3) rfl)
theorem dX8_cut_78 : decode cX8_cut 78 = .ok (.iload_n 3, 1) := dgX8_cut_1 (78, (.iload_n 3, 1)) (List.mem_of_getElem? (i := 4) rfl)
theorem dX8_cut_79 : decode cX8_cut 79 = .ok (.aload_n 1, 1) := dgX8_cut_1 (79, (.aload_n 1, 1)) (List.mem_of_getElem? (i := 5) rfl)
theorem dX8_cut_80 : decode cX8_cut 80 = .ok (.iload 4, 2) := dgX8_cut_1 (80, (.iload 4, 2)) (List.mem_of_getElem? (i := 6) rfl)
theorem dX8_cut_82 : decode cX8_cut 82 = .ok (.iload 6, 2) := dgX8_cut_1 (82, (.iload 6, 2)) (List.mem_of_getElem? (i := 7) rfl)
theorem dX8_cut_84 : decode cX8_cut 84 = .ok (.invokestatic 32, 3) := dgX8_cut_1 (84, (.invokestatic 32, 3)) (List.mem_of_getElem? (i := 8) rfl)
theorem dX8_cut_87 : decode cX8_cut 87 = .ok (.iastore, 1) := dgX8_cut_1 (87, (.iastore, 1)) (List.mem_of_getElem? (i := 9) rfl)
theorem dX8_cut_88 : decode cX8_cut 88 = .ok (.iinc 3 1, 3) := dgX8_cut_1 (88, (.iinc 3 1, 3)) (List.mem_of_getElem? (i := 10) rfl)
theorem dX8_cut_91 : decode cX8_cut 91 = .ok (.iload 6, 2) := dgX8_cut_1 (91, (.iload 6, 2)) (List.mem_of_getElem? (i := 11) rfl)
theorem dX8_cut_93 : decode cX8_cut 93 = .ok (.istore 4, 2) := dgX8_cut_1 (93, (.istore 4, 2)) (List.mem_of_getElem? (i := 12) rfl)
theorem dX8_cut_95 : decode cX8_cut 95 = .ok (.iinc 5 1, 3) := dgX8_cut_1 (95, (.iinc 5 1, 3)) (List.mem_of_getElem? (i := 13) rfl)
theorem dX8_cut_98 : decode cX8_cut 98 = .ok (.goto (-90), 3) := dgX8_cut_1 (98, (.goto (-90), 3)) (List.mem_of_getElem? (i := 14) rfl)
theorem dX8_cut_101 : decode cX8_cut 101 = .ok (.aload_n 0, 1) := dgX8_cut_1 (101, (.aload_n 0, 1)) (List.mem_of_getElem? (i := 15) rfl)
theorem dX8_cut_102 : decode cX8_cut 102 = .ok (.getfield 18, 3) := dgX8_cut_1 (102, (.getfield 18, 3)) (List.mem_of_getElem? (i := 16) rfl)
theorem dX8_cut_105 : decode cX8_cut 105 = .ok (.iload_n 3, 1) := dgX8_cut_1 (105, (.iload_n 3, 1)) (List.mem_of_getElem? (i := 17) rfl)
theorem dX8_cut_106 : decode cX8_cut 106 = .ok (.iload_n 2, 1) := dgX8_cut_1 (106, (.iload_n 2, 1)) (List.mem_of_getElem? (i := 18) rfl)
theorem dX8_cut_107 : decode cX8_cut 107 = .ok (.iastore, 1) := dgX8_cut_1 (107, (.iastore, 1)) (List.mem_of_getElem? (i := 19) rfl)
theorem dX8_cut_108 : decode cX8_cut 108 = .ok (.aload_n 0, 1) := dgX8_cut_1 (108, (.aload_n 0, 1)) (List.mem_of_getElem? (i := 20) rfl)
theorem dX8_cut_109 : decode cX8_cut 109 = .ok (.getfield 9, 3) := dgX8_cut_1 (109, (.getfield 9, 3)) (List.mem_of_getElem? (i := 21) rfl)
theorem dX8_cut_112 : decode cX8_cut 112 = .ok (.iload_n 3, 1) := dgX8_cut_1 (112, (.iload_n 3, 1)) (List.mem_of_getElem? (i := 22) rfl)
theorem dX8_cut_113 : decode cX8_cut 113 = .ok (.sipush 302, 3) := dgX8_cut_1 (113, (.sipush 302, 3)) (List.mem_of_getElem? (i := 23) rfl)
theorem dX8_cut_116 : decode cX8_cut 116 = .ok (.iastore, 1) := dgX8_cut_1 (116, (.iastore, 1)) (List.mem_of_getElem? (i := 24) rfl)
theorem dX8_cut_117 : decode cX8_cut 117 = .ok (.return_, 1) := dgX8_cut_1 (117, (.return_, 1)) (List.mem_of_getElem? (i := 25) rfl)
theorem fl_X8_18 : Cond.fieldLink RX8 18 "LateGlass$Tokens" "places" "[I" ∈ tblG := tg 409 (by decide +kernel) (by decide +kernel)
theorem ml_X8_21 : Cond.methodLink RX8 21 yX8_endOf ∈ tblG := tg 649 (by decide +kernel) (by decide +kernel)
theorem st_X8_endOf : Cond.static yX8_endOf ∈ tblG := tg 650 (by decide +kernel) (by decide +kernel)
theorem cd_X8_endOf : Cond.code yX8_endOf cX8_endOf 4 (some .int) ∈ tblG := tg 651 (by decide +kernel) (by decide +kernel)
theorem gW_X8_endOf : GoodIn tblG (wsG yX8_endOf cX8_endOf 4 (some .int)) := tgi cd_X8_endOf
theorem gS_X8_21 : GoodIn tblG (va_wsS RX8 21 yX8_endOf (wsG yX8_endOf cX8_endOf 4 (some .int))) := tgS ml_X8_21 st_X8_endOf ini_X8 gW_X8_endOf
theorem hs_X8_endOf : yX8_endOf.cls ≠ "java/lang/invoke/MethodHandle" ∧ yX8_endOf.cls ≠ "java/lang/invoke/VarHandle" ∧ (parseMethodDescriptor yX8_endOf.desc).map (fun d => d.parameters.length) = some 3 := by decide +kernel
theorem fl_X8_15 : Cond.fieldLink RX8 15 "LateGlass$Tokens" "numbers" "[I" ∈ tblG := tg 407 (by decide +kernel) (by decide +kernel)
theorem ml_X8_32 : Cond.methodLink RX8 32 yX8_kindOf ∈ tblG := tg 661 (by decide +kernel) (by decide +kernel)
theorem st_X8_kindOf : Cond.static yX8_kindOf ∈ tblG := tg 662 (by decide +kernel) (by decide +kernel)
theorem cd_X8_kindOf : Cond.code yX8_kindOf cX8_kindOf 4 (some .int) ∈ tblG := tg 663 (by decide +kernel) (by decide +kernel)
theorem gW_X8_kindOf : GoodIn tblG (wsG yX8_kindOf cX8_kindOf 4 (some .int)) := tgi cd_X8_kindOf
theorem gS_X8_32 : GoodIn tblG (va_wsS RX8 32 yX8_kindOf (wsG yX8_kindOf cX8_kindOf 4 (some .int))) := tgS ml_X8_32 st_X8_kindOf ini_X8 gW_X8_kindOf
theorem hs_X8_kindOf : yX8_kindOf.cls ≠ "java/lang/invoke/MethodHandle" ∧ yX8_kindOf.cls ≠ "java/lang/invoke/VarHandle" ∧ (parseMethodDescriptor yX8_kindOf.desc).map (fun d => d.parameters.length) = some 3 := by decide +kernel
theorem dgX4_isNext_0 : ∀ r ∈ ([(0, (.aload_n 0, 1)), (1, (.getfield 42, 3)), (4, (.aload_n 0, 1)), (5, (.getfield 12, 3)), (8, (.getfield 96, 3)), (11, (.arraylength, 1)), (12, (.if_icmp .ge 23, 3)), (15, (.aload_n 0, 1)), (16, (.getfield 12, 3)), (19, (.getfield 96, 3)), (22, (.aload_n 0, 1)), (23, (.getfield 42, 3)), (26, (.iaload, 1)), (27, (.iload_n 1, 1)), (28, (.if_icmp .ne 7, 3)), (31, (.iconst 1, 1)), (32, (.goto 4, 3)), (35, (.iconst 0, 1)), (36, (.ireturn, 1))] : List (Nat × (Instr × Nat))), decode cX4_isNext r.1 = .ok r.2 := by decide +kernel
theorem dX4_isNext_0 : decode cX4_isNext 0 = .ok (.aload_n 0, 1) := dgX4_isNext_0 (0, (.aload_n 0, 1)) (List.mem_of_getElem? (i := 0) rfl)
theorem dX4_isNext_1 : decode cX4_isNext 1 = .ok (.getfield 42, 3) := dgX4_isNext_0 (1, (.getfield 42, 3)) (List.mem_of_getElem? (i := 1) rfl)
theorem dX4_isNext_4 : decode cX4_isNext 4 = .ok (.aload_n 0, 1) := dgX4_isNext_0 (4, (.aload_n 0, 1)) (List.mem_of_getElem? (i := 2) rfl)
theorem dX4_isNext_5 : decode cX4_isNext 5 = .ok (.getfield 12, 3) := dgX4_isNext_0 (5, (.getfield 12, 3)) (List.mem_of_getElem? (i := 3) rfl)
theorem dX4_isNext_8 : decode cX4_isNext 8 = .ok (.getfield 96, 3) := dgX4_isNext_0 (8, (.getfield 96, 3)) (List.mem_of_getElem? (i := 4) rfl)
theorem dX4_isNext_11 : decode cX4_isNext 11 = .ok (.arraylength, 1) := dgX4_isNext_0 (11, (.arraylength, 1)) (List.mem_of_getElem? (i := 5) rfl)
theorem dX4_isNext_12 : decode cX4_isNext 12 = .ok (.if_icmp .ge 23, 3) := dgX4_isNext_0 (12, (.if_icmp .ge 23, 3)) (List.mem_of_getElem? (i := 6) rfl)
theorem dX4_isNext_15 : decode cX4_isNext 15 = .ok (.aload_n 0, 1) := dgX4_isNext_0 (15, (.aload_n 0, 1)) (List.mem_of_getElem? (i := 7) rfl)
theorem dX4_isNext_16 : decode cX4_isNext 16 = .ok (.getfield 12, 3) := dgX4_isNext_0 (16, (.getfield 12, 3)) (List.mem_of_getElem? (i := 8) rfl)
theorem dX4_isNext_19 : decode cX4_isNext 19 = .ok (.getfield 96, 3) := dgX4_isNext_0 (19, (.getfield 96, 3)) (List.mem_of_getElem? (i := 9) rfl)
theorem dX4_isNext_22 : decode cX4_isNext 22 = .ok (.aload_n 0, 1) := dgX4_isNext_0 (22, (.aload_n 0, 1)) (List.mem_of_getElem? (i := 10) rfl)
theorem dX4_isNext_23 : decode cX4_isNext 23 = .ok (.getfield 42, 3) := dgX4_isNext_0 (23, (.getfield 42, 3)) (List.mem_of_getElem? (i := 11) rfl)
theorem dX4_isNext_26 : decode cX4_isNext 26 = .ok (.iaload, 1) := dgX4_isNext_0 (26, (.iaload, 1)) (List.mem_of_getElem? (i := 12) rfl)
theorem dX4_isNext_27 : decode cX4_isNext 27 = .ok (.iload_n 1, 1) := dgX4_isNext_0 (27, (.iload_n 1, 1)) (List.mem_of_getElem? (i := 13) rfl)
theorem dX4_isNext_28 : decode cX4_isNext 28 = .ok (.if_icmp .ne 7, 3) := dgX4_isNext_0 (28, (.if_icmp .ne 7, 3)) (List.mem_of_getElem? (i := 14) rfl)
theorem dX4_isNext_31 : decode cX4_isNext 31 = .ok (.iconst 1, 1) := dgX4_isNext_0 (31, (.iconst 1, 1)) (List.mem_of_getElem? (i := 15) rfl)
theorem dX4_isNext_32 : decode cX4_isNext 32 = .ok (.goto 4, 3) := dgX4_isNext_0 (32, (.goto 4, 3)) (List.mem_of_getElem? (i := 16) rfl)
theorem dX4_isNext_35 : decode cX4_isNext 35 = .ok (.iconst 0, 1) := dgX4_isNext_0 (35, (.iconst 0, 1)) (List.mem_of_getElem? (i := 17) rfl)
theorem dX4_isNext_36 : decode cX4_isNext 36 = .ok (.ireturn, 1) := dgX4_isNext_0 (36, (.ireturn, 1)) (List.mem_of_getElem? (i := 18) rfl)
theorem inG_X4 : ∀ w ∈ wsX40, w ∈ tblG := tgs [427, 429, 431, 433, 435, 437, 439, 441] (by decide +kernel) (by decide +kernel)
theorem fl_X4_42 : Cond.fieldLink RX4 42 "LateGlass$LawReader" "at" "I" ∈ tblG := tg 424 (by decide +kernel) (by decide +kernel)
theorem fl_X4_12 : Cond.fieldLink RX4 12 "LateGlass$LawReader" "tokens" "LLateGlass$Tokens;" ∈ tblG := tg 418 (by decide +kernel) (by decide +kernel)
theorem fl_X4_96 : Cond.fieldLink RX4 96 "LateGlass$Tokens" "kinds" "[I" ∈ tblG := tg 406 (by decide +kernel) (by decide +kernel)
theorem dgX4_passed_0 : ∀ r ∈ ([(0, (.aload_n 0, 1)), (1, (.getfield 42, 3)), (4, (.aload_n 0, 1)), (5, (.getfield 12, 3)), (8, (.getfield 96, 3)), (11, (.arraylength, 1)), (12, (.if_icmp .ge 23, 3)), (15, (.aload_n 0, 1)), (16, (.getfield 12, 3)), (19, (.getfield 96, 3)), (22, (.aload_n 0, 1)), (23, (.getfield 42, 3)), (26, (.iaload, 1)), (27, (.iload_n 1, 1)), (28, (.if_icmp .ne 7, 3)), (31, (.iconst 1, 1)), (32, (.goto 4, 3)), (35, (.iconst 0, 1)), (36, (.istore_n 2, 1)), (37, (.aload_n 0, 1)), (38, (.dup, 1)), (39, (.getfield 42, 3)), (42, (.iload_n 2, 1)), (43, (.ifCond .eq 7, 3)), (46, (.iconst 1, 1)), (47, (.goto 4, 3)), (50, (.iconst 0, 1)), (51, (.iadd, 1)), (52, (.putfield 42, 3)), (55, (.iload_n 2, 1)), (56, (.ireturn, 1))] : List (Nat × (Instr × Nat))), decode cX4_passed r.1 = .ok r.2 := by decide +kernel
theorem dX4_passed_0 : decode cX4_passed 0 = .ok (.aload_n 0, 1) := dgX4_passed_0 (0, (.aload_n 0, 1)) (List.mem_of_getElem? (i := 0) rfl)
theorem dX4_passed_1 : decode cX4_passed 1 = .ok (.getfield 42, 3) := dgX4_passed_0 (1, (.getfield 42, 3)) (List.mem_of_getElem? (i := 1) rfl)
theorem dX4_passed_4 : decode cX4_passed 4 = .ok (.aload_n 0, 1) := dgX4_passed_0 (4, (.aload_n 0, 1)) (List.mem_of_getElem? (i := 2) rfl)
theorem dX4_passed_5 : decode cX4_passed 5 = .ok (.getfield 12, 3) := dgX4_passed_0 (5, (.getfield 12, 3)) (List.mem_of_getElem? (i := 3) rfl)
theorem dX4_passed_8 : decode cX4_passed 8 = .ok (.getfield 96, 3) := dgX4_passed_0 (8, (.getfield 96, 3)) (List.mem_of_getElem? (i := 4) rfl)
theorem dX4_passed_11 : decode cX4_passed 11 = .ok (.arraylength, 1) := dgX4_passed_0 (11, (.arraylength, 1)) (List.mem_of_getElem? (i := 5) rfl)
theorem dX4_passed_12 : decode cX4_passed 12 = .ok (.if_icmp .ge 23, 3) := dgX4_passed_0 (12, (.if_icmp .ge 23, 3)) (List.mem_of_getElem? (i := 6) rfl)
theorem dX4_passed_15 : decode cX4_passed 15 = .ok (.aload_n 0, 1) := dgX4_passed_0 (15, (.aload_n 0, 1)) (List.mem_of_getElem? (i := 7) rfl)
theorem dX4_passed_16 : decode cX4_passed 16 = .ok (.getfield 12, 3) := dgX4_passed_0 (16, (.getfield 12, 3)) (List.mem_of_getElem? (i := 8) rfl)
theorem dX4_passed_19 : decode cX4_passed 19 = .ok (.getfield 96, 3) := dgX4_passed_0 (19, (.getfield 96, 3)) (List.mem_of_getElem? (i := 9) rfl)
theorem dX4_passed_22 : decode cX4_passed 22 = .ok (.aload_n 0, 1) := dgX4_passed_0 (22, (.aload_n 0, 1)) (List.mem_of_getElem? (i := 10) rfl)
theorem dX4_passed_23 : decode cX4_passed 23 = .ok (.getfield 42, 3) := dgX4_passed_0 (23, (.getfield 42, 3)) (List.mem_of_getElem? (i := 11) rfl)
theorem dX4_passed_26 : decode cX4_passed 26 = .ok (.iaload, 1) := dgX4_passed_0 (26, (.iaload, 1)) (List.mem_of_getElem? (i := 12) rfl)
theorem dX4_passed_27 : decode cX4_passed 27 = .ok (.iload_n 1, 1) := dgX4_passed_0 (27, (.iload_n 1, 1)) (List.mem_of_getElem? (i := 13) rfl)
theorem dX4_passed_28 : decode cX4_passed 28 = .ok (.if_icmp .ne 7, 3) := dgX4_passed_0 (28, (.if_icmp .ne 7, 3)) (List.mem_of_getElem? (i := 14) rfl)
theorem dX4_passed_31 : decode cX4_passed 31 = .ok (.iconst 1, 1) := dgX4_passed_0 (31, (.iconst 1, 1)) (List.mem_of_getElem? (i := 15) rfl)
theorem dX4_passed_32 : decode cX4_passed 32 = .ok (.goto 4, 3) := dgX4_passed_0 (32, (.goto 4, 3)) (List.mem_of_getElem? (i := 16) rfl)
theorem dX4_passed_35 : decode cX4_passed 35 = .ok (.iconst 0, 1) := dgX4_passed_0 (35, (.iconst 0, 1)) (List.mem_of_getElem? (i := 17) rfl)
theorem dX4_passed_36 : decode cX4_passed 36 = .ok (.istore_n 2, 1) := dgX4_passed_0 (36, (.istore_n 2, 1)) (List.mem_of_getElem? (i := 18) rfl)
theorem dX4_passed_37 : decode cX4_passed 37 = .ok (.aload_n 0, 1) := dgX4_passed_0 (37, (.aload_n 0, 1)) (List.mem_of_getElem? (i := 19) rfl)
theorem dX4_passed_38 : decode cX4_passed 38 = .ok (.dup, 1) := dgX4_passed_0 (38, (.dup, 1)) (List.mem_of_getElem? (i := 20) rfl)
theorem dX4_passed_39 : decode cX4_passed 39 = .ok (.getfield 42, 3) := dgX4_passed_0 (39, (.getfield 42, 3)) (List.mem_of_getElem? (i := 21) rfl)
theorem dX4_passed_42 : decode cX4_passed 42 = .ok (.iload_n 2, 1) := dgX4_passed_0 (42, (.iload_n 2, 1)) (List.mem_of_getElem? (i := 22) rfl)
theorem dX4_passed_43 : decode cX4_passed 43 = .ok (.ifCond .eq 7, 3) := dgX4_passed_0 (43, (.ifCond .eq 7, 3)) (List.mem_of_getElem? (i := 23) rfl)
theorem dX4_passed_46 : decode cX4_passed 46 = .ok (.iconst 1, 1) := dgX4_passed_0 (46, (.iconst 1, 1)) (List.mem_of_getElem? (i := 24) rfl)
theorem dX4_passed_47 : decode cX4_passed 47 = .ok (.goto 4, 3) := dgX4_passed_0 (47, (.goto 4, 3)) (List.mem_of_getElem? (i := 25) rfl)
theorem dX4_passed_50 : decode cX4_passed 50 = .ok (.iconst 0, 1) := dgX4_passed_0 (50, (.iconst 0, 1)) (List.mem_of_getElem? (i := 26) rfl)
theorem dX4_passed_51 : decode cX4_passed 51 = .ok (.iadd, 1) := dgX4_passed_0 (51, (.iadd, 1)) (List.mem_of_getElem? (i := 27) rfl)
theorem dX4_passed_52 : decode cX4_passed 52 = .ok (.putfield 42, 3) := dgX4_passed_0 (52, (.putfield 42, 3)) (List.mem_of_getElem? (i := 28) rfl)
theorem dX4_passed_55 : decode cX4_passed 55 = .ok (.iload_n 2, 1) := dgX4_passed_0 (55, (.iload_n 2, 1)) (List.mem_of_getElem? (i := 29) rfl)
theorem dX4_passed_56 : decode cX4_passed 56 = .ok (.ireturn, 1) := dgX4_passed_0 (56, (.ireturn, 1)) (List.mem_of_getElem? (i := 30) rfl)
theorem dgX4_jumpHere_0 : ∀ r ∈ ([(0, (.iload_n 1, 1)), (1, (.ifCond .lt 25, 3)), (4, (.iload_n 1, 1)), (5, (.aload_n 0, 1)), (6, (.getfield 25, 3)), (9, (.arraylength, 1)), (10, (.if_icmp .ge 16, 3)), (13, (.aload_n 0, 1)), (14, (.getfield 25, 3)), (17, (.iload_n 1, 1)), (18, (.dup2, 1)), (19, (.iaload, 1)), (20, (.aload_n 0, 1)), (21, (.getfield 36, 3)), (24, (.ior, 1)), (25, (.iastore, 1)), (26, (.return_, 1))] : List (Nat × (Instr × Nat))), decode cX4_jumpHere r.1 = .ok r.2 := by decide +kernel
theorem dX4_jumpHere_0 : decode cX4_jumpHere 0 = .ok (.iload_n 1, 1) := dgX4_jumpHere_0 (0, (.iload_n 1, 1)) (List.mem_of_getElem? (i := 0) rfl)
theorem dX4_jumpHere_1 : decode cX4_jumpHere 1 = .ok (.ifCond .lt 25, 3) := dgX4_jumpHere_0 (1, (.ifCond .lt 25, 3)) (List.mem_of_getElem? (i := 1) rfl)
theorem dX4_jumpHere_4 : decode cX4_jumpHere 4 = .ok (.iload_n 1, 1) := dgX4_jumpHere_0 (4, (.iload_n 1, 1)) (List.mem_of_getElem? (i := 2) rfl)
theorem dX4_jumpHere_5 : decode cX4_jumpHere 5 = .ok (.aload_n 0, 1) := dgX4_jumpHere_0 (5, (.aload_n 0, 1)) (List.mem_of_getElem? (i := 3) rfl)
theorem dX4_jumpHere_6 : decode cX4_jumpHere 6 = .ok (.getfield 25, 3) := dgX4_jumpHere_0 (6, (.getfield 25, 3)) (List.mem_of_getElem? (i := 4) rfl)
theorem dX4_jumpHere_9 : decode cX4_jumpHere 9 = .ok (.arraylength, 1) := dgX4_jumpHere_0 (9, (.arraylength, 1)) (List.mem_of_getElem? (i := 5) rfl)
theorem dX4_jumpHere_10 : decode cX4_jumpHere 10 = .ok (.if_icmp .ge 16, 3) := dgX4_jumpHere_0 (10, (.if_icmp .ge 16, 3)) (List.mem_of_getElem? (i := 6) rfl)
theorem dX4_jumpHere_13 : decode cX4_jumpHere 13 = .ok (.aload_n 0, 1) := dgX4_jumpHere_0 (13, (.aload_n 0, 1)) (List.mem_of_getElem? (i := 7) rfl)
theorem dX4_jumpHere_14 : decode cX4_jumpHere 14 = .ok (.getfield 25, 3) := dgX4_jumpHere_0 (14, (.getfield 25, 3)) (List.mem_of_getElem? (i := 8) rfl)
theorem dX4_jumpHere_17 : decode cX4_jumpHere 17 = .ok (.iload_n 1, 1) := dgX4_jumpHere_0 (17, (.iload_n 1, 1)) (List.mem_of_getElem? (i := 9) rfl)
theorem dX4_jumpHere_18 : decode cX4_jumpHere 18 = .ok (.dup2, 1) := dgX4_jumpHere_0 (18, (.dup2, 1)) (List.mem_of_getElem? (i := 10) rfl)
theorem dX4_jumpHere_19 : decode cX4_jumpHere 19 = .ok (.iaload, 1) := dgX4_jumpHere_0 (19, (.iaload, 1)) (List.mem_of_getElem? (i := 11) rfl)
theorem dX4_jumpHere_20 : decode cX4_jumpHere 20 = .ok (.aload_n 0, 1) := dgX4_jumpHere_0 (20, (.aload_n 0, 1)) (List.mem_of_getElem? (i := 12) rfl)
theorem dX4_jumpHere_21 : decode cX4_jumpHere 21 = .ok (.getfield 36, 3) := dgX4_jumpHere_0 (21, (.getfield 36, 3)) (List.mem_of_getElem? (i := 13) rfl)
theorem dX4_jumpHere_24 : decode cX4_jumpHere 24 = .ok (.ior, 1) := dgX4_jumpHere_0 (24, (.ior, 1)) (List.mem_of_getElem? (i := 14) rfl)
theorem dX4_jumpHere_25 : decode cX4_jumpHere 25 = .ok (.iastore, 1) := dgX4_jumpHere_0 (25, (.iastore, 1)) (List.mem_of_getElem? (i := 15) rfl)
theorem dX4_jumpHere_26 : decode cX4_jumpHere 26 = .ok (.return_, 1) := dgX4_jumpHere_0 (26, (.return_, 1)) (List.mem_of_getElem? (i := 16) rfl)
theorem fl_X4_25 : Cond.fieldLink RX4 25 "LateGlass$LawReader" "code" "[I" ∈ tblG := tg 421 (by decide +kernel) (by decide +kernel)
theorem fl_X4_36 : Cond.fieldLink RX4 36 "LateGlass$LawReader" "length" "I" ∈ tblG := tg 422 (by decide +kernel) (by decide +kernel)
theorem dgX4_emit_0 : ∀ r ∈ ([(0, (.aload_n 0, 1)), (1, (.getfield 36, 3)), (4, (.aload_n 0, 1)), (5, (.getfield 25, 3)), (8, (.arraylength, 1)), (9, (.if_icmp .lt 5, 3)), (12, (.iconst (-1), 1)), (13, (.ireturn, 1)), (14, (.aload_n 0, 1)), (15, (.getfield 25, 3)), (18, (.aload_n 0, 1)), (19, (.getfield 36, 3)), (22, (.iload_n 1, 1)), (23, (.bipush 12, 2)), (25, (.ishl, 1)), (26, (.iload_n 2, 1)), (27, (.ior, 1)), (28, (.iastore, 1)), (29, (.aload_n 0, 1)), (30, (.dup, 1)), (31, (.getfield 36, 3)), (34, (.iconst 1, 1)), (35, (.iadd, 1)), (36, (.putfield 36, 3)), (39, (.aload_n 0, 1)), (40, (.getfield 36, 3)), (43, (.iconst 1, 1)), (44, (.isub, 1)), (45, (.ireturn, 1))] : List (Nat × (Instr × Nat))), decode cX4_emit r.1 = .ok r.2 := by decide +kernel
theorem dX4_emit_0 : decode cX4_emit 0 = .ok (.aload_n 0, 1) := dgX4_emit_0 (0, (.aload_n 0, 1)) (List.mem_of_getElem? (i := 0) rfl)
theorem dX4_emit_1 : decode cX4_emit 1 = .ok (.getfield 36, 3) := dgX4_emit_0 (1, (.getfield 36, 3)) (List.mem_of_getElem? (i := 1) rfl)
theorem dX4_emit_4 : decode cX4_emit 4 = .ok (.aload_n 0, 1) := dgX4_emit_0 (4, (.aload_n 0, 1)) (List.mem_of_getElem? (i := 2) rfl)
theorem dX4_emit_5 : decode cX4_emit 5 = .ok (.getfield 25, 3) := dgX4_emit_0 (5, (.getfield 25, 3)) (List.mem_of_getElem? (i := 3) rfl)
theorem dX4_emit_8 : decode cX4_emit 8 = .ok (.arraylength, 1) := dgX4_emit_0 (8, (.arraylength, 1)) (List.mem_of_getElem? (i := 4) rfl)
theorem dX4_emit_9 : decode cX4_emit 9 = .ok (.if_icmp .lt 5, 3) := dgX4_emit_0 (9, (.if_icmp .lt 5, 3)) (List.mem_of_getElem? (i := 5) rfl)
theorem dX4_emit_14 : decode cX4_emit 14 = .ok (.aload_n 0, 1) := dgX4_emit_0 (14, (.aload_n 0, 1)) (List.mem_of_getElem? (i := 8) rfl)
theorem dX4_emit_15 : decode cX4_emit 15 = .ok (.getfield 25, 3) := dgX4_emit_0 (15, (.getfield 25, 3)) (List.mem_of_getElem? (i := 9) rfl)
theorem dX4_emit_18 : decode cX4_emit 18 = .ok (.aload_n 0, 1) := dgX4_emit_0 (18, (.aload_n 0, 1)) (List.mem_of_getElem? (i := 10) rfl)
theorem dX4_emit_19 : decode cX4_emit 19 = .ok (.getfield 36, 3) := dgX4_emit_0 (19, (.getfield 36, 3)) (List.mem_of_getElem? (i := 11) rfl)
theorem dX4_emit_22 : decode cX4_emit 22 = .ok (.iload_n 1, 1) := dgX4_emit_0 (22, (.iload_n 1, 1)) (List.mem_of_getElem? (i := 12) rfl)
theorem dX4_emit_23 : decode cX4_emit 23 = .ok (.bipush 12, 2) := dgX4_emit_0 (23, (.bipush 12, 2)) (List.mem_of_getElem? (i := 13) rfl)
theorem dX4_emit_25 : decode cX4_emit 25 = .ok (.ishl, 1) := dgX4_emit_0 (25, (.ishl, 1)) (List.mem_of_getElem? (i := 14) rfl)
theorem dX4_emit_26 : decode cX4_emit 26 = .ok (.iload_n 2, 1) := dgX4_emit_0 (26, (.iload_n 2, 1)) (List.mem_of_getElem? (i := 15) rfl)
theorem dX4_emit_27 : decode cX4_emit 27 = .ok (.ior, 1) := dgX4_emit_0 (27, (.ior, 1)) (List.mem_of_getElem? (i := 16) rfl)
theorem dX4_emit_28 : decode cX4_emit 28 = .ok (.iastore, 1) := dgX4_emit_0 (28, (.iastore, 1)) (List.mem_of_getElem? (i := 17) rfl)
theorem dX4_emit_29 : decode cX4_emit 29 = .ok (.aload_n 0, 1) := dgX4_emit_0 (29, (.aload_n 0, 1)) (List.mem_of_getElem? (i := 18) rfl)
theorem dX4_emit_30 : decode cX4_emit 30 = .ok (.dup, 1) := dgX4_emit_0 (30, (.dup, 1)) (List.mem_of_getElem? (i := 19) rfl)
theorem dX4_emit_31 : decode cX4_emit 31 = .ok (.getfield 36, 3) := dgX4_emit_0 (31, (.getfield 36, 3)) (List.mem_of_getElem? (i := 20) rfl)
theorem dX4_emit_34 : decode cX4_emit 34 = .ok (.iconst 1, 1) := dgX4_emit_0 (34, (.iconst 1, 1)) (List.mem_of_getElem? (i := 21) rfl)
theorem dX4_emit_35 : decode cX4_emit 35 = .ok (.iadd, 1) := dgX4_emit_0 (35, (.iadd, 1)) (List.mem_of_getElem? (i := 22) rfl)
theorem dX4_emit_36 : decode cX4_emit 36 = .ok (.putfield 36, 3) := dgX4_emit_0 (36, (.putfield 36, 3)) (List.mem_of_getElem? (i := 23) rfl)
theorem dX4_emit_39 : decode cX4_emit 39 = .ok (.aload_n 0, 1) := dgX4_emit_0 (39, (.aload_n 0, 1)) (List.mem_of_getElem? (i := 24) rfl)
theorem dX4_emit_40 : decode cX4_emit 40 = .ok (.getfield 36, 3) := dgX4_emit_0 (40, (.getfield 36, 3)) (List.mem_of_getElem? (i := 25) rfl)
theorem dX4_emit_43 : decode cX4_emit 43 = .ok (.iconst 1, 1) := dgX4_emit_0 (43, (.iconst 1, 1)) (List.mem_of_getElem? (i := 26) rfl)
theorem dX4_emit_44 : decode cX4_emit 44 = .ok (.isub, 1) := dgX4_emit_0 (44, (.isub, 1)) (List.mem_of_getElem? (i := 27) rfl)
theorem dX4_emit_45 : decode cX4_emit 45 = .ok (.ireturn, 1) := dgX4_emit_0 (45, (.ireturn, 1)) (List.mem_of_getElem? (i := 28) rfl)
theorem dgX4_readPart_0 : ∀ r ∈ ([(0, (.aload_n 0, 1)), (1, (.bipush 91, 2)), (3, (.invokevirtual 49, 3)), (6, (.ifCond .eq 43, 3)), (9, (.iload_n 1, 1)), (10, (.bipush 8, 2)), (12, (.if_icmp .ge 35, 3)), (15, (.aload_n 0, 1)), (16, (.bipush 91, 2)), (18, (.invokevirtual 63, 3)), (21, (.ifCond .eq 26, 3)), (24, (.aload_n 0, 1)), (25, (.iload_n 1, 1)), (26, (.iconst 1, 1)), (27, (.iadd, 1)), (28, (.invokevirtual 73, 3)), (31, (.ifCond .eq 16, 3)), (34, (.aload_n 0, 1)), (35, (.bipush 93, 2)), (37, (.invokevirtual 63, 3)), (40, (.ifCond .eq 7, 3)), (43, (.iconst 1, 1)), (44, (.goto 4, 3)), (47, (.iconst 0, 1)), (48, (.ireturn, 1)), (49, (.aload_n 0, 1)), (50, (.getfield 12, 3)), (53, (.aload_n 0, 1)), (54, (.getfield 42, 3)), (57, (.invokevirtual 69, 3)), (60, (.sipush 256, 3)), (63, (.isub, 1)), (64, (.bipush 8, 2)), (66, (.isub, 1)), (67, (.istore_n 2, 1)), (68, (.iload_n 2, 1)), (69, (.ifCond .lt 13, 3)), (72, (.iload_n 2, 1)), (73, (.bipush 8, 2)), (75, (.if_icmp .ge 7, 3))] : List (Nat × (Instr × Nat))), decode cX4_readPart r.1 = .ok r.2 := by decide +kernel
theorem dX4_readPart_0 : decode cX4_readPart 0 = .ok (.aload_n 0, 1) := dgX4_readPart_0 (0, (.aload_n 0, 1)) (List.mem_of_getElem? (i := 0) rfl)
theorem dX4_readPart_1 : decode cX4_readPart 1 = .ok (.bipush 91, 2) := dgX4_readPart_0 (1, (.bipush 91, 2)) (List.mem_of_getElem? (i := 1) rfl)
theorem dX4_readPart_3 : decode cX4_readPart 3 = .ok (.invokevirtual 49, 3) := dgX4_readPart_0 (3, (.invokevirtual 49, 3)) (List.mem_of_getElem? (i := 2) rfl)
theorem dX4_readPart_6 : decode cX4_readPart 6 = .ok (.ifCond .eq 43, 3) := dgX4_readPart_0 (6, (.ifCond .eq 43, 3)) (List.mem_of_getElem? (i := 3) rfl)
theorem dX4_readPart_9 : decode cX4_readPart 9 = .ok (.iload_n 1, 1) := dgX4_readPart_0 (9, (.iload_n 1, 1)) (List.mem_of_getElem? (i := 4) rfl)
theorem dX4_readPart_10 : decode cX4_readPart 10 = .ok (.bipush 8, 2) := dgX4_readPart_0 (10, (.bipush 8, 2)) (List.mem_of_getElem? (i := 5) rfl)
theorem dX4_readPart_12 : decode cX4_readPart 12 = .ok (.if_icmp .ge 35, 3) := dgX4_readPart_0 (12, (.if_icmp .ge 35, 3)) (List.mem_of_getElem? (i := 6) rfl)
theorem dX4_readPart_15 : decode cX4_readPart 15 = .ok (.aload_n 0, 1) := dgX4_readPart_0 (15, (.aload_n 0, 1)) (List.mem_of_getElem? (i := 7) rfl)
theorem dX4_readPart_16 : decode cX4_readPart 16 = .ok (.bipush 91, 2) := dgX4_readPart_0 (16, (.bipush 91, 2)) (List.mem_of_getElem? (i := 8) rfl)
theorem dX4_readPart_18 : decode cX4_readPart 18 = .ok (.invokevirtual 63, 3) := dgX4_readPart_0 (18, (.invokevirtual 63, 3)) (List.mem_of_getElem? (i := 9) rfl)
theorem dX4_readPart_21 : decode cX4_readPart 21 = .ok (.ifCond .eq 26, 3) := dgX4_readPart_0 (21, (.ifCond .eq 26, 3)) (List.mem_of_getElem? (i := 10) rfl)
theorem dX4_readPart_24 : decode cX4_readPart 24 = .ok (.aload_n 0, 1) := dgX4_readPart_0 (24, (.aload_n 0, 1)) (List.mem_of_getElem? (i := 11) rfl)
theorem dX4_readPart_25 : decode cX4_readPart 25 = .ok (.iload_n 1, 1) := dgX4_readPart_0 (25, (.iload_n 1, 1)) (List.mem_of_getElem? (i := 12) rfl)
theorem dX4_readPart_26 : decode cX4_readPart 26 = .ok (.iconst 1, 1) := dgX4_readPart_0 (26, (.iconst 1, 1)) (List.mem_of_getElem? (i := 13) rfl)
theorem dX4_readPart_27 : decode cX4_readPart 27 = .ok (.iadd, 1) := dgX4_readPart_0 (27, (.iadd, 1)) (List.mem_of_getElem? (i := 14) rfl)
theorem dX4_readPart_28 : decode cX4_readPart 28 = .ok (.invokevirtual 73, 3) := dgX4_readPart_0 (28, (.invokevirtual 73, 3)) (List.mem_of_getElem? (i := 15) rfl)
theorem dX4_readPart_31 : decode cX4_readPart 31 = .ok (.ifCond .eq 16, 3) := dgX4_readPart_0 (31, (.ifCond .eq 16, 3)) (List.mem_of_getElem? (i := 16) rfl)
theorem dX4_readPart_34 : decode cX4_readPart 34 = .ok (.aload_n 0, 1) := dgX4_readPart_0 (34, (.aload_n 0, 1)) (List.mem_of_getElem? (i := 17) rfl)
theorem dX4_readPart_35 : decode cX4_readPart 35 = .ok (.bipush 93, 2) := dgX4_readPart_0 (35, (.bipush 93, 2)) (List.mem_of_getElem? (i := 18) rfl)
theorem dX4_readPart_37 : decode cX4_readPart 37 = .ok (.invokevirtual 63, 3) := dgX4_readPart_0 (37, (.invokevirtual 63, 3)) (List.mem_of_getElem? (i := 19) rfl)
theorem dX4_readPart_40 : decode cX4_readPart 40 = .ok (.ifCond .eq 7, 3) := dgX4_readPart_0 (40, (.ifCond .eq 7, 3)) (List.mem_of_getElem? (i := 20) rfl)
theorem dX4_readPart_43 : decode cX4_readPart 43 = .ok (.iconst 1, 1) := dgX4_readPart_0 (43, (.iconst 1, 1)) (List.mem_of_getElem? (i := 21) rfl)
theorem dX4_readPart_44 : decode cX4_readPart 44 = .ok (.goto 4, 3) := dgX4_readPart_0 (44, (.goto 4, 3)) (List.mem_of_getElem? (i := 22) rfl)
theorem dX4_readPart_47 : decode cX4_readPart 47 = .ok (.iconst 0, 1) := dgX4_readPart_0 (47, (.iconst 0, 1)) (List.mem_of_getElem? (i := 23) rfl)
theorem dX4_readPart_48 : decode cX4_readPart 48 = .ok (.ireturn, 1) := dgX4_readPart_0 (48, (.ireturn, 1)) (List.mem_of_getElem? (i := 24) rfl)
theorem dX4_readPart_49 : decode cX4_readPart 49 = .ok (.aload_n 0, 1) := dgX4_readPart_0 (49, (.aload_n 0, 1)) (List.mem_of_getElem? (i := 25) rfl)
theorem dX4_readPart_50 : decode cX4_readPart 50 = .ok (.getfield 12, 3) := dgX4_readPart_0 (50, (.getfield 12, 3)) (List.mem_of_getElem? (i := 26) rfl)
theorem dX4_readPart_53 : decode cX4_readPart 53 = .ok (.aload_n 0, 1) := dgX4_readPart_0 (53, (.aload_n 0, 1)) (List.mem_of_getElem? (i := 27) rfl)
theorem dX4_readPart_54 : decode cX4_readPart 54 = .ok (.getfield 42, 3) := dgX4_readPart_0 (54, (.getfield 42, 3)) (List.mem_of_getElem? (i := 28) rfl)
theorem dX4_readPart_57 : decode cX4_readPart 57 = .ok (.invokevirtual 69, 3) := dgX4_readPart_0 (57, (.invokevirtual 69, 3)) (List.mem_of_getElem? (i := 29) rfl)
theorem dX4_readPart_60 : decode cX4_readPart 60 = .ok (.sipush 256, 3) := dgX4_readPart_0 (60, (.sipush 256, 3)) (List.mem_of_getElem? (i := 30) rfl)
theorem dX4_readPart_63 : decode cX4_readPart 63 = .ok (.isub, 1) := dgX4_readPart_0 (63, (.isub, 1)) (List.mem_of_getElem? (i := 31) rfl)
theorem dX4_readPart_64 : decode cX4_readPart 64 = .ok (.bipush 8, 2) := dgX4_readPart_0 (64, (.bipush 8, 2)) (List.mem_of_getElem? (i := 32) rfl)
theorem dX4_readPart_66 : decode cX4_readPart 66 = .ok (.isub, 1) := dgX4_readPart_0 (66, (.isub, 1)) (List.mem_of_getElem? (i := 33) rfl)
theorem dX4_readPart_67 : decode cX4_readPart 67 = .ok (.istore_n 2, 1) := dgX4_readPart_0 (67, (.istore_n 2, 1)) (List.mem_of_getElem? (i := 34) rfl)
theorem dX4_readPart_68 : decode cX4_readPart 68 = .ok (.iload_n 2, 1) := dgX4_readPart_0 (68, (.iload_n 2, 1)) (List.mem_of_getElem? (i := 35) rfl)
theorem dX4_readPart_69 : decode cX4_readPart 69 = .ok (.ifCond .lt 13, 3) := dgX4_readPart_0 (69, (.ifCond .lt 13, 3)) (List.mem_of_getElem? (i := 36) rfl)
theorem dX4_readPart_72 : decode cX4_readPart 72 = .ok (.iload_n 2, 1) := dgX4_readPart_0 (72, (.iload_n 2, 1)) (List.mem_of_getElem? (i := 37) rfl)
theorem dX4_readPart_73 : decode cX4_readPart 73 = .ok (.bipush 8, 2) := dgX4_readPart_0 (73, (.bipush 8, 2)) (List.mem_of_getElem? (i := 38) rfl)
theorem dX4_readPart_75 : decode cX4_readPart 75 = .ok (.if_icmp .ge 7, 3) := dgX4_readPart_0 (75, (.if_icmp .ge 7, 3)) (List.mem_of_getElem? (i := 39) rfl)
theorem dgX4_readPart_1 : ∀ r ∈ ([(78, (.iconst 1, 1)), (79, (.goto 4, 3)), (82, (.iconst 0, 1)), (83, (.istore_n 3, 1)), (84, (.iload_n 3, 1)), (85, (.ifCond .ne 13, 3)), (88, (.aload_n 0, 1)), (89, (.sipush 300, 3)), (92, (.invokevirtual 49, 3)), (95, (.ifCond .eq 12, 3)), (98, (.aload_n 0, 1)), (99, (.getfield 39, 3)), (102, (.bipush 50, 2)), (104, (.if_icmp .lt 5, 3)), (107, (.iconst 0, 1)), (108, (.ireturn, 1)), (109, (.aload_n 0, 1)), (110, (.iload_n 3, 1)), (111, (.ifCond .eq 7, 3)), (114, (.iconst 1, 1)), (115, (.goto 4, 3)), (118, (.iconst 0, 1)), (119, (.iload_n 3, 1)), (120, (.ifCond .eq 7, 3)), (123, (.iload_n 2, 1)), (124, (.goto 15, 3)), (127, (.aload_n 0, 1)), (128, (.getfield 12, 3)), (131, (.getfield 93, 3)), (134, (.aload_n 0, 1)), (135, (.getfield 42, 3)), (138, (.iaload, 1)), (139, (.invokevirtual 79, 3)), (142, (.pop, 1)), (143, (.aload_n 0, 1)), (144, (.dup, 1)), (145, (.getfield 39, 3)), (148, (.iconst 1, 1)), (149, (.iadd, 1)), (150, (.putfield 39, 3))] : List (Nat × (Instr × Nat))), decode cX4_readPart r.1 = .ok r.2 := by decide +kernel
theorem dX4_readPart_78 : decode cX4_readPart 78 = .ok (.iconst 1, 1) := dgX4_readPart_1 (78, (.iconst 1, 1)) (List.mem_of_getElem? (i := 0) rfl)
theorem dX4_readPart_79 : decode cX4_readPart 79 = .ok (.goto 4, 3) := dgX4_readPart_1 (79, (.goto 4, 3)) (List.mem_of_getElem? (i := 1) rfl)
theorem dX4_readPart_82 : decode cX4_readPart 82 = .ok (.iconst 0, 1) := dgX4_readPart_1 (82, (.iconst 0, 1)) (List.mem_of_getElem? (i := 2) rfl)
theorem dX4_readPart_83 : decode cX4_readPart 83 = .ok (.istore_n 3, 1) := dgX4_readPart_1 (83, (.istore_n 3, 1)) (List.mem_of_getElem? (i := 3) rfl)
theorem dX4_readPart_84 : decode cX4_readPart 84 = .ok (.iload_n 3, 1) := dgX4_readPart_1 (84, (.iload_n 3, 1)) (List.mem_of_getElem? (i := 4) rfl)
theorem dX4_readPart_85 : decode cX4_readPart 85 = .ok (.ifCond .ne 13, 3) := dgX4_readPart_1 (85, (.ifCond .ne 13, 3)) (List.mem_of_getElem? (i := 5) rfl)
theorem dX4_readPart_88 : decode cX4_readPart 88 = .ok (.aload_n 0, 1) := dgX4_readPart_1 (88, (.aload_n 0, 1)) (List.mem_of_getElem? (i := 6) rfl)
theorem dX4_readPart_89 : decode cX4_readPart 89 = .ok (.sipush 300, 3) := dgX4_readPart_1 (89, (.sipush 300, 3)) (List.mem_of_getElem? (i := 7) rfl)
theorem dX4_readPart_92 : decode cX4_readPart 92 = .ok (.invokevirtual 49, 3) := dgX4_readPart_1 (92, (.invokevirtual 49, 3)) (List.mem_of_getElem? (i := 8) rfl)
theorem dX4_readPart_95 : decode cX4_readPart 95 = .ok (.ifCond .eq 12, 3) := dgX4_readPart_1 (95, (.ifCond .eq 12, 3)) (List.mem_of_getElem? (i := 9) rfl)
theorem dX4_readPart_98 : decode cX4_readPart 98 = .ok (.aload_n 0, 1) := dgX4_readPart_1 (98, (.aload_n 0, 1)) (List.mem_of_getElem? (i := 10) rfl)
theorem dX4_readPart_99 : decode cX4_readPart 99 = .ok (.getfield 39, 3) := dgX4_readPart_1 (99, (.getfield 39, 3)) (List.mem_of_getElem? (i := 11) rfl)
theorem dX4_readPart_102 : decode cX4_readPart 102 = .ok (.bipush 50, 2) := dgX4_readPart_1 (102, (.bipush 50, 2)) (List.mem_of_getElem? (i := 12) rfl)
theorem dX4_readPart_104 : decode cX4_readPart 104 = .ok (.if_icmp .lt 5, 3) := dgX4_readPart_1 (104, (.if_icmp .lt 5, 3)) (List.mem_of_getElem? (i := 13) rfl)
theorem dX4_readPart_107 : decode cX4_readPart 107 = .ok (.iconst 0, 1) := dgX4_readPart_1 (107, (.iconst 0, 1)) (List.mem_of_getElem? (i := 14) rfl)
theorem dX4_readPart_108 : decode cX4_readPart 108 = .ok (.ireturn, 1) := dgX4_readPart_1 (108, (.ireturn, 1)) (List.mem_of_getElem? (i := 15) rfl)
theorem dX4_readPart_109 : decode cX4_readPart 109 = .ok (.aload_n 0, 1) := dgX4_readPart_1 (109, (.aload_n 0, 1)) (List.mem_of_getElem? (i := 16) rfl)
theorem dX4_readPart_110 : decode cX4_readPart 110 = .ok (.iload_n 3, 1) := dgX4_readPart_1 (110, (.iload_n 3, 1)) (List.mem_of_getElem? (i := 17) rfl)
theorem dX4_readPart_111 : decode cX4_readPart 111 = .ok (.ifCond .eq 7, 3) := dgX4_readPart_1 (111, (.ifCond .eq 7, 3)) (List.mem_of_getElem? (i := 18) rfl)
theorem dX4_readPart_114 : decode cX4_readPart 114 = .ok (.iconst 1, 1) := dgX4_readPart_1 (114, (.iconst 1, 1)) (List.mem_of_getElem? (i := 19) rfl)
theorem dX4_readPart_115 : decode cX4_readPart 115 = .ok (.goto 4, 3) := dgX4_readPart_1 (115, (.goto 4, 3)) (List.mem_of_getElem? (i := 20) rfl)
theorem dX4_readPart_118 : decode cX4_readPart 118 = .ok (.iconst 0, 1) := dgX4_readPart_1 (118, (.iconst 0, 1)) (List.mem_of_getElem? (i := 21) rfl)
theorem dX4_readPart_119 : decode cX4_readPart 119 = .ok (.iload_n 3, 1) := dgX4_readPart_1 (119, (.iload_n 3, 1)) (List.mem_of_getElem? (i := 22) rfl)
theorem dX4_readPart_120 : decode cX4_readPart 120 = .ok (.ifCond .eq 7, 3) := dgX4_readPart_1 (120, (.ifCond .eq 7, 3)) (List.mem_of_getElem? (i := 23) rfl)
theorem dX4_readPart_123 : decode cX4_readPart 123 = .ok (.iload_n 2, 1) := dgX4_readPart_1 (123, (.iload_n 2, 1)) (List.mem_of_getElem? (i := 24) rfl)
theorem dX4_readPart_124 : decode cX4_readPart 124 = .ok (.goto 15, 3) := dgX4_readPart_1 (124, (.goto 15, 3)) (List.mem_of_getElem? (i := 25) rfl)
theorem dX4_readPart_127 : decode cX4_readPart 127 = .ok (.aload_n 0, 1) := dgX4_readPart_1 (127, (.aload_n 0, 1)) (List.mem_of_getElem? (i := 26) rfl)
theorem dX4_readPart_128 : decode cX4_readPart 128 = .ok (.getfield 12, 3) := dgX4_readPart_1 (128, (.getfield 12, 3)) (List.mem_of_getElem? (i := 27) rfl)
theorem dX4_readPart_131 : decode cX4_readPart 131 = .ok (.getfield 93, 3) := dgX4_readPart_1 (131, (.getfield 93, 3)) (List.mem_of_getElem? (i := 28) rfl)
theorem dX4_readPart_134 : decode cX4_readPart 134 = .ok (.aload_n 0, 1) := dgX4_readPart_1 (134, (.aload_n 0, 1)) (List.mem_of_getElem? (i := 29) rfl)
theorem dX4_readPart_135 : decode cX4_readPart 135 = .ok (.getfield 42, 3) := dgX4_readPart_1 (135, (.getfield 42, 3)) (List.mem_of_getElem? (i := 30) rfl)
theorem dX4_readPart_138 : decode cX4_readPart 138 = .ok (.iaload, 1) := dgX4_readPart_1 (138, (.iaload, 1)) (List.mem_of_getElem? (i := 31) rfl)
theorem dX4_readPart_139 : decode cX4_readPart 139 = .ok (.invokevirtual 79, 3) := dgX4_readPart_1 (139, (.invokevirtual 79, 3)) (List.mem_of_getElem? (i := 32) rfl)
theorem dX4_readPart_142 : decode cX4_readPart 142 = .ok (.pop, 1) := dgX4_readPart_1 (142, (.pop, 1)) (List.mem_of_getElem? (i := 33) rfl)
theorem dX4_readPart_143 : decode cX4_readPart 143 = .ok (.aload_n 0, 1) := dgX4_readPart_1 (143, (.aload_n 0, 1)) (List.mem_of_getElem? (i := 34) rfl)
theorem dX4_readPart_144 : decode cX4_readPart 144 = .ok (.dup, 1) := dgX4_readPart_1 (144, (.dup, 1)) (List.mem_of_getElem? (i := 35) rfl)
theorem dX4_readPart_145 : decode cX4_readPart 145 = .ok (.getfield 39, 3) := dgX4_readPart_1 (145, (.getfield 39, 3)) (List.mem_of_getElem? (i := 36) rfl)
theorem dX4_readPart_148 : decode cX4_readPart 148 = .ok (.iconst 1, 1) := dgX4_readPart_1 (148, (.iconst 1, 1)) (List.mem_of_getElem? (i := 37) rfl)
theorem dX4_readPart_149 : decode cX4_readPart 149 = .ok (.iadd, 1) := dgX4_readPart_1 (149, (.iadd, 1)) (List.mem_of_getElem? (i := 38) rfl)
theorem dX4_readPart_150 : decode cX4_readPart 150 = .ok (.putfield 39, 3) := dgX4_readPart_1 (150, (.putfield 39, 3)) (List.mem_of_getElem? (i := 39) rfl)
theorem dgX4_readPart_2 : ∀ r ∈ ([(153, (.aload_n 0, 1)), (154, (.dup, 1)), (155, (.getfield 42, 3)), (158, (.iconst 1, 1)), (159, (.iadd, 1)), (160, (.putfield 42, 3)), (163, (.iconst 1, 1)), (164, (.ireturn, 1))] : List (Nat × (Instr × Nat))), decode cX4_readPart r.1 = .ok r.2 := by decide +kernel
theorem dX4_readPart_153 : decode cX4_readPart 153 = .ok (.aload_n 0, 1) := dgX4_readPart_2 (153, (.aload_n 0, 1)) (List.mem_of_getElem? (i := 0) rfl)
theorem dX4_readPart_154 : decode cX4_readPart 154 = .ok (.dup, 1) := dgX4_readPart_2 (154, (.dup, 1)) (List.mem_of_getElem? (i := 1) rfl)
theorem dX4_readPart_155 : decode cX4_readPart 155 = .ok (.getfield 42, 3) := dgX4_readPart_2 (155, (.getfield 42, 3)) (List.mem_of_getElem? (i := 2) rfl)
theorem dX4_readPart_158 : decode cX4_readPart 158 = .ok (.iconst 1, 1) := dgX4_readPart_2 (158, (.iconst 1, 1)) (List.mem_of_getElem? (i := 3) rfl)
theorem dX4_readPart_159 : decode cX4_readPart 159 = .ok (.iadd, 1) := dgX4_readPart_2 (159, (.iadd, 1)) (List.mem_of_getElem? (i := 4) rfl)
theorem dX4_readPart_160 : decode cX4_readPart 160 = .ok (.putfield 42, 3) := dgX4_readPart_2 (160, (.putfield 42, 3)) (List.mem_of_getElem? (i := 5) rfl)
theorem dX4_readPart_163 : decode cX4_readPart 163 = .ok (.iconst 1, 1) := dgX4_readPart_2 (163, (.iconst 1, 1)) (List.mem_of_getElem? (i := 6) rfl)
theorem dX4_readPart_164 : decode cX4_readPart 164 = .ok (.ireturn, 1) := dgX4_readPart_2 (164, (.ireturn, 1)) (List.mem_of_getElem? (i := 7) rfl)
theorem ml_X4_49 : Cond.methodLink RX4 49 yX4_isNext ∈ tblG := tg 732 (by decide +kernel) (by decide +kernel)
theorem im_X4_isNext : Cond.instanceMethod yX4_isNext ∈ tblG := tg 734 (by decide +kernel) (by decide +kernel)
theorem se_X4_isNext : Cond.selects RX4 yX4_isNext yX4_isNext ∈ tblG := tg 7 (by decide +kernel) (by decide +kernel)
theorem ini_X4 : Cond.initialized RX4 ∈ tblG := tg 97 (by decide +kernel) (by decide +kernel)
theorem cd_X4_isNext : Cond.code yX4_isNext cX4_isNext 2 (some .boolean) ∈ tblG := tg 735 (by decide +kernel) (by decide +kernel)
theorem gW_X4_isNext : GoodIn tblG (wsG yX4_isNext cX4_isNext 2 (some .boolean)) := tgi cd_X4_isNext
theorem gV_X4_49 : GoodIn tblG (wsV RX4 49 RX4 yX4_isNext (wsG yX4_isNext cX4_isNext 2 (some .boolean))) := tgV ml_X4_49 im_X4_isNext se_X4_isNext ini_X4 gW_X4_isNext
theorem hv_X4_isNext : yX4_isNext.cls = RX4 ∧ yX4_isNext.cls ≠ "java/lang/invoke/MethodHandle" ∧ yX4_isNext.cls ≠ "java/lang/invoke/VarHandle" ∧ (parseMethodDescriptor yX4_isNext.desc).map (fun d => d.parameters.length) = some 1 := by decide +kernel
theorem ml_X4_63 : Cond.methodLink RX4 63 yX4_passed ∈ tblG := tg 736 (by decide +kernel) (by decide +kernel)
theorem im_X4_passed : Cond.instanceMethod yX4_passed ∈ tblG := tg 738 (by decide +kernel) (by decide +kernel)
theorem se_X4_passed : Cond.selects RX4 yX4_passed yX4_passed ∈ tblG := tg 8 (by decide +kernel) (by decide +kernel)
theorem cd_X4_passed : Cond.code yX4_passed cX4_passed 3 (some .boolean) ∈ tblG := tg 739 (by decide +kernel) (by decide +kernel)
theorem gW_X4_passed : GoodIn tblG (wsG yX4_passed cX4_passed 3 (some .boolean)) := tgi cd_X4_passed
theorem gV_X4_63 : GoodIn tblG (wsV RX4 63 RX4 yX4_passed (wsG yX4_passed cX4_passed 3 (some .boolean))) := tgV ml_X4_63 im_X4_passed se_X4_passed ini_X4 gW_X4_passed
theorem hv_X4_passed : yX4_passed.cls = RX4 ∧ yX4_passed.cls ≠ "java/lang/invoke/MethodHandle" ∧ yX4_passed.cls ≠ "java/lang/invoke/VarHandle" ∧ (parseMethodDescriptor yX4_passed.desc).map (fun d => d.parameters.length) = some 1 := by decide +kernel
theorem ml_X4_73 : Cond.methodLink RX4 73 yX4_readSum ∈ tblG := tg 724 (by decide +kernel) (by decide +kernel)
theorem im_X4_readSum : Cond.instanceMethod yX4_readSum ∈ tblG := tg 726 (by decide +kernel) (by decide +kernel)
theorem se_X4_readSum : Cond.selects RX4 yX4_readSum yX4_readSum ∈ tblG := tg 5 (by decide +kernel) (by decide +kernel)
theorem cd_X4_readSum : Cond.code yX4_readSum cX4_readSum 6 (some .boolean) ∈ tblG := tg 727 (by decide +kernel) (by decide +kernel)
theorem gW_X4_readSum : GoodIn tblG (wsG yX4_readSum cX4_readSum 6 (some .boolean)) := tgi cd_X4_readSum
theorem gV_X4_73 : GoodIn tblG (wsV RX4 73 RX4 yX4_readSum (wsG yX4_readSum cX4_readSum 6 (some .boolean))) := tgV ml_X4_73 im_X4_readSum se_X4_readSum ini_X4 gW_X4_readSum
theorem hv_X4_readSum : yX4_readSum.cls = RX4 ∧ yX4_readSum.cls ≠ "java/lang/invoke/MethodHandle" ∧ yX4_readSum.cls ≠ "java/lang/invoke/VarHandle" ∧ (parseMethodDescriptor yX4_readSum.desc).map (fun d => d.parameters.length) = some 1 := by decide +kernel
theorem ml_X4_69 : Cond.methodLink RX4 69 yX8_kindAt ∈ tblG := tg 720 (by decide +kernel) (by decide +kernel)
theorem im_X8_kindAt : Cond.instanceMethod yX8_kindAt ∈ tblG := tg 721 (by decide +kernel) (by decide +kernel)
theorem se_X8_kindAt : Cond.selects RX8 yX8_kindAt yX8_kindAt ∈ tblG := tg 722 (by decide +kernel) (by decide +kernel)
theorem cd_X8_kindAt : Cond.code yX8_kindAt cX8_kindAt 2 (some .int) ∈ tblG := tg 723 (by decide +kernel) (by decide +kernel)
theorem gW_X8_kindAt : GoodIn tblG (wsG yX8_kindAt cX8_kindAt 2 (some .int)) := tgi cd_X8_kindAt
theorem gV_X4_69 : GoodIn tblG (wsV RX4 69 RX8 yX8_kindAt (wsG yX8_kindAt cX8_kindAt 2 (some .int))) := tgV ml_X4_69 im_X8_kindAt se_X8_kindAt ini_X8 gW_X8_kindAt
theorem hv_X8_kindAt : yX8_kindAt.cls = RX8 ∧ yX8_kindAt.cls ≠ "java/lang/invoke/MethodHandle" ∧ yX8_kindAt.cls ≠ "java/lang/invoke/VarHandle" ∧ (parseMethodDescriptor yX8_kindAt.desc).map (fun d => d.parameters.length) = some 1 := by decide +kernel
theorem fl_X4_39 : Cond.fieldLink RX4 39 "LateGlass$LawReader" "parts" "I" ∈ tblG := tg 423 (by decide +kernel) (by decide +kernel)
theorem fl_X4_93 : Cond.fieldLink RX4 93 "LateGlass$Tokens" "numbers" "[I" ∈ tblG := tg 408 (by decide +kernel) (by decide +kernel)
theorem ml_X4_79 : Cond.methodLink RX4 79 yX4_emit ∈ tblG := tg 740 (by decide +kernel) (by decide +kernel)
theorem im_X4_emit : Cond.instanceMethod yX4_emit ∈ tblG := tg 742 (by decide +kernel) (by decide +kernel)
theorem se_X4_emit : Cond.selects RX4 yX4_emit yX4_emit ∈ tblG := tg 9 (by decide +kernel) (by decide +kernel)
theorem cd_X4_emit : Cond.code yX4_emit cX4_emit 3 (some .int) ∈ tblG := tg 743 (by decide +kernel) (by decide +kernel)
theorem gW_X4_emit : GoodIn tblG (wsG yX4_emit cX4_emit 3 (some .int)) := tgi cd_X4_emit
theorem gV_X4_79 : GoodIn tblG (wsV RX4 79 RX4 yX4_emit (wsG yX4_emit cX4_emit 3 (some .int))) := tgV ml_X4_79 im_X4_emit se_X4_emit ini_X4 gW_X4_emit
theorem hv_X4_emit : yX4_emit.cls = RX4 ∧ yX4_emit.cls ≠ "java/lang/invoke/MethodHandle" ∧ yX4_emit.cls ≠ "java/lang/invoke/VarHandle" ∧ (parseMethodDescriptor yX4_emit.desc).map (fun d => d.parameters.length) = some 2 := by decide +kernel
theorem dgX4_readSum_0 : ∀ r ∈ ([(0, (.aload_n 0, 1)), (1, (.iload_n 1, 1)), (2, (.invokevirtual 90, 3)), (5, (.ifCond .ne 5, 3)), (8, (.iconst 0, 1)), (9, (.ireturn, 1)), (10, (.iconst (-1), 1)), (11, (.istore_n 2, 1)), (12, (.iconst 0, 1)), (13, (.istore_n 3, 1)), (14, (.iload_n 3, 1)), (15, (.sipush 400, 3)), (18, (.if_icmp .ge 153, 3)), (21, (.aload_n 0, 1)), (22, (.bipush 43, 2)), (24, (.invokevirtual 49, 3)), (27, (.ifCond .eq 7, 3)), (30, (.iconst 2, 1)), (31, (.goto 43, 3)), (34, (.aload_n 0, 1)), (35, (.bipush 45, 2)), (37, (.invokevirtual 49, 3)), (40, (.ifCond .eq 7, 3)), (43, (.iconst 3, 1)), (44, (.goto 30, 3)), (47, (.aload_n 0, 1)), (48, (.bipush 42, 2)), (50, (.invokevirtual 49, 3)), (53, (.ifCond .eq 7, 3)), (56, (.iconst 4, 1)), (57, (.goto 17, 3)), (60, (.aload_n 0, 1)), (61, (.bipush 47, 2)), (63, (.invokevirtual 49, 3)), (66, (.ifCond .eq 7, 3)), (69, (.iconst 5, 1)), (70, (.goto 4, 3)), (73, (.iconst (-1), 1)), (74, (.istore 4, 2)), (76, (.iload 4, 2))] : List (Nat × (Instr × Nat))), decode cX4_readSum r.1 = .ok r.2 := by decide +kernel
theorem dX4_readSum_0 : decode cX4_readSum 0 = .ok (.aload_n 0, 1) := dgX4_readSum_0 (0, (.aload_n 0, 1)) (List.mem_of_getElem? (i := 0) rfl)
theorem dX4_readSum_1 : decode cX4_readSum 1 = .ok (.iload_n 1, 1) := dgX4_readSum_0 (1, (.iload_n 1, 1)) (List.mem_of_getElem? (i := 1) rfl)
theorem dX4_readSum_2 : decode cX4_readSum 2 = .ok (.invokevirtual 90, 3) := dgX4_readSum_0 (2, (.invokevirtual 90, 3)) (List.mem_of_getElem? (i := 2) rfl)
theorem dX4_readSum_5 : decode cX4_readSum 5 = .ok (.ifCond .ne 5, 3) := dgX4_readSum_0 (5, (.ifCond .ne 5, 3)) (List.mem_of_getElem? (i := 3) rfl)
theorem dX4_readSum_8 : decode cX4_readSum 8 = .ok (.iconst 0, 1) := dgX4_readSum_0 (8, (.iconst 0, 1)) (List.mem_of_getElem? (i := 4) rfl)
theorem dX4_readSum_9 : decode cX4_readSum 9 = .ok (.ireturn, 1) := dgX4_readSum_0 (9, (.ireturn, 1)) (List.mem_of_getElem? (i := 5) rfl)
theorem dX4_readSum_10 : decode cX4_readSum 10 = .ok (.iconst (-1), 1) := dgX4_readSum_0 (10, (.iconst (-1), 1)) (List.mem_of_getElem? (i := 6) rfl)
theorem dX4_readSum_11 : decode cX4_readSum 11 = .ok (.istore_n 2, 1) := dgX4_readSum_0 (11, (.istore_n 2, 1)) (List.mem_of_getElem? (i := 7) rfl)
theorem dX4_readSum_12 : decode cX4_readSum 12 = .ok (.iconst 0, 1) := dgX4_readSum_0 (12, (.iconst 0, 1)) (List.mem_of_getElem? (i := 8) rfl)
theorem dX4_readSum_13 : decode cX4_readSum 13 = .ok (.istore_n 3, 1) := dgX4_readSum_0 (13, (.istore_n 3, 1)) (List.mem_of_getElem? (i := 9) rfl)
theorem dX4_readSum_14 : decode cX4_readSum 14 = .ok (.iload_n 3, 1) := dgX4_readSum_0 (14, (.iload_n 3, 1)) (List.mem_of_getElem? (i := 10) rfl)
theorem dX4_readSum_15 : decode cX4_readSum 15 = .ok (.sipush 400, 3) := dgX4_readSum_0 (15, (.sipush 400, 3)) (List.mem_of_getElem? (i := 11) rfl)
theorem dX4_readSum_18 : decode cX4_readSum 18 = .ok (.if_icmp .ge 153, 3) := dgX4_readSum_0 (18, (.if_icmp .ge 153, 3)) (List.mem_of_getElem? (i := 12) rfl)
theorem dX4_readSum_21 : decode cX4_readSum 21 = .ok (.aload_n 0, 1) := dgX4_readSum_0 (21, (.aload_n 0, 1)) (List.mem_of_getElem? (i := 13) rfl)
theorem dX4_readSum_22 : decode cX4_readSum 22 = .ok (.bipush 43, 2) := dgX4_readSum_0 (22, (.bipush 43, 2)) (List.mem_of_getElem? (i := 14) rfl)
theorem dX4_readSum_24 : decode cX4_readSum 24 = .ok (.invokevirtual 49, 3) := dgX4_readSum_0 (24, (.invokevirtual 49, 3)) (List.mem_of_getElem? (i := 15) rfl)
theorem dX4_readSum_27 : decode cX4_readSum 27 = .ok (.ifCond .eq 7, 3) := dgX4_readSum_0 (27, (.ifCond .eq 7, 3)) (List.mem_of_getElem? (i := 16) rfl)
theorem dX4_readSum_30 : decode cX4_readSum 30 = .ok (.iconst 2, 1) := dgX4_readSum_0 (30, (.iconst 2, 1)) (List.mem_of_getElem? (i := 17) rfl)
theorem dX4_readSum_31 : decode cX4_readSum 31 = .ok (.goto 43, 3) := dgX4_readSum_0 (31, (.goto 43, 3)) (List.mem_of_getElem? (i := 18) rfl)
theorem dX4_readSum_34 : decode cX4_readSum 34 = .ok (.aload_n 0, 1) := dgX4_readSum_0 (34, (.aload_n 0, 1)) (List.mem_of_getElem? (i := 19) rfl)
theorem dX4_readSum_35 : decode cX4_readSum 35 = .ok (.bipush 45, 2) := dgX4_readSum_0 (35, (.bipush 45, 2)) (List.mem_of_getElem? (i := 20) rfl)
theorem dX4_readSum_37 : decode cX4_readSum 37 = .ok (.invokevirtual 49, 3) := dgX4_readSum_0 (37, (.invokevirtual 49, 3)) (List.mem_of_getElem? (i := 21) rfl)
theorem dX4_readSum_40 : decode cX4_readSum 40 = .ok (.ifCond .eq 7, 3) := dgX4_readSum_0 (40, (.ifCond .eq 7, 3)) (List.mem_of_getElem? (i := 22) rfl)
theorem dX4_readSum_43 : decode cX4_readSum 43 = .ok (.iconst 3, 1) := dgX4_readSum_0 (43, (.iconst 3, 1)) (List.mem_of_getElem? (i := 23) rfl)
theorem dX4_readSum_44 : decode cX4_readSum 44 = .ok (.goto 30, 3) := dgX4_readSum_0 (44, (.goto 30, 3)) (List.mem_of_getElem? (i := 24) rfl)
theorem dX4_readSum_47 : decode cX4_readSum 47 = .ok (.aload_n 0, 1) := dgX4_readSum_0 (47, (.aload_n 0, 1)) (List.mem_of_getElem? (i := 25) rfl)
theorem dX4_readSum_48 : decode cX4_readSum 48 = .ok (.bipush 42, 2) := dgX4_readSum_0 (48, (.bipush 42, 2)) (List.mem_of_getElem? (i := 26) rfl)
theorem dX4_readSum_50 : decode cX4_readSum 50 = .ok (.invokevirtual 49, 3) := dgX4_readSum_0 (50, (.invokevirtual 49, 3)) (List.mem_of_getElem? (i := 27) rfl)
theorem dX4_readSum_53 : decode cX4_readSum 53 = .ok (.ifCond .eq 7, 3) := dgX4_readSum_0 (53, (.ifCond .eq 7, 3)) (List.mem_of_getElem? (i := 28) rfl)
theorem dX4_readSum_56 : decode cX4_readSum 56 = .ok (.iconst 4, 1) := dgX4_readSum_0 (56, (.iconst 4, 1)) (List.mem_of_getElem? (i := 29) rfl)
theorem dX4_readSum_57 : decode cX4_readSum 57 = .ok (.goto 17, 3) := dgX4_readSum_0 (57, (.goto 17, 3)) (List.mem_of_getElem? (i := 30) rfl)
theorem dX4_readSum_60 : decode cX4_readSum 60 = .ok (.aload_n 0, 1) := dgX4_readSum_0 (60, (.aload_n 0, 1)) (List.mem_of_getElem? (i := 31) rfl)
theorem dX4_readSum_61 : decode cX4_readSum 61 = .ok (.bipush 47, 2) := dgX4_readSum_0 (61, (.bipush 47, 2)) (List.mem_of_getElem? (i := 32) rfl)
theorem dX4_readSum_63 : decode cX4_readSum 63 = .ok (.invokevirtual 49, 3) := dgX4_readSum_0 (63, (.invokevirtual 49, 3)) (List.mem_of_getElem? (i := 33) rfl)
theorem dX4_readSum_66 : decode cX4_readSum 66 = .ok (.ifCond .eq 7, 3) := dgX4_readSum_0 (66, (.ifCond .eq 7, 3)) (List.mem_of_getElem? (i := 34) rfl)
theorem dX4_readSum_69 : decode cX4_readSum 69 = .ok (.iconst 5, 1) := dgX4_readSum_0 (69, (.iconst 5, 1)) (List.mem_of_getElem? (i := 35) rfl)
theorem dX4_readSum_70 : decode cX4_readSum 70 = .ok (.goto 4, 3) := dgX4_readSum_0 (70, (.goto 4, 3)) (List.mem_of_getElem? (i := 36) rfl)
theorem dX4_readSum_73 : decode cX4_readSum 73 = .ok (.iconst (-1), 1) := dgX4_readSum_0 (73, (.iconst (-1), 1)) (List.mem_of_getElem? (i := 37) rfl)
theorem dX4_readSum_74 : decode cX4_readSum 74 = .ok (.istore 4, 2) := dgX4_readSum_0 (74, (.istore 4, 2)) (List.mem_of_getElem? (i := 38) rfl)
theorem dX4_readSum_76 : decode cX4_readSum 76 = .ok (.iload 4, 2) := dgX4_readSum_0 (76, (.iload 4, 2)) (List.mem_of_getElem? (i := 39) rfl)
theorem dgX4_readSum_1 : ∀ r ∈ ([(78, (.iconst 2, 1)), (79, (.if_icmp .eq 9, 3)), (82, (.iload 4, 2)), (84, (.iconst 3, 1)), (85, (.if_icmp .ne 7, 3)), (88, (.iconst 1, 1)), (89, (.goto 4, 3)), (92, (.iconst 0, 1)), (93, (.istore 5, 2)), (95, (.iload_n 2, 1)), (96, (.iconst (-1), 1)), (97, (.if_icmp .eq 21, 3)), (100, (.iload 5, 2)), (102, (.ifCond .ne 9, 3)), (105, (.iload 4, 2)), (107, (.iconst (-1), 1)), (108, (.if_icmp .ne 10, 3)), (111, (.aload_n 0, 1)), (112, (.iload_n 2, 1)), (113, (.iconst 0, 1)), (114, (.invokevirtual 79, 3)), (117, (.pop, 1)), (118, (.iload 4, 2)), (120, (.iconst (-1), 1)), (121, (.if_icmp .ne 5, 3)), (124, (.iconst 1, 1)), (125, (.ireturn, 1)), (126, (.aload_n 0, 1)), (127, (.dup, 1)), (128, (.getfield 42, 3)), (131, (.iconst 1, 1)), (132, (.iadd, 1)), (133, (.putfield 42, 3)), (136, (.aload_n 0, 1)), (137, (.iload_n 1, 1)), (138, (.invokevirtual 90, 3)), (141, (.ifCond .ne 5, 3)), (144, (.iconst 0, 1)), (145, (.ireturn, 1)), (146, (.iload 5, 2))] : List (Nat × (Instr × Nat))), decode cX4_readSum r.1 = .ok r.2 := by decide +kernel
theorem dX4_readSum_78 : decode cX4_readSum 78 = .ok (.iconst 2, 1) := dgX4_readSum_1 (78, (.iconst 2, 1)) (List.mem_of_getElem? (i := 0) rfl)
theorem dX4_readSum_79 : decode cX4_readSum 79 = .ok (.if_icmp .eq 9, 3) := dgX4_readSum_1 (79, (.if_icmp .eq 9, 3)) (List.mem_of_getElem? (i := 1) rfl)
theorem dX4_readSum_82 : decode cX4_readSum 82 = .ok (.iload 4, 2) := dgX4_readSum_1 (82, (.iload 4, 2)) (List.mem_of_getElem? (i := 2) rfl)
theorem dX4_readSum_84 : decode cX4_readSum 84 = .ok (.iconst 3, 1) := dgX4_readSum_1 (84, (.iconst 3, 1)) (List.mem_of_getElem? (i := 3) rfl)
theorem dX4_readSum_85 : decode cX4_readSum 85 = .ok (.if_icmp .ne 7, 3) := dgX4_readSum_1 (85, (.if_icmp .ne 7, 3)) (List.mem_of_getElem? (i := 4) rfl)
theorem dX4_readSum_88 : decode cX4_readSum 88 = .ok (.iconst 1, 1) := dgX4_readSum_1 (88, (.iconst 1, 1)) (List.mem_of_getElem? (i := 5) rfl)
theorem dX4_readSum_89 : decode cX4_readSum 89 = .ok (.goto 4, 3) := dgX4_readSum_1 (89, (.goto 4, 3)) (List.mem_of_getElem? (i := 6) rfl)
theorem dX4_readSum_92 : decode cX4_readSum 92 = .ok (.iconst 0, 1) := dgX4_readSum_1 (92, (.iconst 0, 1)) (List.mem_of_getElem? (i := 7) rfl)
theorem dX4_readSum_93 : decode cX4_readSum 93 = .ok (.istore 5, 2) := dgX4_readSum_1 (93, (.istore 5, 2)) (List.mem_of_getElem? (i := 8) rfl)
theorem dX4_readSum_95 : decode cX4_readSum 95 = .ok (.iload_n 2, 1) := dgX4_readSum_1 (95, (.iload_n 2, 1)) (List.mem_of_getElem? (i := 9) rfl)
theorem dX4_readSum_96 : decode cX4_readSum 96 = .ok (.iconst (-1), 1) := dgX4_readSum_1 (96, (.iconst (-1), 1)) (List.mem_of_getElem? (i := 10) rfl)
theorem dX4_readSum_97 : decode cX4_readSum 97 = .ok (.if_icmp .eq 21, 3) := dgX4_readSum_1 (97, (.if_icmp .eq 21, 3)) (List.mem_of_getElem? (i := 11) rfl)
theorem dX4_readSum_100 : decode cX4_readSum 100 = .ok (.iload 5, 2) := dgX4_readSum_1 (100, (.iload 5, 2)) (List.mem_of_getElem? (i := 12) rfl)
theorem dX4_readSum_102 : decode cX4_readSum 102 = .ok (.ifCond .ne 9, 3) := dgX4_readSum_1 (102, (.ifCond .ne 9, 3)) (List.mem_of_getElem? (i := 13) rfl)
theorem dX4_readSum_105 : decode cX4_readSum 105 = .ok (.iload 4, 2) := dgX4_readSum_1 (105, (.iload 4, 2)) (List.mem_of_getElem? (i := 14) rfl)
theorem dX4_readSum_107 : decode cX4_readSum 107 = .ok (.iconst (-1), 1) := dgX4_readSum_1 (107, (.iconst (-1), 1)) (List.mem_of_getElem? (i := 15) rfl)
theorem dX4_readSum_108 : decode cX4_readSum 108 = .ok (.if_icmp .ne 10, 3) := dgX4_readSum_1 (108, (.if_icmp .ne 10, 3)) (List.mem_of_getElem? (i := 16) rfl)
theorem dX4_readSum_111 : decode cX4_readSum 111 = .ok (.aload_n 0, 1) := dgX4_readSum_1 (111, (.aload_n 0, 1)) (List.mem_of_getElem? (i := 17) rfl)
theorem dX4_readSum_112 : decode cX4_readSum 112 = .ok (.iload_n 2, 1) := dgX4_readSum_1 (112, (.iload_n 2, 1)) (List.mem_of_getElem? (i := 18) rfl)
theorem dX4_readSum_113 : decode cX4_readSum 113 = .ok (.iconst 0, 1) := dgX4_readSum_1 (113, (.iconst 0, 1)) (List.mem_of_getElem? (i := 19) rfl)
theorem dX4_readSum_114 : decode cX4_readSum 114 = .ok (.invokevirtual 79, 3) := dgX4_readSum_1 (114, (.invokevirtual 79, 3)) (List.mem_of_getElem? (i := 20) rfl)
theorem dX4_readSum_117 : decode cX4_readSum 117 = .ok (.pop, 1) := dgX4_readSum_1 (117, (.pop, 1)) (List.mem_of_getElem? (i := 21) rfl)
theorem dX4_readSum_118 : decode cX4_readSum 118 = .ok (.iload 4, 2) := dgX4_readSum_1 (118, (.iload 4, 2)) (List.mem_of_getElem? (i := 22) rfl)
theorem dX4_readSum_120 : decode cX4_readSum 120 = .ok (.iconst (-1), 1) := dgX4_readSum_1 (120, (.iconst (-1), 1)) (List.mem_of_getElem? (i := 23) rfl)
theorem dX4_readSum_121 : decode cX4_readSum 121 = .ok (.if_icmp .ne 5, 3) := dgX4_readSum_1 (121, (.if_icmp .ne 5, 3)) (List.mem_of_getElem? (i := 24) rfl)
theorem dX4_readSum_124 : decode cX4_readSum 124 = .ok (.iconst 1, 1) := dgX4_readSum_1 (124, (.iconst 1, 1)) (List.mem_of_getElem? (i := 25) rfl)
theorem dX4_readSum_125 : decode cX4_readSum 125 = .ok (.ireturn, 1) := dgX4_readSum_1 (125, (.ireturn, 1)) (List.mem_of_getElem? (i := 26) rfl)
theorem dX4_readSum_126 : decode cX4_readSum 126 = .ok (.aload_n 0, 1) := dgX4_readSum_1 (126, (.aload_n 0, 1)) (List.mem_of_getElem? (i := 27) rfl)
theorem dX4_readSum_127 : decode cX4_readSum 127 = .ok (.dup, 1) := dgX4_readSum_1 (127, (.dup, 1)) (List.mem_of_getElem? (i := 28) rfl)
theorem dX4_readSum_128 : decode cX4_readSum 128 = .ok (.getfield 42, 3) := dgX4_readSum_1 (128, (.getfield 42, 3)) (List.mem_of_getElem? (i := 29) rfl)
theorem dX4_readSum_131 : decode cX4_readSum 131 = .ok (.iconst 1, 1) := dgX4_readSum_1 (131, (.iconst 1, 1)) (List.mem_of_getElem? (i := 30) rfl)
theorem dX4_readSum_132 : decode cX4_readSum 132 = .ok (.iadd, 1) := dgX4_readSum_1 (132, (.iadd, 1)) (List.mem_of_getElem? (i := 31) rfl)
theorem dX4_readSum_133 : decode cX4_readSum 133 = .ok (.putfield 42, 3) := dgX4_readSum_1 (133, (.putfield 42, 3)) (List.mem_of_getElem? (i := 32) rfl)
theorem dX4_readSum_136 : decode cX4_readSum 136 = .ok (.aload_n 0, 1) := dgX4_readSum_1 (136, (.aload_n 0, 1)) (List.mem_of_getElem? (i := 33) rfl)
theorem dX4_readSum_137 : decode cX4_readSum 137 = .ok (.iload_n 1, 1) := dgX4_readSum_1 (137, (.iload_n 1, 1)) (List.mem_of_getElem? (i := 34) rfl)
theorem dX4_readSum_138 : decode cX4_readSum 138 = .ok (.invokevirtual 90, 3) := dgX4_readSum_1 (138, (.invokevirtual 90, 3)) (List.mem_of_getElem? (i := 35) rfl)
theorem dX4_readSum_141 : decode cX4_readSum 141 = .ok (.ifCond .ne 5, 3) := dgX4_readSum_1 (141, (.ifCond .ne 5, 3)) (List.mem_of_getElem? (i := 36) rfl)
theorem dX4_readSum_144 : decode cX4_readSum 144 = .ok (.iconst 0, 1) := dgX4_readSum_1 (144, (.iconst 0, 1)) (List.mem_of_getElem? (i := 37) rfl)
theorem dX4_readSum_145 : decode cX4_readSum 145 = .ok (.ireturn, 1) := dgX4_readSum_1 (145, (.ireturn, 1)) (List.mem_of_getElem? (i := 38) rfl)
theorem dX4_readSum_146 : decode cX4_readSum 146 = .ok (.iload 5, 2) := dgX4_readSum_1 (146, (.iload 5, 2)) (List.mem_of_getElem? (i := 39) rfl)
theorem dgX4_readSum_2 : ∀ r ∈ ([(148, (.ifCond .eq 9, 3)), (151, (.iload 4, 2)), (153, (.istore_n 2, 1)), (154, (.goto 11, 3)), (157, (.aload_n 0, 1)), (158, (.iload 4, 2)), (160, (.iconst 0, 1)), (161, (.invokevirtual 79, 3)), (164, (.pop, 1)), (165, (.iinc 3 1, 3)), (168, (.goto (-154), 3)), (171, (.iconst 0, 1)), (172, (.ireturn, 1))] : List (Nat × (Instr × Nat))), decode cX4_readSum r.1 = .ok r.2 := by decide +kernel
theorem dX4_readSum_148 : decode cX4_readSum 148 = .ok (.ifCond .eq 9, 3) := dgX4_readSum_2 (148, (.ifCond .eq 9, 3)) (List.mem_of_getElem? (i := 0) rfl)
theorem dX4_readSum_151 : decode cX4_readSum 151 = .ok (.iload 4, 2) := dgX4_readSum_2 (151, (.iload 4, 2)) (List.mem_of_getElem? (i := 1) rfl)
theorem dX4_readSum_153 : decode cX4_readSum 153 = .ok (.istore_n 2, 1) := dgX4_readSum_2 (153, (.istore_n 2, 1)) (List.mem_of_getElem? (i := 2) rfl)
theorem dX4_readSum_154 : decode cX4_readSum 154 = .ok (.goto 11, 3) := dgX4_readSum_2 (154, (.goto 11, 3)) (List.mem_of_getElem? (i := 3) rfl)
theorem dX4_readSum_157 : decode cX4_readSum 157 = .ok (.aload_n 0, 1) := dgX4_readSum_2 (157, (.aload_n 0, 1)) (List.mem_of_getElem? (i := 4) rfl)
theorem dX4_readSum_158 : decode cX4_readSum 158 = .ok (.iload 4, 2) := dgX4_readSum_2 (158, (.iload 4, 2)) (List.mem_of_getElem? (i := 5) rfl)
theorem dX4_readSum_160 : decode cX4_readSum 160 = .ok (.iconst 0, 1) := dgX4_readSum_2 (160, (.iconst 0, 1)) (List.mem_of_getElem? (i := 6) rfl)
theorem dX4_readSum_161 : decode cX4_readSum 161 = .ok (.invokevirtual 79, 3) := dgX4_readSum_2 (161, (.invokevirtual 79, 3)) (List.mem_of_getElem? (i := 7) rfl)
theorem dX4_readSum_164 : decode cX4_readSum 164 = .ok (.pop, 1) := dgX4_readSum_2 (164, (.pop, 1)) (List.mem_of_getElem? (i := 8) rfl)
theorem dX4_readSum_165 : decode cX4_readSum 165 = .ok (.iinc 3 1, 3) := dgX4_readSum_2 (165, (.iinc 3 1, 3)) (List.mem_of_getElem? (i := 9) rfl)
theorem dX4_readSum_168 : decode cX4_readSum 168 = .ok (.goto (-154), 3) := dgX4_readSum_2 (168, (.goto (-154), 3)) (List.mem_of_getElem? (i := 10) rfl)
theorem dX4_readSum_171 : decode cX4_readSum 171 = .ok (.iconst 0, 1) := dgX4_readSum_2 (171, (.iconst 0, 1)) (List.mem_of_getElem? (i := 11) rfl)
theorem dX4_readSum_172 : decode cX4_readSum 172 = .ok (.ireturn, 1) := dgX4_readSum_2 (172, (.ireturn, 1)) (List.mem_of_getElem? (i := 12) rfl)
theorem ml_X4_90 : Cond.methodLink RX4 90 yX4_readPart ∈ tblG := tg 728 (by decide +kernel) (by decide +kernel)
theorem im_X4_readPart : Cond.instanceMethod yX4_readPart ∈ tblG := tg 730 (by decide +kernel) (by decide +kernel)
theorem se_X4_readPart : Cond.selects RX4 yX4_readPart yX4_readPart ∈ tblG := tg 6 (by decide +kernel) (by decide +kernel)
theorem cd_X4_readPart : Cond.code yX4_readPart cX4_readPart 4 (some .boolean) ∈ tblG := tg 731 (by decide +kernel) (by decide +kernel)
theorem gW_X4_readPart : GoodIn tblG (wsG yX4_readPart cX4_readPart 4 (some .boolean)) := tgi cd_X4_readPart
theorem gV_X4_90 : GoodIn tblG (wsV RX4 90 RX4 yX4_readPart (wsG yX4_readPart cX4_readPart 4 (some .boolean))) := tgV ml_X4_90 im_X4_readPart se_X4_readPart ini_X4 gW_X4_readPart
theorem hv_X4_readPart : yX4_readPart.cls = RX4 ∧ yX4_readPart.cls ≠ "java/lang/invoke/MethodHandle" ∧ yX4_readPart.cls ≠ "java/lang/invoke/VarHandle" ∧ (parseMethodDescriptor yX4_readPart.desc).map (fun d => d.parameters.length) = some 1 := by decide +kernel
theorem dgX4_readPlain_0 : ∀ r ∈ ([(0, (.iconst 0, 1)), (1, (.istore_n 2, 1)), (2, (.iconst 0, 1)), (3, (.istore_n 3, 1)), (4, (.iload_n 3, 1)), (5, (.sipush 400, 3)), (8, (.if_icmp .ge 29, 3)), (11, (.aload_n 0, 1)), (12, (.sipush 263, 3)), (15, (.invokevirtual 63, 3)), (18, (.ifCond .eq 19, 3)), (21, (.iload_n 2, 1)), (22, (.ifCond .ne 7, 3)), (25, (.iconst 1, 1)), (26, (.goto 4, 3)), (29, (.iconst 0, 1)), (30, (.istore_n 2, 1)), (31, (.iinc 3 1, 3)), (34, (.goto (-30), 3)), (37, (.aload_n 0, 1)), (38, (.bipush 40, 2)), (40, (.invokevirtual 49, 3)), (43, (.ifCond .eq 39, 3)), (46, (.iload_n 1, 1)), (47, (.bipush 8, 2)), (49, (.if_icmp .ge 31, 3)), (52, (.aload_n 0, 1)), (53, (.bipush 40, 2)), (55, (.invokevirtual 63, 3)), (58, (.ifCond .eq 22, 3)), (61, (.aload_n 0, 1)), (62, (.iload_n 1, 1)), (63, (.iconst 1, 1)), (64, (.iadd, 1)), (65, (.invokevirtual 76, 3)), (68, (.ifCond .eq 12, 3)), (71, (.aload_n 0, 1)), (72, (.bipush 41, 2)), (74, (.invokevirtual 63, 3)), (77, (.ifCond .ne 93, 3))] : List (Nat × (Instr × Nat))), decode cX4_readPlain r.1 = .ok r.2 := by decide +kernel
theorem dX4_readPlain_0 : decode cX4_readPlain 0 = .ok (.iconst 0, 1) := dgX4_readPlain_0 (0, (.iconst 0, 1)) (List.mem_of_getElem? (i := 0) rfl)
theorem dX4_readPlain_1 : decode cX4_readPlain 1 = .ok (.istore_n 2, 1) := dgX4_readPlain_0 (1, (.istore_n 2, 1)) (List.mem_of_getElem? (i := 1) rfl)
theorem dX4_readPlain_2 : decode cX4_readPlain 2 = .ok (.iconst 0, 1) := dgX4_readPlain_0 (2, (.iconst 0, 1)) (List.mem_of_getElem? (i := 2) rfl)
theorem dX4_readPlain_3 : decode cX4_readPlain 3 = .ok (.istore_n 3, 1) := dgX4_readPlain_0 (3, (.istore_n 3, 1)) (List.mem_of_getElem? (i := 3) rfl)
theorem dX4_readPlain_4 : decode cX4_readPlain 4 = .ok (.iload_n 3, 1) := dgX4_readPlain_0 (4, (.iload_n 3, 1)) (List.mem_of_getElem? (i := 4) rfl)
theorem dX4_readPlain_5 : decode cX4_readPlain 5 = .ok (.sipush 400, 3) := dgX4_readPlain_0 (5, (.sipush 400, 3)) (List.mem_of_getElem? (i := 5) rfl)
theorem dX4_readPlain_8 : decode cX4_readPlain 8 = .ok (.if_icmp .ge 29, 3) := dgX4_readPlain_0 (8, (.if_icmp .ge 29, 3)) (List.mem_of_getElem? (i := 6) rfl)
theorem dX4_readPlain_11 : decode cX4_readPlain 11 = .ok (.aload_n 0, 1) := dgX4_readPlain_0 (11, (.aload_n 0, 1)) (List.mem_of_getElem? (i := 7) rfl)
theorem dX4_readPlain_12 : decode cX4_readPlain 12 = .ok (.sipush 263, 3) := dgX4_readPlain_0 (12, (.sipush 263, 3)) (List.mem_of_getElem? (i := 8) rfl)
theorem dX4_readPlain_15 : decode cX4_readPlain 15 = .ok (.invokevirtual 63, 3) := dgX4_readPlain_0 (15, (.invokevirtual 63, 3)) (List.mem_of_getElem? (i := 9) rfl)
theorem dX4_readPlain_18 : decode cX4_readPlain 18 = .ok (.ifCond .eq 19, 3) := dgX4_readPlain_0 (18, (.ifCond .eq 19, 3)) (List.mem_of_getElem? (i := 10) rfl)
theorem dX4_readPlain_21 : decode cX4_readPlain 21 = .ok (.iload_n 2, 1) := dgX4_readPlain_0 (21, (.iload_n 2, 1)) (List.mem_of_getElem? (i := 11) rfl)
theorem dX4_readPlain_22 : decode cX4_readPlain 22 = .ok (.ifCond .ne 7, 3) := dgX4_readPlain_0 (22, (.ifCond .ne 7, 3)) (List.mem_of_getElem? (i := 12) rfl)
theorem dX4_readPlain_25 : decode cX4_readPlain 25 = .ok (.iconst 1, 1) := dgX4_readPlain_0 (25, (.iconst 1, 1)) (List.mem_of_getElem? (i := 13) rfl)
theorem dX4_readPlain_26 : decode cX4_readPlain 26 = .ok (.goto 4, 3) := dgX4_readPlain_0 (26, (.goto 4, 3)) (List.mem_of_getElem? (i := 14) rfl)
theorem dX4_readPlain_29 : decode cX4_readPlain 29 = .ok (.iconst 0, 1) := dgX4_readPlain_0 (29, (.iconst 0, 1)) (List.mem_of_getElem? (i := 15) rfl)
theorem dX4_readPlain_30 : decode cX4_readPlain 30 = .ok (.istore_n 2, 1) := dgX4_readPlain_0 (30, (.istore_n 2, 1)) (List.mem_of_getElem? (i := 16) rfl)
theorem dX4_readPlain_31 : decode cX4_readPlain 31 = .ok (.iinc 3 1, 3) := dgX4_readPlain_0 (31, (.iinc 3 1, 3)) (List.mem_of_getElem? (i := 17) rfl)
theorem dX4_readPlain_34 : decode cX4_readPlain 34 = .ok (.goto (-30), 3) := dgX4_readPlain_0 (34, (.goto (-30), 3)) (List.mem_of_getElem? (i := 18) rfl)
theorem dX4_readPlain_37 : decode cX4_readPlain 37 = .ok (.aload_n 0, 1) := dgX4_readPlain_0 (37, (.aload_n 0, 1)) (List.mem_of_getElem? (i := 19) rfl)
theorem dX4_readPlain_38 : decode cX4_readPlain 38 = .ok (.bipush 40, 2) := dgX4_readPlain_0 (38, (.bipush 40, 2)) (List.mem_of_getElem? (i := 20) rfl)
theorem dX4_readPlain_40 : decode cX4_readPlain 40 = .ok (.invokevirtual 49, 3) := dgX4_readPlain_0 (40, (.invokevirtual 49, 3)) (List.mem_of_getElem? (i := 21) rfl)
theorem dX4_readPlain_43 : decode cX4_readPlain 43 = .ok (.ifCond .eq 39, 3) := dgX4_readPlain_0 (43, (.ifCond .eq 39, 3)) (List.mem_of_getElem? (i := 22) rfl)
theorem dX4_readPlain_46 : decode cX4_readPlain 46 = .ok (.iload_n 1, 1) := dgX4_readPlain_0 (46, (.iload_n 1, 1)) (List.mem_of_getElem? (i := 23) rfl)
theorem dX4_readPlain_47 : decode cX4_readPlain 47 = .ok (.bipush 8, 2) := dgX4_readPlain_0 (47, (.bipush 8, 2)) (List.mem_of_getElem? (i := 24) rfl)
theorem dX4_readPlain_49 : decode cX4_readPlain 49 = .ok (.if_icmp .ge 31, 3) := dgX4_readPlain_0 (49, (.if_icmp .ge 31, 3)) (List.mem_of_getElem? (i := 25) rfl)
theorem dX4_readPlain_52 : decode cX4_readPlain 52 = .ok (.aload_n 0, 1) := dgX4_readPlain_0 (52, (.aload_n 0, 1)) (List.mem_of_getElem? (i := 26) rfl)
theorem dX4_readPlain_53 : decode cX4_readPlain 53 = .ok (.bipush 40, 2) := dgX4_readPlain_0 (53, (.bipush 40, 2)) (List.mem_of_getElem? (i := 27) rfl)
theorem dX4_readPlain_55 : decode cX4_readPlain 55 = .ok (.invokevirtual 63, 3) := dgX4_readPlain_0 (55, (.invokevirtual 63, 3)) (List.mem_of_getElem? (i := 28) rfl)
theorem dX4_readPlain_58 : decode cX4_readPlain 58 = .ok (.ifCond .eq 22, 3) := dgX4_readPlain_0 (58, (.ifCond .eq 22, 3)) (List.mem_of_getElem? (i := 29) rfl)
theorem dX4_readPlain_61 : decode cX4_readPlain 61 = .ok (.aload_n 0, 1) := dgX4_readPlain_0 (61, (.aload_n 0, 1)) (List.mem_of_getElem? (i := 30) rfl)
theorem dX4_readPlain_62 : decode cX4_readPlain 62 = .ok (.iload_n 1, 1) := dgX4_readPlain_0 (62, (.iload_n 1, 1)) (List.mem_of_getElem? (i := 31) rfl)
theorem dX4_readPlain_63 : decode cX4_readPlain 63 = .ok (.iconst 1, 1) := dgX4_readPlain_0 (63, (.iconst 1, 1)) (List.mem_of_getElem? (i := 32) rfl)
theorem dX4_readPlain_64 : decode cX4_readPlain 64 = .ok (.iadd, 1) := dgX4_readPlain_0 (64, (.iadd, 1)) (List.mem_of_getElem? (i := 33) rfl)
theorem dX4_readPlain_65 : decode cX4_readPlain 65 = .ok (.invokevirtual 76, 3) := dgX4_readPlain_0 (65, (.invokevirtual 76, 3)) (List.mem_of_getElem? (i := 34) rfl)
theorem dX4_readPlain_68 : decode cX4_readPlain 68 = .ok (.ifCond .eq 12, 3) := dgX4_readPlain_0 (68, (.ifCond .eq 12, 3)) (List.mem_of_getElem? (i := 35) rfl)
theorem dX4_readPlain_71 : decode cX4_readPlain 71 = .ok (.aload_n 0, 1) := dgX4_readPlain_0 (71, (.aload_n 0, 1)) (List.mem_of_getElem? (i := 36) rfl)
theorem dX4_readPlain_72 : decode cX4_readPlain 72 = .ok (.bipush 41, 2) := dgX4_readPlain_0 (72, (.bipush 41, 2)) (List.mem_of_getElem? (i := 37) rfl)
theorem dX4_readPlain_74 : decode cX4_readPlain 74 = .ok (.invokevirtual 63, 3) := dgX4_readPlain_0 (74, (.invokevirtual 63, 3)) (List.mem_of_getElem? (i := 38) rfl)
theorem dX4_readPlain_77 : decode cX4_readPlain 77 = .ok (.ifCond .ne 93, 3) := dgX4_readPlain_0 (77, (.ifCond .ne 93, 3)) (List.mem_of_getElem? (i := 39) rfl)
theorem dgX4_readPlain_1 : ∀ r ∈ ([(80, (.iconst 0, 1)), (81, (.ireturn, 1)), (82, (.aload_n 0, 1)), (83, (.iload_n 1, 1)), (84, (.invokevirtual 73, 3)), (87, (.ifCond .ne 5, 3)), (90, (.iconst 0, 1)), (91, (.ireturn, 1)), (92, (.aload_n 0, 1)), (93, (.bipush 60, 2)), (95, (.invokevirtual 49, 3)), (98, (.ifCond .eq 8, 3)), (101, (.bipush 6, 2)), (103, (.goto 32, 3)), (106, (.aload_n 0, 1)), (107, (.bipush 62, 2)), (109, (.invokevirtual 49, 3)), (112, (.ifCond .eq 8, 3)), (115, (.bipush 7, 2)), (117, (.goto 18, 3)), (120, (.aload_n 0, 1)), (121, (.bipush 61, 2)), (123, (.invokevirtual 49, 3)), (126, (.ifCond .eq 8, 3)), (129, (.bipush 8, 2)), (131, (.goto 4, 3)), (134, (.iconst (-1), 1)), (135, (.istore_n 3, 1)), (136, (.iload_n 3, 1)), (137, (.iconst (-1), 1)), (138, (.if_icmp .ne 5, 3)), (141, (.iconst 0, 1)), (142, (.ireturn, 1)), (143, (.aload_n 0, 1)), (144, (.dup, 1)), (145, (.getfield 42, 3)), (148, (.iconst 1, 1)), (149, (.iadd, 1)), (150, (.putfield 42, 3)), (153, (.aload_n 0, 1))] : List (Nat × (Instr × Nat))), decode cX4_readPlain r.1 = .ok r.2 := by decide +kernel
theorem dX4_readPlain_80 : decode cX4_readPlain 80 = .ok (.iconst 0, 1) := dgX4_readPlain_1 (80, (.iconst 0, 1)) (List.mem_of_getElem? (i := 0) rfl)
theorem dX4_readPlain_81 : decode cX4_readPlain 81 = .ok (.ireturn, 1) := dgX4_readPlain_1 (81, (.ireturn, 1)) (List.mem_of_getElem? (i := 1) rfl)
theorem dX4_readPlain_82 : decode cX4_readPlain 82 = .ok (.aload_n 0, 1) := dgX4_readPlain_1 (82, (.aload_n 0, 1)) (List.mem_of_getElem? (i := 2) rfl)
theorem dX4_readPlain_83 : decode cX4_readPlain 83 = .ok (.iload_n 1, 1) := dgX4_readPlain_1 (83, (.iload_n 1, 1)) (List.mem_of_getElem? (i := 3) rfl)
theorem dX4_readPlain_84 : decode cX4_readPlain 84 = .ok (.invokevirtual 73, 3) := dgX4_readPlain_1 (84, (.invokevirtual 73, 3)) (List.mem_of_getElem? (i := 4) rfl)
theorem dX4_readPlain_87 : decode cX4_readPlain 87 = .ok (.ifCond .ne 5, 3) := dgX4_readPlain_1 (87, (.ifCond .ne 5, 3)) (List.mem_of_getElem? (i := 5) rfl)
theorem dX4_readPlain_90 : decode cX4_readPlain 90 = .ok (.iconst 0, 1) := dgX4_readPlain_1 (90, (.iconst 0, 1)) (List.mem_of_getElem? (i := 6) rfl)
theorem dX4_readPlain_91 : decode cX4_readPlain 91 = .ok (.ireturn, 1) := dgX4_readPlain_1 (91, (.ireturn, 1)) (List.mem_of_getElem? (i := 7) rfl)
theorem dX4_readPlain_92 : decode cX4_readPlain 92 = .ok (.aload_n 0, 1) := dgX4_readPlain_1 (92, (.aload_n 0, 1)) (List.mem_of_getElem? (i := 8) rfl)
theorem dX4_readPlain_93 : decode cX4_readPlain 93 = .ok (.bipush 60, 2) := dgX4_readPlain_1 (93, (.bipush 60, 2)) (List.mem_of_getElem? (i := 9) rfl)
theorem dX4_readPlain_95 : decode cX4_readPlain 95 = .ok (.invokevirtual 49, 3) := dgX4_readPlain_1 (95, (.invokevirtual 49, 3)) (List.mem_of_getElem? (i := 10) rfl)
theorem dX4_readPlain_98 : decode cX4_readPlain 98 = .ok (.ifCond .eq 8, 3) := dgX4_readPlain_1 (98, (.ifCond .eq 8, 3)) (List.mem_of_getElem? (i := 11) rfl)
theorem dX4_readPlain_101 : decode cX4_readPlain 101 = .ok (.bipush 6, 2) := dgX4_readPlain_1 (101, (.bipush 6, 2)) (List.mem_of_getElem? (i := 12) rfl)
theorem dX4_readPlain_103 : decode cX4_readPlain 103 = .ok (.goto 32, 3) := dgX4_readPlain_1 (103, (.goto 32, 3)) (List.mem_of_getElem? (i := 13) rfl)
theorem dX4_readPlain_106 : decode cX4_readPlain 106 = .ok (.aload_n 0, 1) := dgX4_readPlain_1 (106, (.aload_n 0, 1)) (List.mem_of_getElem? (i := 14) rfl)
theorem dX4_readPlain_107 : decode cX4_readPlain 107 = .ok (.bipush 62, 2) := dgX4_readPlain_1 (107, (.bipush 62, 2)) (List.mem_of_getElem? (i := 15) rfl)
theorem dX4_readPlain_109 : decode cX4_readPlain 109 = .ok (.invokevirtual 49, 3) := dgX4_readPlain_1 (109, (.invokevirtual 49, 3)) (List.mem_of_getElem? (i := 16) rfl)
theorem dX4_readPlain_112 : decode cX4_readPlain 112 = .ok (.ifCond .eq 8, 3) := dgX4_readPlain_1 (112, (.ifCond .eq 8, 3)) (List.mem_of_getElem? (i := 17) rfl)
theorem dX4_readPlain_115 : decode cX4_readPlain 115 = .ok (.bipush 7, 2) := dgX4_readPlain_1 (115, (.bipush 7, 2)) (List.mem_of_getElem? (i := 18) rfl)
theorem dX4_readPlain_117 : decode cX4_readPlain 117 = .ok (.goto 18, 3) := dgX4_readPlain_1 (117, (.goto 18, 3)) (List.mem_of_getElem? (i := 19) rfl)
theorem dX4_readPlain_120 : decode cX4_readPlain 120 = .ok (.aload_n 0, 1) := dgX4_readPlain_1 (120, (.aload_n 0, 1)) (List.mem_of_getElem? (i := 20) rfl)
theorem dX4_readPlain_121 : decode cX4_readPlain 121 = .ok (.bipush 61, 2) := dgX4_readPlain_1 (121, (.bipush 61, 2)) (List.mem_of_getElem? (i := 21) rfl)
theorem dX4_readPlain_123 : decode cX4_readPlain 123 = .ok (.invokevirtual 49, 3) := dgX4_readPlain_1 (123, (.invokevirtual 49, 3)) (List.mem_of_getElem? (i := 22) rfl)
theorem dX4_readPlain_126 : decode cX4_readPlain 126 = .ok (.ifCond .eq 8, 3) := dgX4_readPlain_1 (126, (.ifCond .eq 8, 3)) (List.mem_of_getElem? (i := 23) rfl)
theorem dX4_readPlain_129 : decode cX4_readPlain 129 = .ok (.bipush 8, 2) := dgX4_readPlain_1 (129, (.bipush 8, 2)) (List.mem_of_getElem? (i := 24) rfl)
theorem dX4_readPlain_131 : decode cX4_readPlain 131 = .ok (.goto 4, 3) := dgX4_readPlain_1 (131, (.goto 4, 3)) (List.mem_of_getElem? (i := 25) rfl)
theorem dX4_readPlain_134 : decode cX4_readPlain 134 = .ok (.iconst (-1), 1) := dgX4_readPlain_1 (134, (.iconst (-1), 1)) (List.mem_of_getElem? (i := 26) rfl)
theorem dX4_readPlain_135 : decode cX4_readPlain 135 = .ok (.istore_n 3, 1) := dgX4_readPlain_1 (135, (.istore_n 3, 1)) (List.mem_of_getElem? (i := 27) rfl)
theorem dX4_readPlain_136 : decode cX4_readPlain 136 = .ok (.iload_n 3, 1) := dgX4_readPlain_1 (136, (.iload_n 3, 1)) (List.mem_of_getElem? (i := 28) rfl)
theorem dX4_readPlain_137 : decode cX4_readPlain 137 = .ok (.iconst (-1), 1) := dgX4_readPlain_1 (137, (.iconst (-1), 1)) (List.mem_of_getElem? (i := 29) rfl)
theorem dX4_readPlain_138 : decode cX4_readPlain 138 = .ok (.if_icmp .ne 5, 3) := dgX4_readPlain_1 (138, (.if_icmp .ne 5, 3)) (List.mem_of_getElem? (i := 30) rfl)
theorem dX4_readPlain_141 : decode cX4_readPlain 141 = .ok (.iconst 0, 1) := dgX4_readPlain_1 (141, (.iconst 0, 1)) (List.mem_of_getElem? (i := 31) rfl)
theorem dX4_readPlain_142 : decode cX4_readPlain 142 = .ok (.ireturn, 1) := dgX4_readPlain_1 (142, (.ireturn, 1)) (List.mem_of_getElem? (i := 32) rfl)
theorem dX4_readPlain_143 : decode cX4_readPlain 143 = .ok (.aload_n 0, 1) := dgX4_readPlain_1 (143, (.aload_n 0, 1)) (List.mem_of_getElem? (i := 33) rfl)
theorem dX4_readPlain_144 : decode cX4_readPlain 144 = .ok (.dup, 1) := dgX4_readPlain_1 (144, (.dup, 1)) (List.mem_of_getElem? (i := 34) rfl)
theorem dX4_readPlain_145 : decode cX4_readPlain 145 = .ok (.getfield 42, 3) := dgX4_readPlain_1 (145, (.getfield 42, 3)) (List.mem_of_getElem? (i := 35) rfl)
theorem dX4_readPlain_148 : decode cX4_readPlain 148 = .ok (.iconst 1, 1) := dgX4_readPlain_1 (148, (.iconst 1, 1)) (List.mem_of_getElem? (i := 36) rfl)
theorem dX4_readPlain_149 : decode cX4_readPlain 149 = .ok (.iadd, 1) := dgX4_readPlain_1 (149, (.iadd, 1)) (List.mem_of_getElem? (i := 37) rfl)
theorem dX4_readPlain_150 : decode cX4_readPlain 150 = .ok (.putfield 42, 3) := dgX4_readPlain_1 (150, (.putfield 42, 3)) (List.mem_of_getElem? (i := 38) rfl)
theorem dX4_readPlain_153 : decode cX4_readPlain 153 = .ok (.aload_n 0, 1) := dgX4_readPlain_1 (153, (.aload_n 0, 1)) (List.mem_of_getElem? (i := 39) rfl)
theorem dgX4_readPlain_2 : ∀ r ∈ ([(154, (.iload_n 1, 1)), (155, (.invokevirtual 73, 3)), (158, (.ifCond .ne 5, 3)), (161, (.iconst 0, 1)), (162, (.ireturn, 1)), (163, (.aload_n 0, 1)), (164, (.iload_n 3, 1)), (165, (.iconst 0, 1)), (166, (.invokevirtual 79, 3)), (169, (.pop, 1)), (170, (.iload_n 2, 1)), (171, (.ifCond .eq 11, 3)), (174, (.aload_n 0, 1)), (175, (.bipush 9, 2)), (177, (.iconst 0, 1)), (178, (.invokevirtual 79, 3)), (181, (.pop, 1)), (182, (.iconst 1, 1)), (183, (.ireturn, 1))] : List (Nat × (Instr × Nat))), decode cX4_readPlain r.1 = .ok r.2 := by decide +kernel
theorem dX4_readPlain_154 : decode cX4_readPlain 154 = .ok (.iload_n 1, 1) := dgX4_readPlain_2 (154, (.iload_n 1, 1)) (List.mem_of_getElem? (i := 0) rfl)
theorem dX4_readPlain_155 : decode cX4_readPlain 155 = .ok (.invokevirtual 73, 3) := dgX4_readPlain_2 (155, (.invokevirtual 73, 3)) (List.mem_of_getElem? (i := 1) rfl)
theorem dX4_readPlain_158 : decode cX4_readPlain 158 = .ok (.ifCond .ne 5, 3) := dgX4_readPlain_2 (158, (.ifCond .ne 5, 3)) (List.mem_of_getElem? (i := 2) rfl)
theorem dX4_readPlain_161 : decode cX4_readPlain 161 = .ok (.iconst 0, 1) := dgX4_readPlain_2 (161, (.iconst 0, 1)) (List.mem_of_getElem? (i := 3) rfl)
theorem dX4_readPlain_162 : decode cX4_readPlain 162 = .ok (.ireturn, 1) := dgX4_readPlain_2 (162, (.ireturn, 1)) (List.mem_of_getElem? (i := 4) rfl)
theorem dX4_readPlain_163 : decode cX4_readPlain 163 = .ok (.aload_n 0, 1) := dgX4_readPlain_2 (163, (.aload_n 0, 1)) (List.mem_of_getElem? (i := 5) rfl)
theorem dX4_readPlain_164 : decode cX4_readPlain 164 = .ok (.iload_n 3, 1) := dgX4_readPlain_2 (164, (.iload_n 3, 1)) (List.mem_of_getElem? (i := 6) rfl)
theorem dX4_readPlain_165 : decode cX4_readPlain 165 = .ok (.iconst 0, 1) := dgX4_readPlain_2 (165, (.iconst 0, 1)) (List.mem_of_getElem? (i := 7) rfl)
theorem dX4_readPlain_166 : decode cX4_readPlain 166 = .ok (.invokevirtual 79, 3) := dgX4_readPlain_2 (166, (.invokevirtual 79, 3)) (List.mem_of_getElem? (i := 8) rfl)
theorem dX4_readPlain_169 : decode cX4_readPlain 169 = .ok (.pop, 1) := dgX4_readPlain_2 (169, (.pop, 1)) (List.mem_of_getElem? (i := 9) rfl)
theorem dX4_readPlain_170 : decode cX4_readPlain 170 = .ok (.iload_n 2, 1) := dgX4_readPlain_2 (170, (.iload_n 2, 1)) (List.mem_of_getElem? (i := 10) rfl)
theorem dX4_readPlain_171 : decode cX4_readPlain 171 = .ok (.ifCond .eq 11, 3) := dgX4_readPlain_2 (171, (.ifCond .eq 11, 3)) (List.mem_of_getElem? (i := 11) rfl)
theorem dX4_readPlain_174 : decode cX4_readPlain 174 = .ok (.aload_n 0, 1) := dgX4_readPlain_2 (174, (.aload_n 0, 1)) (List.mem_of_getElem? (i := 12) rfl)
theorem dX4_readPlain_175 : decode cX4_readPlain 175 = .ok (.bipush 9, 2) := dgX4_readPlain_2 (175, (.bipush 9, 2)) (List.mem_of_getElem? (i := 13) rfl)
theorem dX4_readPlain_177 : decode cX4_readPlain 177 = .ok (.iconst 0, 1) := dgX4_readPlain_2 (177, (.iconst 0, 1)) (List.mem_of_getElem? (i := 14) rfl)
theorem dX4_readPlain_178 : decode cX4_readPlain 178 = .ok (.invokevirtual 79, 3) := dgX4_readPlain_2 (178, (.invokevirtual 79, 3)) (List.mem_of_getElem? (i := 15) rfl)
theorem dX4_readPlain_181 : decode cX4_readPlain 181 = .ok (.pop, 1) := dgX4_readPlain_2 (181, (.pop, 1)) (List.mem_of_getElem? (i := 16) rfl)
theorem dX4_readPlain_182 : decode cX4_readPlain 182 = .ok (.iconst 1, 1) := dgX4_readPlain_2 (182, (.iconst 1, 1)) (List.mem_of_getElem? (i := 17) rfl)
theorem dX4_readPlain_183 : decode cX4_readPlain 183 = .ok (.ireturn, 1) := dgX4_readPlain_2 (183, (.ireturn, 1)) (List.mem_of_getElem? (i := 18) rfl)
theorem ml_X4_76 : Cond.methodLink RX4 76 yX4_readTest ∈ tblG := tg 744 (by decide +kernel) (by decide +kernel)
theorem im_X4_readTest : Cond.instanceMethod yX4_readTest ∈ tblG := tg 746 (by decide +kernel) (by decide +kernel)
theorem se_X4_readTest : Cond.selects RX4 yX4_readTest yX4_readTest ∈ tblG := tg 10 (by decide +kernel) (by decide +kernel)
theorem cd_X4_readTest : Cond.code yX4_readTest cX4_readTest 6 (some .boolean) ∈ tblG := tg 747 (by decide +kernel) (by decide +kernel)
theorem gW_X4_readTest : GoodIn tblG (wsG yX4_readTest cX4_readTest 6 (some .boolean)) := tgi cd_X4_readTest
theorem gV_X4_76 : GoodIn tblG (wsV RX4 76 RX4 yX4_readTest (wsG yX4_readTest cX4_readTest 6 (some .boolean))) := tgV ml_X4_76 im_X4_readTest se_X4_readTest ini_X4 gW_X4_readTest
theorem hv_X4_readTest : yX4_readTest.cls = RX4 ∧ yX4_readTest.cls ≠ "java/lang/invoke/MethodHandle" ∧ yX4_readTest.cls ≠ "java/lang/invoke/VarHandle" ∧ (parseMethodDescriptor yX4_readTest.desc).map (fun d => d.parameters.length) = some 1 := by decide +kernel
theorem dgX4_readTest_0 : ∀ r ∈ ([(0, (.aload_n 0, 1)), (1, (.iload_n 1, 1)), (2, (.invokevirtual 83, 3)), (5, (.ifCond .ne 5, 3)), (8, (.iconst 0, 1)), (9, (.ireturn, 1)), (10, (.iconst (-1), 1)), (11, (.istore_n 2, 1)), (12, (.iconst 0, 1)), (13, (.istore_n 3, 1)), (14, (.iload_n 3, 1)), (15, (.sipush 400, 3)), (18, (.if_icmp .ge 104, 3)), (21, (.aload_n 0, 1)), (22, (.sipush 261, 3)), (25, (.invokevirtual 49, 3)), (28, (.ifCond .ne 13, 3)), (31, (.aload_n 0, 1)), (32, (.sipush 262, 3)), (35, (.invokevirtual 49, 3)), (38, (.ifCond .eq 84, 3)), (41, (.aload_n 0, 1)), (42, (.sipush 261, 3)), (45, (.invokevirtual 49, 3)), (48, (.istore 4, 2)), (50, (.aload_n 0, 1)), (51, (.dup, 1)), (52, (.getfield 42, 3)), (55, (.iconst 1, 1)), (56, (.iadd, 1)), (57, (.putfield 42, 3)), (60, (.iload 4, 2)), (62, (.ifCond .eq 8, 3)), (65, (.aload_n 0, 1)), (66, (.iload_n 2, 1)), (67, (.invokevirtual 86, 3)), (70, (.aload_n 0, 1)), (71, (.iload 4, 2)), (73, (.ifCond .eq 8, 3)), (76, (.bipush 11, 2))] : List (Nat × (Instr × Nat))), decode cX4_readTest r.1 = .ok r.2 := by decide +kernel
theorem dX4_readTest_0 : decode cX4_readTest 0 = .ok (.aload_n 0, 1) := dgX4_readTest_0 (0, (.aload_n 0, 1)) (List.mem_of_getElem? (i := 0) rfl)
theorem dX4_readTest_1 : decode cX4_readTest 1 = .ok (.iload_n 1, 1) := dgX4_readTest_0 (1, (.iload_n 1, 1)) (List.mem_of_getElem? (i := 1) rfl)
theorem dX4_readTest_2 : decode cX4_readTest 2 = .ok (.invokevirtual 83, 3) := dgX4_readTest_0 (2, (.invokevirtual 83, 3)) (List.mem_of_getElem? (i := 2) rfl)
theorem dX4_readTest_5 : decode cX4_readTest 5 = .ok (.ifCond .ne 5, 3) := dgX4_readTest_0 (5, (.ifCond .ne 5, 3)) (List.mem_of_getElem? (i := 3) rfl)
theorem dX4_readTest_8 : decode cX4_readTest 8 = .ok (.iconst 0, 1) := dgX4_readTest_0 (8, (.iconst 0, 1)) (List.mem_of_getElem? (i := 4) rfl)
theorem dX4_readTest_9 : decode cX4_readTest 9 = .ok (.ireturn, 1) := dgX4_readTest_0 (9, (.ireturn, 1)) (List.mem_of_getElem? (i := 5) rfl)
theorem dX4_readTest_10 : decode cX4_readTest 10 = .ok (.iconst (-1), 1) := dgX4_readTest_0 (10, (.iconst (-1), 1)) (List.mem_of_getElem? (i := 6) rfl)
theorem dX4_readTest_11 : decode cX4_readTest 11 = .ok (.istore_n 2, 1) := dgX4_readTest_0 (11, (.istore_n 2, 1)) (List.mem_of_getElem? (i := 7) rfl)
theorem dX4_readTest_12 : decode cX4_readTest 12 = .ok (.iconst 0, 1) := dgX4_readTest_0 (12, (.iconst 0, 1)) (List.mem_of_getElem? (i := 8) rfl)
theorem dX4_readTest_13 : decode cX4_readTest 13 = .ok (.istore_n 3, 1) := dgX4_readTest_0 (13, (.istore_n 3, 1)) (List.mem_of_getElem? (i := 9) rfl)
theorem dX4_readTest_14 : decode cX4_readTest 14 = .ok (.iload_n 3, 1) := dgX4_readTest_0 (14, (.iload_n 3, 1)) (List.mem_of_getElem? (i := 10) rfl)
theorem dX4_readTest_15 : decode cX4_readTest 15 = .ok (.sipush 400, 3) := dgX4_readTest_0 (15, (.sipush 400, 3)) (List.mem_of_getElem? (i := 11) rfl)
theorem dX4_readTest_18 : decode cX4_readTest 18 = .ok (.if_icmp .ge 104, 3) := dgX4_readTest_0 (18, (.if_icmp .ge 104, 3)) (List.mem_of_getElem? (i := 12) rfl)
theorem dX4_readTest_21 : decode cX4_readTest 21 = .ok (.aload_n 0, 1) := dgX4_readTest_0 (21, (.aload_n 0, 1)) (List.mem_of_getElem? (i := 13) rfl)
theorem dX4_readTest_22 : decode cX4_readTest 22 = .ok (.sipush 261, 3) := dgX4_readTest_0 (22, (.sipush 261, 3)) (List.mem_of_getElem? (i := 14) rfl)
theorem dX4_readTest_25 : decode cX4_readTest 25 = .ok (.invokevirtual 49, 3) := dgX4_readTest_0 (25, (.invokevirtual 49, 3)) (List.mem_of_getElem? (i := 15) rfl)
theorem dX4_readTest_28 : decode cX4_readTest 28 = .ok (.ifCond .ne 13, 3) := dgX4_readTest_0 (28, (.ifCond .ne 13, 3)) (List.mem_of_getElem? (i := 16) rfl)
theorem dX4_readTest_31 : decode cX4_readTest 31 = .ok (.aload_n 0, 1) := dgX4_readTest_0 (31, (.aload_n 0, 1)) (List.mem_of_getElem? (i := 17) rfl)
theorem dX4_readTest_32 : decode cX4_readTest 32 = .ok (.sipush 262, 3) := dgX4_readTest_0 (32, (.sipush 262, 3)) (List.mem_of_getElem? (i := 18) rfl)
theorem dX4_readTest_35 : decode cX4_readTest 35 = .ok (.invokevirtual 49, 3) := dgX4_readTest_0 (35, (.invokevirtual 49, 3)) (List.mem_of_getElem? (i := 19) rfl)
theorem dX4_readTest_38 : decode cX4_readTest 38 = .ok (.ifCond .eq 84, 3) := dgX4_readTest_0 (38, (.ifCond .eq 84, 3)) (List.mem_of_getElem? (i := 20) rfl)
theorem dX4_readTest_41 : decode cX4_readTest 41 = .ok (.aload_n 0, 1) := dgX4_readTest_0 (41, (.aload_n 0, 1)) (List.mem_of_getElem? (i := 21) rfl)
theorem dX4_readTest_42 : decode cX4_readTest 42 = .ok (.sipush 261, 3) := dgX4_readTest_0 (42, (.sipush 261, 3)) (List.mem_of_getElem? (i := 22) rfl)
theorem dX4_readTest_45 : decode cX4_readTest 45 = .ok (.invokevirtual 49, 3) := dgX4_readTest_0 (45, (.invokevirtual 49, 3)) (List.mem_of_getElem? (i := 23) rfl)
theorem dX4_readTest_48 : decode cX4_readTest 48 = .ok (.istore 4, 2) := dgX4_readTest_0 (48, (.istore 4, 2)) (List.mem_of_getElem? (i := 24) rfl)
theorem dX4_readTest_50 : decode cX4_readTest 50 = .ok (.aload_n 0, 1) := dgX4_readTest_0 (50, (.aload_n 0, 1)) (List.mem_of_getElem? (i := 25) rfl)
theorem dX4_readTest_51 : decode cX4_readTest 51 = .ok (.dup, 1) := dgX4_readTest_0 (51, (.dup, 1)) (List.mem_of_getElem? (i := 26) rfl)
theorem dX4_readTest_52 : decode cX4_readTest 52 = .ok (.getfield 42, 3) := dgX4_readTest_0 (52, (.getfield 42, 3)) (List.mem_of_getElem? (i := 27) rfl)
theorem dX4_readTest_55 : decode cX4_readTest 55 = .ok (.iconst 1, 1) := dgX4_readTest_0 (55, (.iconst 1, 1)) (List.mem_of_getElem? (i := 28) rfl)
theorem dX4_readTest_56 : decode cX4_readTest 56 = .ok (.iadd, 1) := dgX4_readTest_0 (56, (.iadd, 1)) (List.mem_of_getElem? (i := 29) rfl)
theorem dX4_readTest_57 : decode cX4_readTest 57 = .ok (.putfield 42, 3) := dgX4_readTest_0 (57, (.putfield 42, 3)) (List.mem_of_getElem? (i := 30) rfl)
theorem dX4_readTest_60 : decode cX4_readTest 60 = .ok (.iload 4, 2) := dgX4_readTest_0 (60, (.iload 4, 2)) (List.mem_of_getElem? (i := 31) rfl)
theorem dX4_readTest_62 : decode cX4_readTest 62 = .ok (.ifCond .eq 8, 3) := dgX4_readTest_0 (62, (.ifCond .eq 8, 3)) (List.mem_of_getElem? (i := 32) rfl)
theorem dX4_readTest_65 : decode cX4_readTest 65 = .ok (.aload_n 0, 1) := dgX4_readTest_0 (65, (.aload_n 0, 1)) (List.mem_of_getElem? (i := 33) rfl)
theorem dX4_readTest_66 : decode cX4_readTest 66 = .ok (.iload_n 2, 1) := dgX4_readTest_0 (66, (.iload_n 2, 1)) (List.mem_of_getElem? (i := 34) rfl)
theorem dX4_readTest_67 : decode cX4_readTest 67 = .ok (.invokevirtual 86, 3) := dgX4_readTest_0 (67, (.invokevirtual 86, 3)) (List.mem_of_getElem? (i := 35) rfl)
theorem dX4_readTest_70 : decode cX4_readTest 70 = .ok (.aload_n 0, 1) := dgX4_readTest_0 (70, (.aload_n 0, 1)) (List.mem_of_getElem? (i := 36) rfl)
theorem dX4_readTest_71 : decode cX4_readTest 71 = .ok (.iload 4, 2) := dgX4_readTest_0 (71, (.iload 4, 2)) (List.mem_of_getElem? (i := 37) rfl)
theorem dX4_readTest_73 : decode cX4_readTest 73 = .ok (.ifCond .eq 8, 3) := dgX4_readTest_0 (73, (.ifCond .eq 8, 3)) (List.mem_of_getElem? (i := 38) rfl)
theorem dX4_readTest_76 : decode cX4_readTest 76 = .ok (.bipush 11, 2) := dgX4_readTest_0 (76, (.bipush 11, 2)) (List.mem_of_getElem? (i := 39) rfl)
theorem dgX4_readTest_1 : ∀ r ∈ ([(78, (.goto 5, 3)), (81, (.bipush 12, 2)), (83, (.iconst 0, 1)), (84, (.invokevirtual 79, 3)), (87, (.istore 5, 2)), (89, (.aload_n 0, 1)), (90, (.iload_n 1, 1)), (91, (.invokevirtual 83, 3)), (94, (.ifCond .ne 5, 3)), (97, (.iconst 0, 1)), (98, (.ireturn, 1)), (99, (.iload 4, 2)), (101, (.ifCond .eq 9, 3)), (104, (.iload 5, 2)), (106, (.istore_n 2, 1)), (107, (.goto 9, 3)), (110, (.aload_n 0, 1)), (111, (.iload 5, 2)), (113, (.invokevirtual 86, 3)), (116, (.iinc 3 1, 3)), (119, (.goto (-105), 3)), (122, (.aload_n 0, 1)), (123, (.iload_n 2, 1)), (124, (.invokevirtual 86, 3)), (127, (.iconst 1, 1)), (128, (.ireturn, 1))] : List (Nat × (Instr × Nat))), decode cX4_readTest r.1 = .ok r.2 := by decide +kernel
theorem dX4_readTest_78 : decode cX4_readTest 78 = .ok (.goto 5, 3) := dgX4_readTest_1 (78, (.goto 5, 3)) (List.mem_of_getElem? (i := 0) rfl)
theorem dX4_readTest_81 : decode cX4_readTest 81 = .ok (.bipush 12, 2) := dgX4_readTest_1 (81, (.bipush 12, 2)) (List.mem_of_getElem? (i := 1) rfl)
theorem dX4_readTest_83 : decode cX4_readTest 83 = .ok (.iconst 0, 1) := dgX4_readTest_1 (83, (.iconst 0, 1)) (List.mem_of_getElem? (i := 2) rfl)
theorem dX4_readTest_84 : decode cX4_readTest 84 = .ok (.invokevirtual 79, 3) := dgX4_readTest_1 (84, (.invokevirtual 79, 3)) (List.mem_of_getElem? (i := 3) rfl)
theorem dX4_readTest_87 : decode cX4_readTest 87 = .ok (.istore 5, 2) := dgX4_readTest_1 (87, (.istore 5, 2)) (List.mem_of_getElem? (i := 4) rfl)
theorem dX4_readTest_89 : decode cX4_readTest 89 = .ok (.aload_n 0, 1) := dgX4_readTest_1 (89, (.aload_n 0, 1)) (List.mem_of_getElem? (i := 5) rfl)
theorem dX4_readTest_90 : decode cX4_readTest 90 = .ok (.iload_n 1, 1) := dgX4_readTest_1 (90, (.iload_n 1, 1)) (List.mem_of_getElem? (i := 6) rfl)
theorem dX4_readTest_91 : decode cX4_readTest 91 = .ok (.invokevirtual 83, 3) := dgX4_readTest_1 (91, (.invokevirtual 83, 3)) (List.mem_of_getElem? (i := 7) rfl)
theorem dX4_readTest_94 : decode cX4_readTest 94 = .ok (.ifCond .ne 5, 3) := dgX4_readTest_1 (94, (.ifCond .ne 5, 3)) (List.mem_of_getElem? (i := 8) rfl)
theorem dX4_readTest_97 : decode cX4_readTest 97 = .ok (.iconst 0, 1) := dgX4_readTest_1 (97, (.iconst 0, 1)) (List.mem_of_getElem? (i := 9) rfl)
theorem dX4_readTest_98 : decode cX4_readTest 98 = .ok (.ireturn, 1) := dgX4_readTest_1 (98, (.ireturn, 1)) (List.mem_of_getElem? (i := 10) rfl)
theorem dX4_readTest_99 : decode cX4_readTest 99 = .ok (.iload 4, 2) := dgX4_readTest_1 (99, (.iload 4, 2)) (List.mem_of_getElem? (i := 11) rfl)
theorem dX4_readTest_101 : decode cX4_readTest 101 = .ok (.ifCond .eq 9, 3) := dgX4_readTest_1 (101, (.ifCond .eq 9, 3)) (List.mem_of_getElem? (i := 12) rfl)
theorem dX4_readTest_104 : decode cX4_readTest 104 = .ok (.iload 5, 2) := dgX4_readTest_1 (104, (.iload 5, 2)) (List.mem_of_getElem? (i := 13) rfl)
theorem dX4_readTest_106 : decode cX4_readTest 106 = .ok (.istore_n 2, 1) := dgX4_readTest_1 (106, (.istore_n 2, 1)) (List.mem_of_getElem? (i := 14) rfl)
theorem dX4_readTest_107 : decode cX4_readTest 107 = .ok (.goto 9, 3) := dgX4_readTest_1 (107, (.goto 9, 3)) (List.mem_of_getElem? (i := 15) rfl)
theorem dX4_readTest_110 : decode cX4_readTest 110 = .ok (.aload_n 0, 1) := dgX4_readTest_1 (110, (.aload_n 0, 1)) (List.mem_of_getElem? (i := 16) rfl)
theorem dX4_readTest_111 : decode cX4_readTest 111 = .ok (.iload 5, 2) := dgX4_readTest_1 (111, (.iload 5, 2)) (List.mem_of_getElem? (i := 17) rfl)
theorem dX4_readTest_113 : decode cX4_readTest 113 = .ok (.invokevirtual 86, 3) := dgX4_readTest_1 (113, (.invokevirtual 86, 3)) (List.mem_of_getElem? (i := 18) rfl)
theorem dX4_readTest_116 : decode cX4_readTest 116 = .ok (.iinc 3 1, 3) := dgX4_readTest_1 (116, (.iinc 3 1, 3)) (List.mem_of_getElem? (i := 19) rfl)
theorem dX4_readTest_119 : decode cX4_readTest 119 = .ok (.goto (-105), 3) := dgX4_readTest_1 (119, (.goto (-105), 3)) (List.mem_of_getElem? (i := 20) rfl)
theorem dX4_readTest_122 : decode cX4_readTest 122 = .ok (.aload_n 0, 1) := dgX4_readTest_1 (122, (.aload_n 0, 1)) (List.mem_of_getElem? (i := 21) rfl)
theorem dX4_readTest_123 : decode cX4_readTest 123 = .ok (.iload_n 2, 1) := dgX4_readTest_1 (123, (.iload_n 2, 1)) (List.mem_of_getElem? (i := 22) rfl)
theorem dX4_readTest_124 : decode cX4_readTest 124 = .ok (.invokevirtual 86, 3) := dgX4_readTest_1 (124, (.invokevirtual 86, 3)) (List.mem_of_getElem? (i := 23) rfl)
theorem dX4_readTest_127 : decode cX4_readTest 127 = .ok (.iconst 1, 1) := dgX4_readTest_1 (127, (.iconst 1, 1)) (List.mem_of_getElem? (i := 24) rfl)
theorem dX4_readTest_128 : decode cX4_readTest 128 = .ok (.ireturn, 1) := dgX4_readTest_1 (128, (.ireturn, 1)) (List.mem_of_getElem? (i := 25) rfl)
theorem ml_X4_83 : Cond.methodLink RX4 83 yX4_readPlain ∈ tblG := tg 748 (by decide +kernel) (by decide +kernel)
theorem im_X4_readPlain : Cond.instanceMethod yX4_readPlain ∈ tblG := tg 750 (by decide +kernel) (by decide +kernel)
theorem se_X4_readPlain : Cond.selects RX4 yX4_readPlain yX4_readPlain ∈ tblG := tg 11 (by decide +kernel) (by decide +kernel)
theorem cd_X4_readPlain : Cond.code yX4_readPlain cX4_readPlain 4 (some .boolean) ∈ tblG := tg 751 (by decide +kernel) (by decide +kernel)
theorem gW_X4_readPlain : GoodIn tblG (wsG yX4_readPlain cX4_readPlain 4 (some .boolean)) := tgi cd_X4_readPlain
theorem gV_X4_83 : GoodIn tblG (wsV RX4 83 RX4 yX4_readPlain (wsG yX4_readPlain cX4_readPlain 4 (some .boolean))) := tgV ml_X4_83 im_X4_readPlain se_X4_readPlain ini_X4 gW_X4_readPlain
theorem hv_X4_readPlain : yX4_readPlain.cls = RX4 ∧ yX4_readPlain.cls ≠ "java/lang/invoke/MethodHandle" ∧ yX4_readPlain.cls ≠ "java/lang/invoke/VarHandle" ∧ (parseMethodDescriptor yX4_readPlain.desc).map (fun d => d.parameters.length) = some 1 := by decide +kernel
theorem ml_X4_86 : Cond.methodLink RX4 86 yX4_jumpHere ∈ tblG := tg 752 (by decide +kernel) (by decide +kernel)
theorem im_X4_jumpHere : Cond.instanceMethod yX4_jumpHere ∈ tblG := tg 754 (by decide +kernel) (by decide +kernel)
theorem se_X4_jumpHere : Cond.selects RX4 yX4_jumpHere yX4_jumpHere ∈ tblG := tg 12 (by decide +kernel) (by decide +kernel)
theorem cd_X4_jumpHere : Cond.code yX4_jumpHere cX4_jumpHere 2 none ∈ tblG := tg 755 (by decide +kernel) (by decide +kernel)
theorem gW_X4_jumpHere : GoodIn tblG (wsG yX4_jumpHere cX4_jumpHere 2 none) := tgi cd_X4_jumpHere
theorem gV_X4_86 : GoodIn tblG (wsV RX4 86 RX4 yX4_jumpHere (wsG yX4_jumpHere cX4_jumpHere 2 none)) := tgV ml_X4_86 im_X4_jumpHere se_X4_jumpHere ini_X4 gW_X4_jumpHere
theorem hv_X4_jumpHere : yX4_jumpHere.cls = RX4 ∧ yX4_jumpHere.cls ≠ "java/lang/invoke/MethodHandle" ∧ yX4_jumpHere.cls ≠ "java/lang/invoke/VarHandle" ∧ (parseMethodDescriptor yX4_jumpHere.desc).map (fun d => d.parameters.length) = some 1 := by decide +kernel
theorem dgJ7_copyOf_59c91_0 : ∀ r ∈ ([(0, (.iload_n 1, 1)), (1, (.aload_n 0, 1)), (2, (.arraylength, 1)), (3, (.if_icmp .ne 11, 3)), (6, (.aload_n 0, 1)), (7, (.invokevirtual 316, 3)), (10, (.checkcast 317, 3)), (13, (.areturn, 1)), (14, (.iload_n 1, 1)), (15, (.newarray .int, 2)), (17, (.astore_n 2, 1)), (18, (.aload_n 0, 1)), (19, (.iconst 0, 1)), (20, (.aload_n 2, 1)), (21, (.iconst 0, 1)), (22, (.aload_n 0, 1)), (23, (.arraylength, 1)), (24, (.iload_n 1, 1)), (25, (.invokestatic 304, 3)), (28, (.invokestatic 150, 3)), (31, (.aload_n 2, 1)), (32, (.areturn, 1))] : List (Nat × (Instr × Nat))), decode cJ7_copyOf_59c91 r.1 = .ok r.2 := by decide +kernel
theorem dJ7_copyOf_59c91_0 : decode cJ7_copyOf_59c91 0 = .ok (.iload_n 1, 1) := dgJ7_copyOf_59c91_0 (0, (.iload_n 1, 1)) (List.mem_of_getElem? (i := 0) rfl)
theorem dJ7_copyOf_59c91_1 : decode cJ7_copyOf_59c91 1 = .ok (.aload_n 0, 1) := dgJ7_copyOf_59c91_0 (1, (.aload_n 0, 1)) (List.mem_of_getElem? (i := 1) rfl)
theorem dJ7_copyOf_59c91_2 : decode cJ7_copyOf_59c91 2 = .ok (.arraylength, 1) := dgJ7_copyOf_59c91_0 (2, (.arraylength, 1)) (List.mem_of_getElem? (i := 2) rfl)
theorem dJ7_copyOf_59c91_3 : decode cJ7_copyOf_59c91 3 = .ok (.if_icmp .ne 11, 3) := dgJ7_copyOf_59c91_0 (3, (.if_icmp .ne 11, 3)) (List.mem_of_getElem? (i := 3) rfl)
theorem dJ7_copyOf_59c91_6 : decode cJ7_copyOf_59c91 6 = .ok (.aload_n 0, 1) := dgJ7_copyOf_59c91_0 (6, (.aload_n 0, 1)) (List.mem_of_getElem? (i := 4) rfl)
theorem dJ7_copyOf_59c91_7 : decode cJ7_copyOf_59c91 7 = .ok (.invokevirtual 316, 3) := dgJ7_copyOf_59c91_0 (7, (.invokevirtual 316, 3)) (List.mem_of_getElem? (i := 5) rfl)
theorem dJ7_copyOf_59c91_10 : decode cJ7_copyOf_59c91 10 = .ok (.checkcast 317, 3) := dgJ7_copyOf_59c91_0 (10, (.checkcast 317, 3)) (List.mem_of_getElem? (i := 6) rfl)
theorem dJ7_copyOf_59c91_13 : decode cJ7_copyOf_59c91 13 = .ok (.areturn, 1) := dgJ7_copyOf_59c91_0 (13, (.areturn, 1)) (List.mem_of_getElem? (i := 7) rfl)
theorem dJ7_copyOf_59c91_14 : decode cJ7_copyOf_59c91 14 = .ok (.iload_n 1, 1) := dgJ7_copyOf_59c91_0 (14, (.iload_n 1, 1)) (List.mem_of_getElem? (i := 8) rfl)
theorem dJ7_copyOf_59c91_15 : decode cJ7_copyOf_59c91 15 = .ok (.newarray .int, 2) := dgJ7_copyOf_59c91_0 (15, (.newarray .int, 2)) (List.mem_of_getElem? (i := 9) rfl)
theorem dJ7_copyOf_59c91_17 : decode cJ7_copyOf_59c91 17 = .ok (.astore_n 2, 1) := dgJ7_copyOf_59c91_0 (17, (.astore_n 2, 1)) (List.mem_of_getElem? (i := 10) rfl)
theorem dJ7_copyOf_59c91_18 : decode cJ7_copyOf_59c91 18 = .ok (.aload_n 0, 1) := dgJ7_copyOf_59c91_0 (18, (.aload_n 0, 1)) (List.mem_of_getElem? (i := 11) rfl)
theorem dJ7_copyOf_59c91_19 : decode cJ7_copyOf_59c91 19 = .ok (.iconst 0, 1) := dgJ7_copyOf_59c91_0 (19, (.iconst 0, 1)) (List.mem_of_getElem? (i := 12) rfl)
theorem dJ7_copyOf_59c91_20 : decode cJ7_copyOf_59c91 20 = .ok (.aload_n 2, 1) := dgJ7_copyOf_59c91_0 (20, (.aload_n 2, 1)) (List.mem_of_getElem? (i := 13) rfl)
theorem dJ7_copyOf_59c91_21 : decode cJ7_copyOf_59c91 21 = .ok (.iconst 0, 1) := dgJ7_copyOf_59c91_0 (21, (.iconst 0, 1)) (List.mem_of_getElem? (i := 14) rfl)
theorem dJ7_copyOf_59c91_22 : decode cJ7_copyOf_59c91 22 = .ok (.aload_n 0, 1) := dgJ7_copyOf_59c91_0 (22, (.aload_n 0, 1)) (List.mem_of_getElem? (i := 15) rfl)
theorem dJ7_copyOf_59c91_23 : decode cJ7_copyOf_59c91 23 = .ok (.arraylength, 1) := dgJ7_copyOf_59c91_0 (23, (.arraylength, 1)) (List.mem_of_getElem? (i := 16) rfl)
theorem dJ7_copyOf_59c91_24 : decode cJ7_copyOf_59c91 24 = .ok (.iload_n 1, 1) := dgJ7_copyOf_59c91_0 (24, (.iload_n 1, 1)) (List.mem_of_getElem? (i := 17) rfl)
theorem dJ7_copyOf_59c91_25 : decode cJ7_copyOf_59c91 25 = .ok (.invokestatic 304, 3) := dgJ7_copyOf_59c91_0 (25, (.invokestatic 304, 3)) (List.mem_of_getElem? (i := 18) rfl)
theorem dJ7_copyOf_59c91_28 : decode cJ7_copyOf_59c91 28 = .ok (.invokestatic 150, 3) := dgJ7_copyOf_59c91_0 (28, (.invokestatic 150, 3)) (List.mem_of_getElem? (i := 19) rfl)
theorem dJ7_copyOf_59c91_31 : decode cJ7_copyOf_59c91 31 = .ok (.aload_n 2, 1) := dgJ7_copyOf_59c91_0 (31, (.aload_n 2, 1)) (List.mem_of_getElem? (i := 20) rfl)
theorem dJ7_copyOf_59c91_32 : decode cJ7_copyOf_59c91 32 = .ok (.areturn, 1) := dgJ7_copyOf_59c91_0 (32, (.areturn, 1)) (List.mem_of_getElem? (i := 21) rfl)
theorem acl_I : Cond.arrayClass .int ∈ tblG := tg 152 (by decide +kernel) (by decide +kernel)
theorem ml_J7_304 : Cond.methodLink RJ7 304 Lib.Math.min.name ∈ tblG := tg 768 (by decide +kernel) (by decide +kernel)
theorem st_Math_minI : Cond.static Lib.Math.min.name ∈ tblG := tg 769 (by decide +kernel) (by decide +kernel)
theorem cd_Math_minI : Cond.code Lib.Math.min.name Lib.Math.min.code 2 (some .int) ∈ tblG := tg 770 (by decide +kernel) (by decide +kernel)
theorem ml_J7_150 : Cond.methodLink RJ7 150 arraycopyName ∈ tblG := tg 771 (by decide +kernel) (by decide +kernel)
theorem ml_clone : Cond.methodLink RJ7 316 ⟨"[I", "clone", "()Ljava/lang/Object;"⟩ ∈ tblG := tg 761 (by decide +kernel) (by decide +kernel)
theorem sm_clone : Cond.sameMethod "[I" "java/lang/Object" "clone" "()Ljava/lang/Object;" ∈ tblG := tg 762 (by decide +kernel) (by decide +kernel)
theorem na_clone : Cond.native ⟨"java/lang/Object", "clone", "()Ljava/lang/Object;"⟩ ∈ tblG := tg 763 (by decide +kernel) (by decide +kernel)
theorem im_clone : Cond.instanceMethod ⟨"java/lang/Object", "clone", "()Ljava/lang/Object;"⟩ ∈ tblG := tg 764 (by decide +kernel) (by decide +kernel)
theorem se_clone : Cond.selects "[I" ⟨"[I", "clone", "()Ljava/lang/Object;"⟩ ⟨"java/lang/Object", "clone", "()Ljava/lang/Object;"⟩ ∈ tblG := tg 765 (by decide +kernel) (by decide +kernel)
theorem cl_J7_317 : Cond.classLink RJ7 317 "[I" ∈ tblG := tg 767 (by decide +kernel) (by decide +kernel)
set_option maxHeartbeats 4000000 in
set_option maxRecDepth 100000 in
theorem k_copyOf12 (l : Launch) (G : g5_G) (a_0 : Nat) (sz : Nat) (p_n : Int32) (f_a : Nat → Int32) (h_p_n : 0 ≤ p_n.toInt ∧ p_n.toInt ≤ 12) : Met l yJ7_copyOf_59c91 (wsG yJ7_copyOf_59c91 cJ7_copyOf_59c91 3 (some (.array .int))) ({ frames := 1, cells := 1, slots := 12, locals := 60 }) (va_Pc [.ref a_0, .int p_n] (g5_P G [(a_0, (arI G 12 f_a))] sz)) (va_Qq (fun (r : Option Nat) (u : va_W) => (∃ (o_q : Nat) (o_n : Nat) (o_f : Nat → Int32), ((o_n : Int) = p_n.toInt) ∧ (∀ j : Nat, j < o_n → o_f j = f_a j) ∧ (r = some o_q) ∧ (u = [(a_0, (arI G 12 f_a)), (o_q, (arI G o_n o_f))]))) (g5_B G (va_A [(a_0, (arI G 12 f_a))] sz)) (va_A [(a_0, (arI G 12 f_a))] sz)) 1 12 (va_A [(a_0, (arI G 12 f_a))] sz) := by
  refine Met.ofW (cc := cJ7_copyOf_59c91) (maxL := 3) (ret := (some (.array .int))) (by decide) rfl ?_
  intro p e s m args below meth c s₁ B hml hv
  obtain ⟨rfl, hsz, hP, hK, hD0, hN, hT⟩ := hv
  have hx := B.exec
  have hb := B.bytes
  have hr := B.returns
  have hts : ∀ w ∈ tblG, w.before _ s = true := fun w h => atoms_spec (ws := (wsG yJ7_copyOf_59c91 cJ7_copyOf_59c91 3 (some (.array .int)))) B.pre w (List.mem_cons_of_mem _ h)
  have hown : s.vm.findClass RJ7 = some m.cls := findClass_of_methodNamed B.named
  have hlocks := B.notSynchronized
  subst hsz
  have hD := hD0.self (sz := s.heap.size)
  generalize hAe : va_A [(a_0, (arI G 12 f_a))] s.heap.size = A at hD hT ⊢
  have hA : ∀ q : Nat, s.heap.size ≤ q → A q := fun q h => by rw [← hAe]; exact Or.inr h
  have hS : va_S A s.heap s.heap [] := va_S.rf
  have hP : va_P G.1 vwCl [(a_0, (arI G 12 f_a))] s.heap := hP
  have hl := lv_entry ([.ref a_0, .int p_n]) (n := 3) (Nat.le_of_ble_eq_true rfl)
  rw [lg_entry_eq]
  generalize (lg_sl ([.ref a_0, .int p_n]) ++ List.replicate (3 - (lg_sl ([.ref a_0, .int p_n])).length) Slot.unset).toArray = ls at hl ⊢
  have hl : lv_has ls 3 [(0, .ref a_0), (1, .int p_n)] := hl
  refine lv_iload_n hx hb dJ7_copyOf_59c91_0 rfl (lv_at hl 1 rfl) ?_
  refine lv_aload_n hx hb dJ7_copyOf_59c91_1 rfl (lv_at hl 0 rfl) ?_
  refine va_alen hx hb hK hP 0 0 rfl rfl (v := 12) (by show Int32.ofNat 12 = 12; decide) dJ7_copyOf_59c91_2 ?_
  refine lv_icmp_ne (tgt := 14) hx hb dJ7_copyOf_59c91_3 (by decide) (fun c_1 => ?_) (fun c_1 => ?_)
  ·
    have n_1 : gNe (p_n.toInt) (12) := by have z := g5_ne (a := p_n.toInt) (b := 12) (by rfl) (by decide) c_1; unfold gNe; omega
    have i_1 : p_n.toInt ≤ 11 := by have z := g5_ne (a := p_n.toInt) (b := 12) (by rfl) (by decide) c_1; omega
    refine lv_iload_n hx hb dJ7_copyOf_59c91_14 rfl (lv_at hl 1 rfl) ?_
    refine va_newa (D := G.1) (atype := .int) (ty := .int) hx hb (hts _ acl_I) rfl hK hP hD hS hA (n := p_n) (N' := p_n.toNatClampNeg) (a0 := (p_n.toNatClampNeg, .inl (fun _ => 0))) (fun _ => rfl) (g_nlt0 (by omega)) rfl (by have zz := g5_clamp p_n; show p_n.toNatClampNeg * 4 ≤ _; omega) (Nat.le_of_ble_eq_true rfl) (by have zz := g5_clamp p_n; show 0 + p_n.toNatClampNeg ≤ 12; omega) dJ7_copyOf_59c91_15 (fun q2 cA H hKn hP hD hS => ?_)
    obtain rfl : cA = G.2 0 := g5_cI hKn
    refine g5_rs [(a_0, (arI G 12 f_a)), (q2, (arI G p_n.toNatClampNeg (fun _ => 0)))] hP hD (fun hP hD => ?_)
    refine W.widen (k := 1) (n := 11) (Nat.le_of_ble_eq_true rfl) (by have zz := g5_clamp p_n; omega) ?_
    refine lv_astore_n (lv' := [(2, .ref q2), (0, .ref a_0), (1, .int p_n)]) hx hb dJ7_copyOf_59c91_17 rfl hl (by decide) rfl (fun ls hl => ?_)
    refine lv_aload_n hx hb dJ7_copyOf_59c91_18 rfl (lv_at hl 1 rfl) ?_
    refine lv_iconst (v := 0) hx hb dJ7_copyOf_59c91_19 (by decide) ?_
    refine lv_aload_n hx hb dJ7_copyOf_59c91_20 rfl (lv_at hl 0 rfl) ?_
    refine lv_iconst (v := 0) hx hb dJ7_copyOf_59c91_21 (by decide) ?_
    refine lv_aload_n hx hb dJ7_copyOf_59c91_22 rfl (lv_at hl 1 rfl) ?_
    refine va_alen hx hb hK hP 0 0 rfl rfl (v := 12) (by show Int32.ofNat 12 = 12; decide) dJ7_copyOf_59c91_23 ?_
    refine lv_iload_n hx hb dJ7_copyOf_59c91_24 rfl (lv_at hl 2 rfl) ?_
    refine va_mmin hx hb (hml.trans hl.1.symm) hown (hts _ ml_J7_304) (hts _ st_Math_minI) (hts _ ini_Math) (hts _ cd_Math_minI) (Nat.le_of_ble_eq_true rfl) (Nat.le_of_ble_eq_true rfl) (Nat.le_of_ble_eq_true rfl) (Nat.le_of_ble_eq_true rfl) dJ7_copyOf_59c91_25 ?_
    have zk_3 : (12 : Int32).toInt = 12 := (by decide)
    have hm_4 := g_minI 12 p_n
    refine va_copyi hx hb (hml.trans hl.1.symm) hown (hts _ ml_J7_150) (hts _ ac_nat) (hts _ ac_st) (hts _ ac_ini) hK hP hD hS 0 1 0 0 rfl rfl rfl rfl rfl (sp := 0) (dp := 0) (n := (if p_n < 12 then p_n else 12)) (by decide) (by decide) (g_nlt0 (by omega)) (by have z5 : (0 : Int32).toNatClampNeg = 0 := (by decide); have z6 := g5_clamp (if p_n < 12 then p_n else 12); have z7 := g5_clamp p_n; omega) (by have z8 : (0 : Int32).toNatClampNeg = 0 := (by decide); have z9 := g5_clamp (if p_n < 12 then p_n else 12); have z10 := g5_clamp p_n; omega) (fun _ _ => rfl) (Nat.le_of_ble_eq_true rfl) (by decide) dJ7_copyOf_59c91_28 (fun H locs hP hD hS => ?_)
    refine g5_rs [(a_0, (arI G 12 f_a)), (q2, (arI G p_n.toNatClampNeg (va_cpy f_a (fun _ => 0) 0 0 (if p_n < 12 then p_n else 12).toNatClampNeg)))] hP hD (fun hP hD => ?_)
    refine lv_aload_n hx hb dJ7_copyOf_59c91_31 rfl (lv_at hl 0 rfl) ?_
    refine W.widen (k := 1) (n := 12) (by decide) (by decide) ?_
    exact W.aret (v := .ref q2) hx hb hr (Or.inr ⟨_, rfl⟩) (Or.inr ⟨_, rfl⟩) (fun t ht hW => ⟨⟨some q2, [(a_0, (arI G 12 f_a)), (q2, (arI G p_n.toNatClampNeg (va_cpy f_a (fun _ => 0) 0 0 (if p_n < 12 then p_n else 12).toNatClampNeg)))], rfl, ⟨q2, p_n.toNatClampNeg, (va_cpy f_a (fun _ => 0) 0 0 (if p_n < 12 then p_n else 12).toNatClampNeg), by have zz := g5_clamp p_n; omega, cpy_ok (by have zz := g5_clamp p_n; omega), rfl, rfl⟩, by rw [ht]; exact hP.sub [0, 1] rfl, hD.sub [0, 1] (by decide) rfl⟩, hS.F ht⟩) hS.2.2 dJ7_copyOf_59c91_32
  ·
    have i_1 : p_n.toInt = 12 := by have z := g5_neN (a := p_n.toInt) (b := 12) (by rfl) (by decide) c_1; omega
    refine lv_aload_n hx hb dJ7_copyOf_59c91_6 rfl (lv_at hl 0 rfl) ?_
    refine va_clone hx hb (hml.trans hl.1.symm) hown (hts _ ml_clone) (hts _ sm_clone) (hts _ na_clone) (hts _ im_clone) (hts _ se_clone) hN.2.2.2 hK hP hD hS hA 0 0 rfl rfl (g_find hK) g_fitI (Nat.le_of_ble_eq_true rfl) (by decide) (Nat.le_of_ble_eq_true rfl) (Nat.le_of_ble_eq_true rfl) dJ7_copyOf_59c91_7 (fun q11 H hKn hP hD hS => ?_)
    refine g5_rs [(a_0, (arI G 12 f_a)), (q11, (arI G 12 f_a))] hP hD (fun hP hD => ?_)
    refine W.widen (k := 1) (n := 12) (Nat.le_of_ble_eq_true rfl) (Nat.le_of_ble_eq_true rfl) ?_
    refine va_castA hx hb hown (hts _ cl_J7_317) hP 1 rfl (g_find hK) dJ7_copyOf_59c91_10 ?_
    exact W.aret (v := .ref q11) hx hb hr (Or.inr ⟨_, rfl⟩) (Or.inr ⟨_, rfl⟩) (fun t ht hW => ⟨⟨some q11, [(a_0, (arI G 12 f_a)), (q11, (arI G 12 f_a))], rfl, ⟨q11, 12, f_a, by have zz := g5_clamp p_n; omega, fun _ _ => rfl, rfl, rfl⟩, by rw [ht]; exact hP.sub [0, 1] rfl, hD.sub [0, 1] (by decide) rfl⟩, hS.F ht⟩) hS.2.2 dJ7_copyOf_59c91_13
set_option maxHeartbeats 4000000 in
set_option maxRecDepth 100000 in
theorem k_copyOf13 (l : Launch) (G : g5_G) (a_0 : Nat) (sz : Nat) (p_n : Int32) (f_a : Nat → Int32) (h_p_n : 0 ≤ p_n.toInt ∧ p_n.toInt ≤ 13) : Met l yJ7_copyOf_59c91 (wsG yJ7_copyOf_59c91 cJ7_copyOf_59c91 3 (some (.array .int))) ({ frames := 1, cells := 1, slots := 13, locals := 60 }) (va_Pc [.ref a_0, .int p_n] (g5_P G [(a_0, (arI G 13 f_a))] sz)) (va_Qq (fun (r : Option Nat) (u : va_W) => (∃ (o_q : Nat) (o_n : Nat) (o_f : Nat → Int32), ((o_n : Int) = p_n.toInt) ∧ (∀ j : Nat, j < o_n → o_f j = f_a j) ∧ (r = some o_q) ∧ (u = [(a_0, (arI G 13 f_a)), (o_q, (arI G o_n o_f))]))) (g5_B G (va_A [(a_0, (arI G 13 f_a))] sz)) (va_A [(a_0, (arI G 13 f_a))] sz)) 1 13 (va_A [(a_0, (arI G 13 f_a))] sz) := by
  refine Met.ofW (cc := cJ7_copyOf_59c91) (maxL := 3) (ret := (some (.array .int))) (by decide) rfl ?_
  intro p e s m args below meth c s₁ B hml hv
  obtain ⟨rfl, hsz, hP, hK, hD0, hN, hT⟩ := hv
  have hx := B.exec
  have hb := B.bytes
  have hr := B.returns
  have hts : ∀ w ∈ tblG, w.before _ s = true := fun w h => atoms_spec (ws := (wsG yJ7_copyOf_59c91 cJ7_copyOf_59c91 3 (some (.array .int)))) B.pre w (List.mem_cons_of_mem _ h)
  have hown : s.vm.findClass RJ7 = some m.cls := findClass_of_methodNamed B.named
  have hlocks := B.notSynchronized
  subst hsz
  have hD := hD0.self (sz := s.heap.size)
  generalize hAe : va_A [(a_0, (arI G 13 f_a))] s.heap.size = A at hD hT ⊢
  have hA : ∀ q : Nat, s.heap.size ≤ q → A q := fun q h => by rw [← hAe]; exact Or.inr h
  have hS : va_S A s.heap s.heap [] := va_S.rf
  have hP : va_P G.1 vwCl [(a_0, (arI G 13 f_a))] s.heap := hP
  have hl := lv_entry ([.ref a_0, .int p_n]) (n := 3) (Nat.le_of_ble_eq_true rfl)
  rw [lg_entry_eq]
  generalize (lg_sl ([.ref a_0, .int p_n]) ++ List.replicate (3 - (lg_sl ([.ref a_0, .int p_n])).length) Slot.unset).toArray = ls at hl ⊢
  have hl : lv_has ls 3 [(0, .ref a_0), (1, .int p_n)] := hl
  refine lv_iload_n hx hb dJ7_copyOf_59c91_0 rfl (lv_at hl 1 rfl) ?_
  refine lv_aload_n hx hb dJ7_copyOf_59c91_1 rfl (lv_at hl 0 rfl) ?_
  refine va_alen hx hb hK hP 0 0 rfl rfl (v := 13) (by show Int32.ofNat 13 = 13; decide) dJ7_copyOf_59c91_2 ?_
  refine lv_icmp_ne (tgt := 14) hx hb dJ7_copyOf_59c91_3 (by decide) (fun c_1 => ?_) (fun c_1 => ?_)
  ·
    have n_1 : gNe (p_n.toInt) (13) := by have z := g5_ne (a := p_n.toInt) (b := 13) (by rfl) (by decide) c_1; unfold gNe; omega
    have i_1 : p_n.toInt ≤ 12 := by have z := g5_ne (a := p_n.toInt) (b := 13) (by rfl) (by decide) c_1; omega
    refine lv_iload_n hx hb dJ7_copyOf_59c91_14 rfl (lv_at hl 1 rfl) ?_
    refine va_newa (D := G.1) (atype := .int) (ty := .int) hx hb (hts _ acl_I) rfl hK hP hD hS hA (n := p_n) (N' := p_n.toNatClampNeg) (a0 := (p_n.toNatClampNeg, .inl (fun _ => 0))) (fun _ => rfl) (g_nlt0 (by omega)) rfl (by have zz := g5_clamp p_n; show p_n.toNatClampNeg * 4 ≤ _; omega) (Nat.le_of_ble_eq_true rfl) (by have zz := g5_clamp p_n; show 0 + p_n.toNatClampNeg ≤ 13; omega) dJ7_copyOf_59c91_15 (fun q2 cA H hKn hP hD hS => ?_)
    obtain rfl : cA = G.2 0 := g5_cI hKn
    refine g5_rs [(a_0, (arI G 13 f_a)), (q2, (arI G p_n.toNatClampNeg (fun _ => 0)))] hP hD (fun hP hD => ?_)
    refine W.widen (k := 1) (n := 12) (Nat.le_of_ble_eq_true rfl) (by have zz := g5_clamp p_n; omega) ?_
    refine lv_astore_n (lv' := [(2, .ref q2), (0, .ref a_0), (1, .int p_n)]) hx hb dJ7_copyOf_59c91_17 rfl hl (by decide) rfl (fun ls hl => ?_)
    refine lv_aload_n hx hb dJ7_copyOf_59c91_18 rfl (lv_at hl 1 rfl) ?_
    refine lv_iconst (v := 0) hx hb dJ7_copyOf_59c91_19 (by decide) ?_
    refine lv_aload_n hx hb dJ7_copyOf_59c91_20 rfl (lv_at hl 0 rfl) ?_
    refine lv_iconst (v := 0) hx hb dJ7_copyOf_59c91_21 (by decide) ?_
    refine lv_aload_n hx hb dJ7_copyOf_59c91_22 rfl (lv_at hl 1 rfl) ?_
    refine va_alen hx hb hK hP 0 0 rfl rfl (v := 13) (by show Int32.ofNat 13 = 13; decide) dJ7_copyOf_59c91_23 ?_
    refine lv_iload_n hx hb dJ7_copyOf_59c91_24 rfl (lv_at hl 2 rfl) ?_
    refine va_mmin hx hb (hml.trans hl.1.symm) hown (hts _ ml_J7_304) (hts _ st_Math_minI) (hts _ ini_Math) (hts _ cd_Math_minI) (Nat.le_of_ble_eq_true rfl) (Nat.le_of_ble_eq_true rfl) (Nat.le_of_ble_eq_true rfl) (Nat.le_of_ble_eq_true rfl) dJ7_copyOf_59c91_25 ?_
    have zk_3 : (13 : Int32).toInt = 13 := (by decide)
    have hm_4 := g_minI 13 p_n
    refine va_copyi hx hb (hml.trans hl.1.symm) hown (hts _ ml_J7_150) (hts _ ac_nat) (hts _ ac_st) (hts _ ac_ini) hK hP hD hS 0 1 0 0 rfl rfl rfl rfl rfl (sp := 0) (dp := 0) (n := (if p_n < 13 then p_n else 13)) (by decide) (by decide) (g_nlt0 (by omega)) (by have z5 : (0 : Int32).toNatClampNeg = 0 := (by decide); have z6 := g5_clamp (if p_n < 13 then p_n else 13); have z7 := g5_clamp p_n; omega) (by have z8 : (0 : Int32).toNatClampNeg = 0 := (by decide); have z9 := g5_clamp (if p_n < 13 then p_n else 13); have z10 := g5_clamp p_n; omega) (fun _ _ => rfl) (Nat.le_of_ble_eq_true rfl) (by decide) dJ7_copyOf_59c91_28 (fun H locs hP hD hS => ?_)
    refine g5_rs [(a_0, (arI G 13 f_a)), (q2, (arI G p_n.toNatClampNeg (va_cpy f_a (fun _ => 0) 0 0 (if p_n < 13 then p_n else 13).toNatClampNeg)))] hP hD (fun hP hD => ?_)
    refine lv_aload_n hx hb dJ7_copyOf_59c91_31 rfl (lv_at hl 0 rfl) ?_
    refine W.widen (k := 1) (n := 13) (by decide) (by decide) ?_
    exact W.aret (v := .ref q2) hx hb hr (Or.inr ⟨_, rfl⟩) (Or.inr ⟨_, rfl⟩) (fun t ht hW => ⟨⟨some q2, [(a_0, (arI G 13 f_a)), (q2, (arI G p_n.toNatClampNeg (va_cpy f_a (fun _ => 0) 0 0 (if p_n < 13 then p_n else 13).toNatClampNeg)))], rfl, ⟨q2, p_n.toNatClampNeg, (va_cpy f_a (fun _ => 0) 0 0 (if p_n < 13 then p_n else 13).toNatClampNeg), by have zz := g5_clamp p_n; omega, cpy_ok (by have zz := g5_clamp p_n; omega), rfl, rfl⟩, by rw [ht]; exact hP.sub [0, 1] rfl, hD.sub [0, 1] (by decide) rfl⟩, hS.F ht⟩) hS.2.2 dJ7_copyOf_59c91_32
  ·
    have i_1 : p_n.toInt = 13 := by have z := g5_neN (a := p_n.toInt) (b := 13) (by rfl) (by decide) c_1; omega
    refine lv_aload_n hx hb dJ7_copyOf_59c91_6 rfl (lv_at hl 0 rfl) ?_
    refine va_clone hx hb (hml.trans hl.1.symm) hown (hts _ ml_clone) (hts _ sm_clone) (hts _ na_clone) (hts _ im_clone) (hts _ se_clone) hN.2.2.2 hK hP hD hS hA 0 0 rfl rfl (g_find hK) g_fitI (Nat.le_of_ble_eq_true rfl) (by decide) (Nat.le_of_ble_eq_true rfl) (Nat.le_of_ble_eq_true rfl) dJ7_copyOf_59c91_7 (fun q11 H hKn hP hD hS => ?_)
    refine g5_rs [(a_0, (arI G 13 f_a)), (q11, (arI G 13 f_a))] hP hD (fun hP hD => ?_)
    refine W.widen (k := 1) (n := 13) (Nat.le_of_ble_eq_true rfl) (Nat.le_of_ble_eq_true rfl) ?_
    refine va_castA hx hb hown (hts _ cl_J7_317) hP 1 rfl (g_find hK) dJ7_copyOf_59c91_10 ?_
    exact W.aret (v := .ref q11) hx hb hr (Or.inr ⟨_, rfl⟩) (Or.inr ⟨_, rfl⟩) (fun t ht hW => ⟨⟨some q11, [(a_0, (arI G 13 f_a)), (q11, (arI G 13 f_a))], rfl, ⟨q11, 13, f_a, by have zz := g5_clamp p_n; omega, fun _ _ => rfl, rfl, rfl⟩, by rw [ht]; exact hP.sub [0, 1] rfl, hD.sub [0, 1] (by decide) rfl⟩, hS.F ht⟩) hS.2.2 dJ7_copyOf_59c91_13
set_option maxHeartbeats 4000000 in
set_option maxRecDepth 100000 in
theorem k_copyOf400 (l : Launch) (G : g5_G) (a_0 : Nat) (sz : Nat) (p_n : Int32) (f_a : Nat → Int32) (h_p_n : 0 ≤ p_n.toInt ∧ p_n.toInt ≤ 400) : Met l yJ7_copyOf_59c91 (wsG yJ7_copyOf_59c91 cJ7_copyOf_59c91 3 (some (.array .int))) ({ frames := 1, cells := 1, slots := 400, locals := 60 }) (va_Pc [.ref a_0, .int p_n] (g5_P G [(a_0, (arI G 400 f_a))] sz)) (va_Qq (fun (r : Option Nat) (u : va_W) => (∃ (o_q : Nat) (o_n : Nat) (o_f : Nat → Int32), ((o_n : Int) = p_n.toInt) ∧ (∀ j : Nat, j < o_n → o_f j = f_a j) ∧ (r = some o_q) ∧ (u = [(a_0, (arI G 400 f_a)), (o_q, (arI G o_n o_f))]))) (g5_B G (va_A [(a_0, (arI G 400 f_a))] sz)) (va_A [(a_0, (arI G 400 f_a))] sz)) 1 400 (va_A [(a_0, (arI G 400 f_a))] sz) := by
  refine Met.ofW (cc := cJ7_copyOf_59c91) (maxL := 3) (ret := (some (.array .int))) (by decide) rfl ?_
  intro p e s m args below meth c s₁ B hml hv
  obtain ⟨rfl, hsz, hP, hK, hD0, hN, hT⟩ := hv
  have hx := B.exec
  have hb := B.bytes
  have hr := B.returns
  have hts : ∀ w ∈ tblG, w.before _ s = true := fun w h => atoms_spec (ws := (wsG yJ7_copyOf_59c91 cJ7_copyOf_59c91 3 (some (.array .int)))) B.pre w (List.mem_cons_of_mem _ h)
  have hown : s.vm.findClass RJ7 = some m.cls := findClass_of_methodNamed B.named
  have hlocks := B.notSynchronized
  subst hsz
  have hD := hD0.self (sz := s.heap.size)
  generalize hAe : va_A [(a_0, (arI G 400 f_a))] s.heap.size = A at hD hT ⊢
  have hA : ∀ q : Nat, s.heap.size ≤ q → A q := fun q h => by rw [← hAe]; exact Or.inr h
  have hS : va_S A s.heap s.heap [] := va_S.rf
  have hP : va_P G.1 vwCl [(a_0, (arI G 400 f_a))] s.heap := hP
  have hl := lv_entry ([.ref a_0, .int p_n]) (n := 3) (Nat.le_of_ble_eq_true rfl)
  rw [lg_entry_eq]
  generalize (lg_sl ([.ref a_0, .int p_n]) ++ List.replicate (3 - (lg_sl ([.ref a_0, .int p_n])).length) Slot.unset).toArray = ls at hl ⊢
  have hl : lv_has ls 3 [(0, .ref a_0), (1, .int p_n)] := hl
  refine lv_iload_n hx hb dJ7_copyOf_59c91_0 rfl (lv_at hl 1 rfl) ?_
  refine lv_aload_n hx hb dJ7_copyOf_59c91_1 rfl (lv_at hl 0 rfl) ?_
  refine va_alen hx hb hK hP 0 0 rfl rfl (v := 400) (by show Int32.ofNat 400 = 400; decide) dJ7_copyOf_59c91_2 ?_
  refine lv_icmp_ne (tgt := 14) hx hb dJ7_copyOf_59c91_3 (by decide) (fun c_1 => ?_) (fun c_1 => ?_)
  ·
    have n_1 : gNe (p_n.toInt) (400) := by have z := g5_ne (a := p_n.toInt) (b := 400) (by rfl) (by decide) c_1; unfold gNe; omega
    have i_1 : p_n.toInt ≤ 399 := by have z := g5_ne (a := p_n.toInt) (b := 400) (by rfl) (by decide) c_1; omega
    refine lv_iload_n hx hb dJ7_copyOf_59c91_14 rfl (lv_at hl 1 rfl) ?_
    refine va_newa (D := G.1) (atype := .int) (ty := .int) hx hb (hts _ acl_I) rfl hK hP hD hS hA (n := p_n) (N' := p_n.toNatClampNeg) (a0 := (p_n.toNatClampNeg, .inl (fun _ => 0))) (fun _ => rfl) (g_nlt0 (by omega)) rfl (by have zz := g5_clamp p_n; show p_n.toNatClampNeg * 4 ≤ _; omega) (Nat.le_of_ble_eq_true rfl) (by have zz := g5_clamp p_n; show 0 + p_n.toNatClampNeg ≤ 400; omega) dJ7_copyOf_59c91_15 (fun q2 cA H hKn hP hD hS => ?_)
    obtain rfl : cA = G.2 0 := g5_cI hKn
    refine g5_rs [(a_0, (arI G 400 f_a)), (q2, (arI G p_n.toNatClampNeg (fun _ => 0)))] hP hD (fun hP hD => ?_)
    refine W.widen (k := 1) (n := 399) (Nat.le_of_ble_eq_true rfl) (by have zz := g5_clamp p_n; omega) ?_
    refine lv_astore_n (lv' := [(2, .ref q2), (0, .ref a_0), (1, .int p_n)]) hx hb dJ7_copyOf_59c91_17 rfl hl (by decide) rfl (fun ls hl => ?_)
    refine lv_aload_n hx hb dJ7_copyOf_59c91_18 rfl (lv_at hl 1 rfl) ?_
    refine lv_iconst (v := 0) hx hb dJ7_copyOf_59c91_19 (by decide) ?_
    refine lv_aload_n hx hb dJ7_copyOf_59c91_20 rfl (lv_at hl 0 rfl) ?_
    refine lv_iconst (v := 0) hx hb dJ7_copyOf_59c91_21 (by decide) ?_
    refine lv_aload_n hx hb dJ7_copyOf_59c91_22 rfl (lv_at hl 1 rfl) ?_
    refine va_alen hx hb hK hP 0 0 rfl rfl (v := 400) (by show Int32.ofNat 400 = 400; decide) dJ7_copyOf_59c91_23 ?_
    refine lv_iload_n hx hb dJ7_copyOf_59c91_24 rfl (lv_at hl 2 rfl) ?_
    refine va_mmin hx hb (hml.trans hl.1.symm) hown (hts _ ml_J7_304) (hts _ st_Math_minI) (hts _ ini_Math) (hts _ cd_Math_minI) (Nat.le_of_ble_eq_true rfl) (Nat.le_of_ble_eq_true rfl) (Nat.le_of_ble_eq_true rfl) (Nat.le_of_ble_eq_true rfl) dJ7_copyOf_59c91_25 ?_
    have zk_3 : (400 : Int32).toInt = 400 := (by decide)
    have hm_4 := g_minI 400 p_n
    refine va_copyi hx hb (hml.trans hl.1.symm) hown (hts _ ml_J7_150) (hts _ ac_nat) (hts _ ac_st) (hts _ ac_ini) hK hP hD hS 0 1 0 0 rfl rfl rfl rfl rfl (sp := 0) (dp := 0) (n := (if p_n < 400 then p_n else 400)) (by decide) (by decide) (g_nlt0 (by omega)) (by have z5 : (0 : Int32).toNatClampNeg = 0 := (by decide); have z6 := g5_clamp (if p_n < 400 then p_n else 400); have z7 := g5_clamp p_n; omega) (by have z8 : (0 : Int32).toNatClampNeg = 0 := (by decide); have z9 := g5_clamp (if p_n < 400 then p_n else 400); have z10 := g5_clamp p_n; omega) (fun _ _ => rfl) (Nat.le_of_ble_eq_true rfl) (by decide) dJ7_copyOf_59c91_28 (fun H locs hP hD hS => ?_)
    refine g5_rs [(a_0, (arI G 400 f_a)), (q2, (arI G p_n.toNatClampNeg (va_cpy f_a (fun _ => 0) 0 0 (if p_n < 400 then p_n else 400).toNatClampNeg)))] hP hD (fun hP hD => ?_)
    refine lv_aload_n hx hb dJ7_copyOf_59c91_31 rfl (lv_at hl 0 rfl) ?_
    refine W.widen (k := 1) (n := 400) (by decide) (by decide) ?_
    exact W.aret (v := .ref q2) hx hb hr (Or.inr ⟨_, rfl⟩) (Or.inr ⟨_, rfl⟩) (fun t ht hW => ⟨⟨some q2, [(a_0, (arI G 400 f_a)), (q2, (arI G p_n.toNatClampNeg (va_cpy f_a (fun _ => 0) 0 0 (if p_n < 400 then p_n else 400).toNatClampNeg)))], rfl, ⟨q2, p_n.toNatClampNeg, (va_cpy f_a (fun _ => 0) 0 0 (if p_n < 400 then p_n else 400).toNatClampNeg), by have zz := g5_clamp p_n; omega, cpy_ok (by have zz := g5_clamp p_n; omega), rfl, rfl⟩, by rw [ht]; exact hP.sub [0, 1] rfl, hD.sub [0, 1] (by decide) rfl⟩, hS.F ht⟩) hS.2.2 dJ7_copyOf_59c91_32
  ·
    have i_1 : p_n.toInt = 400 := by have z := g5_neN (a := p_n.toInt) (b := 400) (by rfl) (by decide) c_1; omega
    refine lv_aload_n hx hb dJ7_copyOf_59c91_6 rfl (lv_at hl 0 rfl) ?_
    refine va_clone hx hb (hml.trans hl.1.symm) hown (hts _ ml_clone) (hts _ sm_clone) (hts _ na_clone) (hts _ im_clone) (hts _ se_clone) hN.2.2.2 hK hP hD hS hA 0 0 rfl rfl (g_find hK) g_fitI (Nat.le_of_ble_eq_true rfl) (by decide) (Nat.le_of_ble_eq_true rfl) (Nat.le_of_ble_eq_true rfl) dJ7_copyOf_59c91_7 (fun q11 H hKn hP hD hS => ?_)
    refine g5_rs [(a_0, (arI G 400 f_a)), (q11, (arI G 400 f_a))] hP hD (fun hP hD => ?_)
    refine W.widen (k := 1) (n := 400) (Nat.le_of_ble_eq_true rfl) (Nat.le_of_ble_eq_true rfl) ?_
    refine va_castA hx hb hown (hts _ cl_J7_317) hP 1 rfl (g_find hK) dJ7_copyOf_59c91_10 ?_
    exact W.aret (v := .ref q11) hx hb hr (Or.inr ⟨_, rfl⟩) (Or.inr ⟨_, rfl⟩) (fun t ht hW => ⟨⟨some q11, [(a_0, (arI G 400 f_a)), (q11, (arI G 400 f_a))], rfl, ⟨q11, 400, f_a, by have zz := g5_clamp p_n; omega, fun _ _ => rfl, rfl, rfl⟩, by rw [ht]; exact hP.sub [0, 1] rfl, hD.sub [0, 1] (by decide) rfl⟩, hS.F ht⟩) hS.2.2 dJ7_copyOf_59c91_13
theorem dgX4_readClause_0 : ∀ r ∈ ([(0, (.aload_n 0, 1)), (1, (.getfield 12, 3)), (4, (.aload_n 0, 1)), (5, (.getfield 42, 3)), (8, (.invokevirtual 69, 3)), (11, (.sipush 256, 3)), (14, (.isub, 1)), (15, (.istore_n 2, 1)), (16, (.iload_n 2, 1)), (17, (.ifCond .lt 8, 3)), (20, (.iload_n 2, 1)), (21, (.iconst 4, 1)), (22, (.if_icmp .lt 5, 3)), (25, (.iconst 0, 1)), (26, (.ireturn, 1)), (27, (.aload_n 0, 1)), (28, (.dup, 1)), (29, (.getfield 42, 3)), (32, (.iconst 1, 1)), (33, (.iadd, 1)), (34, (.putfield 42, 3)), (37, (.aload_n 0, 1)), (38, (.getfield 18, 3)), (41, (.iload_n 1, 1)), (42, (.iload_n 2, 1)), (43, (.iastore, 1)), (44, (.aload_n 0, 1)), (45, (.getfield 22, 3)), (48, (.iload_n 1, 1)), (49, (.aload_n 0, 1)), (50, (.getfield 36, 3)), (53, (.iastore, 1)), (54, (.iload_n 2, 1)), (55, (.ifCond .eq 8, 3)), (58, (.iload_n 2, 1)), (59, (.iconst 1, 1)), (60, (.if_icmp .ne 13, 3)), (63, (.aload_n 0, 1)), (64, (.iconst 0, 1)), (65, (.invokevirtual 73, 3))] : List (Nat × (Instr × Nat))), decode cX4_readClause r.1 = .ok r.2 := by decide +kernel
theorem dX4_readClause_0 : decode cX4_readClause 0 = .ok (.aload_n 0, 1) := dgX4_readClause_0 (0, (.aload_n 0, 1)) (List.mem_of_getElem? (i := 0) rfl)
theorem dX4_readClause_1 : decode cX4_readClause 1 = .ok (.getfield 12, 3) := dgX4_readClause_0 (1, (.getfield 12, 3)) (List.mem_of_getElem? (i := 1) rfl)
theorem dX4_readClause_4 : decode cX4_readClause 4 = .ok (.aload_n 0, 1) := dgX4_readClause_0 (4, (.aload_n 0, 1)) (List.mem_of_getElem? (i := 2) rfl)
theorem dX4_readClause_5 : decode cX4_readClause 5 = .ok (.getfield 42, 3) := dgX4_readClause_0 (5, (.getfield 42, 3)) (List.mem_of_getElem? (i := 3) rfl)
theorem dX4_readClause_8 : decode cX4_readClause 8 = .ok (.invokevirtual 69, 3) := dgX4_readClause_0 (8, (.invokevirtual 69, 3)) (List.mem_of_getElem? (i := 4) rfl)
theorem dX4_readClause_11 : decode cX4_readClause 11 = .ok (.sipush 256, 3) := dgX4_readClause_0 (11, (.sipush 256, 3)) (List.mem_of_getElem? (i := 5) rfl)
theorem dX4_readClause_14 : decode cX4_readClause 14 = .ok (.isub, 1) := dgX4_readClause_0 (14, (.isub, 1)) (List.mem_of_getElem? (i := 6) rfl)
theorem dX4_readClause_15 : decode cX4_readClause 15 = .ok (.istore_n 2, 1) := dgX4_readClause_0 (15, (.istore_n 2, 1)) (List.mem_of_getElem? (i := 7) rfl)
theorem dX4_readClause_16 : decode cX4_readClause 16 = .ok (.iload_n 2, 1) := dgX4_readClause_0 (16, (.iload_n 2, 1)) (List.mem_of_getElem? (i := 8) rfl)
theorem dX4_readClause_17 : decode cX4_readClause 17 = .ok (.ifCond .lt 8, 3) := dgX4_readClause_0 (17, (.ifCond .lt 8, 3)) (List.mem_of_getElem? (i := 9) rfl)
theorem dX4_readClause_20 : decode cX4_readClause 20 = .ok (.iload_n 2, 1) := dgX4_readClause_0 (20, (.iload_n 2, 1)) (List.mem_of_getElem? (i := 10) rfl)
theorem dX4_readClause_21 : decode cX4_readClause 21 = .ok (.iconst 4, 1) := dgX4_readClause_0 (21, (.iconst 4, 1)) (List.mem_of_getElem? (i := 11) rfl)
theorem dX4_readClause_22 : decode cX4_readClause 22 = .ok (.if_icmp .lt 5, 3) := dgX4_readClause_0 (22, (.if_icmp .lt 5, 3)) (List.mem_of_getElem? (i := 12) rfl)
theorem dX4_readClause_25 : decode cX4_readClause 25 = .ok (.iconst 0, 1) := dgX4_readClause_0 (25, (.iconst 0, 1)) (List.mem_of_getElem? (i := 13) rfl)
theorem dX4_readClause_26 : decode cX4_readClause 26 = .ok (.ireturn, 1) := dgX4_readClause_0 (26, (.ireturn, 1)) (List.mem_of_getElem? (i := 14) rfl)
theorem dX4_readClause_27 : decode cX4_readClause 27 = .ok (.aload_n 0, 1) := dgX4_readClause_0 (27, (.aload_n 0, 1)) (List.mem_of_getElem? (i := 15) rfl)
theorem dX4_readClause_28 : decode cX4_readClause 28 = .ok (.dup, 1) := dgX4_readClause_0 (28, (.dup, 1)) (List.mem_of_getElem? (i := 16) rfl)
theorem dX4_readClause_29 : decode cX4_readClause 29 = .ok (.getfield 42, 3) := dgX4_readClause_0 (29, (.getfield 42, 3)) (List.mem_of_getElem? (i := 17) rfl)
theorem dX4_readClause_32 : decode cX4_readClause 32 = .ok (.iconst 1, 1) := dgX4_readClause_0 (32, (.iconst 1, 1)) (List.mem_of_getElem? (i := 18) rfl)
theorem dX4_readClause_33 : decode cX4_readClause 33 = .ok (.iadd, 1) := dgX4_readClause_0 (33, (.iadd, 1)) (List.mem_of_getElem? (i := 19) rfl)
theorem dX4_readClause_34 : decode cX4_readClause 34 = .ok (.putfield 42, 3) := dgX4_readClause_0 (34, (.putfield 42, 3)) (List.mem_of_getElem? (i := 20) rfl)
theorem dX4_readClause_37 : decode cX4_readClause 37 = .ok (.aload_n 0, 1) := dgX4_readClause_0 (37, (.aload_n 0, 1)) (List.mem_of_getElem? (i := 21) rfl)
theorem dX4_readClause_38 : decode cX4_readClause 38 = .ok (.getfield 18, 3) := dgX4_readClause_0 (38, (.getfield 18, 3)) (List.mem_of_getElem? (i := 22) rfl)
theorem dX4_readClause_41 : decode cX4_readClause 41 = .ok (.iload_n 1, 1) := dgX4_readClause_0 (41, (.iload_n 1, 1)) (List.mem_of_getElem? (i := 23) rfl)
theorem dX4_readClause_42 : decode cX4_readClause 42 = .ok (.iload_n 2, 1) := dgX4_readClause_0 (42, (.iload_n 2, 1)) (List.mem_of_getElem? (i := 24) rfl)
theorem dX4_readClause_43 : decode cX4_readClause 43 = .ok (.iastore, 1) := dgX4_readClause_0 (43, (.iastore, 1)) (List.mem_of_getElem? (i := 25) rfl)
theorem dX4_readClause_44 : decode cX4_readClause 44 = .ok (.aload_n 0, 1) := dgX4_readClause_0 (44, (.aload_n 0, 1)) (List.mem_of_getElem? (i := 26) rfl)
theorem dX4_readClause_45 : decode cX4_readClause 45 = .ok (.getfield 22, 3) := dgX4_readClause_0 (45, (.getfield 22, 3)) (List.mem_of_getElem? (i := 27) rfl)
theorem dX4_readClause_48 : decode cX4_readClause 48 = .ok (.iload_n 1, 1) := dgX4_readClause_0 (48, (.iload_n 1, 1)) (List.mem_of_getElem? (i := 28) rfl)
theorem dX4_readClause_49 : decode cX4_readClause 49 = .ok (.aload_n 0, 1) := dgX4_readClause_0 (49, (.aload_n 0, 1)) (List.mem_of_getElem? (i := 29) rfl)
theorem dX4_readClause_50 : decode cX4_readClause 50 = .ok (.getfield 36, 3) := dgX4_readClause_0 (50, (.getfield 36, 3)) (List.mem_of_getElem? (i := 30) rfl)
theorem dX4_readClause_53 : decode cX4_readClause 53 = .ok (.iastore, 1) := dgX4_readClause_0 (53, (.iastore, 1)) (List.mem_of_getElem? (i := 31) rfl)
theorem dX4_readClause_54 : decode cX4_readClause 54 = .ok (.iload_n 2, 1) := dgX4_readClause_0 (54, (.iload_n 2, 1)) (List.mem_of_getElem? (i := 32) rfl)
theorem dX4_readClause_55 : decode cX4_readClause 55 = .ok (.ifCond .eq 8, 3) := dgX4_readClause_0 (55, (.ifCond .eq 8, 3)) (List.mem_of_getElem? (i := 33) rfl)
theorem dX4_readClause_58 : decode cX4_readClause 58 = .ok (.iload_n 2, 1) := dgX4_readClause_0 (58, (.iload_n 2, 1)) (List.mem_of_getElem? (i := 34) rfl)
theorem dX4_readClause_59 : decode cX4_readClause 59 = .ok (.iconst 1, 1) := dgX4_readClause_0 (59, (.iconst 1, 1)) (List.mem_of_getElem? (i := 35) rfl)
theorem dX4_readClause_60 : decode cX4_readClause 60 = .ok (.if_icmp .ne 13, 3) := dgX4_readClause_0 (60, (.if_icmp .ne 13, 3)) (List.mem_of_getElem? (i := 36) rfl)
theorem dX4_readClause_63 : decode cX4_readClause 63 = .ok (.aload_n 0, 1) := dgX4_readClause_0 (63, (.aload_n 0, 1)) (List.mem_of_getElem? (i := 37) rfl)
theorem dX4_readClause_64 : decode cX4_readClause 64 = .ok (.iconst 0, 1) := dgX4_readClause_0 (64, (.iconst 0, 1)) (List.mem_of_getElem? (i := 38) rfl)
theorem dX4_readClause_65 : decode cX4_readClause 65 = .ok (.invokevirtual 73, 3) := dgX4_readClause_0 (65, (.invokevirtual 73, 3)) (List.mem_of_getElem? (i := 39) rfl)
theorem dgX4_readClause_1 : ∀ r ∈ ([(68, (.ifCond .ne 5, 3)), (71, (.iconst 0, 1)), (72, (.ireturn, 1)), (73, (.aload_n 0, 1)), (74, (.sipush 260, 3)), (77, (.invokevirtual 63, 3)), (80, (.ifCond .ne 5, 3)), (83, (.iconst 1, 1)), (84, (.ireturn, 1)), (85, (.aload_n 0, 1)), (86, (.iconst 0, 1)), (87, (.invokevirtual 76, 3)), (90, (.ifCond .ne 5, 3)), (93, (.iconst 0, 1)), (94, (.ireturn, 1)), (95, (.aload_n 0, 1)), (96, (.bipush 10, 2)), (98, (.iconst 0, 1)), (99, (.invokevirtual 79, 3)), (102, (.pop, 1)), (103, (.iconst 1, 1)), (104, (.ireturn, 1))] : List (Nat × (Instr × Nat))), decode cX4_readClause r.1 = .ok r.2 := by decide +kernel
theorem dX4_readClause_68 : decode cX4_readClause 68 = .ok (.ifCond .ne 5, 3) := dgX4_readClause_1 (68, (.ifCond .ne 5, 3)) (List.mem_of_getElem? (i := 0) rfl)
theorem dX4_readClause_71 : decode cX4_readClause 71 = .ok (.iconst 0, 1) := dgX4_readClause_1 (71, (.iconst 0, 1)) (List.mem_of_getElem? (i := 1) rfl)
theorem dX4_readClause_72 : decode cX4_readClause 72 = .ok (.ireturn, 1) := dgX4_readClause_1 (72, (.ireturn, 1)) (List.mem_of_getElem? (i := 2) rfl)
theorem dX4_readClause_73 : decode cX4_readClause 73 = .ok (.aload_n 0, 1) := dgX4_readClause_1 (73, (.aload_n 0, 1)) (List.mem_of_getElem? (i := 3) rfl)
theorem dX4_readClause_74 : decode cX4_readClause 74 = .ok (.sipush 260, 3) := dgX4_readClause_1 (74, (.sipush 260, 3)) (List.mem_of_getElem? (i := 4) rfl)
theorem dX4_readClause_77 : decode cX4_readClause 77 = .ok (.invokevirtual 63, 3) := dgX4_readClause_1 (77, (.invokevirtual 63, 3)) (List.mem_of_getElem? (i := 5) rfl)
theorem dX4_readClause_80 : decode cX4_readClause 80 = .ok (.ifCond .ne 5, 3) := dgX4_readClause_1 (80, (.ifCond .ne 5, 3)) (List.mem_of_getElem? (i := 6) rfl)
theorem dX4_readClause_83 : decode cX4_readClause 83 = .ok (.iconst 1, 1) := dgX4_readClause_1 (83, (.iconst 1, 1)) (List.mem_of_getElem? (i := 7) rfl)
theorem dX4_readClause_84 : decode cX4_readClause 84 = .ok (.ireturn, 1) := dgX4_readClause_1 (84, (.ireturn, 1)) (List.mem_of_getElem? (i := 8) rfl)
theorem dX4_readClause_85 : decode cX4_readClause 85 = .ok (.aload_n 0, 1) := dgX4_readClause_1 (85, (.aload_n 0, 1)) (List.mem_of_getElem? (i := 9) rfl)
theorem dX4_readClause_86 : decode cX4_readClause 86 = .ok (.iconst 0, 1) := dgX4_readClause_1 (86, (.iconst 0, 1)) (List.mem_of_getElem? (i := 10) rfl)
theorem dX4_readClause_87 : decode cX4_readClause 87 = .ok (.invokevirtual 76, 3) := dgX4_readClause_1 (87, (.invokevirtual 76, 3)) (List.mem_of_getElem? (i := 11) rfl)
theorem dX4_readClause_90 : decode cX4_readClause 90 = .ok (.ifCond .ne 5, 3) := dgX4_readClause_1 (90, (.ifCond .ne 5, 3)) (List.mem_of_getElem? (i := 12) rfl)
theorem dX4_readClause_93 : decode cX4_readClause 93 = .ok (.iconst 0, 1) := dgX4_readClause_1 (93, (.iconst 0, 1)) (List.mem_of_getElem? (i := 13) rfl)
theorem dX4_readClause_94 : decode cX4_readClause 94 = .ok (.ireturn, 1) := dgX4_readClause_1 (94, (.ireturn, 1)) (List.mem_of_getElem? (i := 14) rfl)
theorem dX4_readClause_95 : decode cX4_readClause 95 = .ok (.aload_n 0, 1) := dgX4_readClause_1 (95, (.aload_n 0, 1)) (List.mem_of_getElem? (i := 15) rfl)
theorem dX4_readClause_96 : decode cX4_readClause 96 = .ok (.bipush 10, 2) := dgX4_readClause_1 (96, (.bipush 10, 2)) (List.mem_of_getElem? (i := 16) rfl)
theorem dX4_readClause_98 : decode cX4_readClause 98 = .ok (.iconst 0, 1) := dgX4_readClause_1 (98, (.iconst 0, 1)) (List.mem_of_getElem? (i := 17) rfl)
theorem dX4_readClause_99 : decode cX4_readClause 99 = .ok (.invokevirtual 79, 3) := dgX4_readClause_1 (99, (.invokevirtual 79, 3)) (List.mem_of_getElem? (i := 18) rfl)
theorem dX4_readClause_102 : decode cX4_readClause 102 = .ok (.pop, 1) := dgX4_readClause_1 (102, (.pop, 1)) (List.mem_of_getElem? (i := 19) rfl)
theorem dX4_readClause_103 : decode cX4_readClause 103 = .ok (.iconst 1, 1) := dgX4_readClause_1 (103, (.iconst 1, 1)) (List.mem_of_getElem? (i := 20) rfl)
theorem dX4_readClause_104 : decode cX4_readClause 104 = .ok (.ireturn, 1) := dgX4_readClause_1 (104, (.ireturn, 1)) (List.mem_of_getElem? (i := 21) rfl)
theorem fl_X4_18 : Cond.fieldLink RX4 18 "LateGlass$LawReader" "heads" "[I" ∈ tblG := tg 419 (by decide +kernel) (by decide +kernel)
theorem fl_X4_22 : Cond.fieldLink RX4 22 "LateGlass$LawReader" "starts" "[I" ∈ tblG := tg 420 (by decide +kernel) (by decide +kernel)
theorem g_stiN {f : Nat → Int32} {k k' : Int32} {l : Int} (h : STI f (k.toInt + 1) l) (hk : k'.toInt = k.toInt + 1) : STI f k'.toInt l := by rw [hk]; exact h
theorem g_sti {f g : Nat → Int32} {k k' x : Int32} {n m : Nat} (h : STI f (k.toInt + 1) x.toInt) (h0 : 0 ≤ k.toInt) (hk : k'.toInt = k.toInt + 1) (hx : 0 ≤ x.toInt) (hm : (m : Int) = x.toInt) (hn : (n : Int) = k.toInt + 2) (e : ∀ j : Nat, j < n → g j = upd f k'.toNatClampNeg x j) : ∀ j : Nat, j < n → 0 ≤ (g j).toInt ∧ (g j).toInt ≤ (m : Int) := by
  have z : STI (upd f k'.toNatClampNeg x) (k'.toInt + 1) x.toInt := sti_set (by rw [hk]; exact h) (by omega) ⟨hx, Int.le_refl _⟩ (Int.le_refl _)
  rw [hm]
  exact sti_at z (by omega) e
theorem dgX4_read_0 : ∀ r ∈ ([(0, (.aload_n 0, 1)), (1, (.getfield 12, 3)), (4, (.aload_n 1, 1)), (5, (.iload_n 2, 1)), (6, (.invokevirtual 32, 3)), (9, (.aload_n 0, 1)), (10, (.iconst 0, 1)), (11, (.putfield 36, 3)), (14, (.aload_n 0, 1)), (15, (.iconst 0, 1)), (16, (.putfield 39, 3)), (19, (.aload_n 0, 1)), (20, (.iconst 0, 1)), (21, (.putfield 42, 3)), (24, (.iconst 0, 1)), (25, (.istore_n 3, 1)), (26, (.iload_n 3, 1)), (27, (.bipush 12, 2)), (29, (.if_icmp .ge 98, 3)), (32, (.aload_n 0, 1)), (33, (.iload_n 3, 1)), (34, (.invokevirtual 45, 3)), (37, (.ifCond .eq 90, 3)), (40, (.aload_n 0, 1)), (41, (.sipush 302, 3)), (44, (.invokevirtual 49, 3)), (47, (.ifCond .eq 62, 3)), (50, (.aload_n 0, 1)), (51, (.iconst (-1), 1)), (52, (.putfield 28, 3)), (55, (.aload_n 0, 1)), (56, (.getfield 22, 3)), (59, (.iload_n 3, 1)), (60, (.iconst 1, 1)), (61, (.iadd, 1)), (62, (.aload_n 0, 1)), (63, (.getfield 36, 3)), (66, (.iastore, 1)), (67, (.new 52, 3)), (70, (.dup, 1))] : List (Nat × (Instr × Nat))), decode cX4_read r.1 = .ok r.2 := by decide +kernel
theorem dX4_read_0 : decode cX4_read 0 = .ok (.aload_n 0, 1) := dgX4_read_0 (0, (.aload_n 0, 1)) (List.mem_of_getElem? (i := 0) rfl)
theorem dX4_read_1 : decode cX4_read 1 = .ok (.getfield 12, 3) := dgX4_read_0 (1, (.getfield 12, 3)) (List.mem_of_getElem? (i := 1) rfl)
theorem dX4_read_4 : decode cX4_read 4 = .ok (.aload_n 1, 1) := dgX4_read_0 (4, (.aload_n 1, 1)) (List.mem_of_getElem? (i := 2) rfl)
theorem dX4_read_5 : decode cX4_read 5 = .ok (.iload_n 2, 1) := dgX4_read_0 (5, (.iload_n 2, 1)) (List.mem_of_getElem? (i := 3) rfl)
theorem dX4_read_6 : decode cX4_read 6 = .ok (.invokevirtual 32, 3) := dgX4_read_0 (6, (.invokevirtual 32, 3)) (List.mem_of_getElem? (i := 4) rfl)
theorem dX4_read_9 : decode cX4_read 9 = .ok (.aload_n 0, 1) := dgX4_read_0 (9, (.aload_n 0, 1)) (List.mem_of_getElem? (i := 5) rfl)
theorem dX4_read_10 : decode cX4_read 10 = .ok (.iconst 0, 1) := dgX4_read_0 (10, (.iconst 0, 1)) (List.mem_of_getElem? (i := 6) rfl)
theorem dX4_read_11 : decode cX4_read 11 = .ok (.putfield 36, 3) := dgX4_read_0 (11, (.putfield 36, 3)) (List.mem_of_getElem? (i := 7) rfl)
theorem dX4_read_14 : decode cX4_read 14 = .ok (.aload_n 0, 1) := dgX4_read_0 (14, (.aload_n 0, 1)) (List.mem_of_getElem? (i := 8) rfl)
theorem dX4_read_15 : decode cX4_read 15 = .ok (.iconst 0, 1) := dgX4_read_0 (15, (.iconst 0, 1)) (List.mem_of_getElem? (i := 9) rfl)
theorem dX4_read_16 : decode cX4_read 16 = .ok (.putfield 39, 3) := dgX4_read_0 (16, (.putfield 39, 3)) (List.mem_of_getElem? (i := 10) rfl)
theorem dX4_read_19 : decode cX4_read 19 = .ok (.aload_n 0, 1) := dgX4_read_0 (19, (.aload_n 0, 1)) (List.mem_of_getElem? (i := 11) rfl)
theorem dX4_read_20 : decode cX4_read 20 = .ok (.iconst 0, 1) := dgX4_read_0 (20, (.iconst 0, 1)) (List.mem_of_getElem? (i := 12) rfl)
theorem dX4_read_21 : decode cX4_read 21 = .ok (.putfield 42, 3) := dgX4_read_0 (21, (.putfield 42, 3)) (List.mem_of_getElem? (i := 13) rfl)
theorem dX4_read_24 : decode cX4_read 24 = .ok (.iconst 0, 1) := dgX4_read_0 (24, (.iconst 0, 1)) (List.mem_of_getElem? (i := 14) rfl)
theorem dX4_read_25 : decode cX4_read 25 = .ok (.istore_n 3, 1) := dgX4_read_0 (25, (.istore_n 3, 1)) (List.mem_of_getElem? (i := 15) rfl)
theorem dX4_read_26 : decode cX4_read 26 = .ok (.iload_n 3, 1) := dgX4_read_0 (26, (.iload_n 3, 1)) (List.mem_of_getElem? (i := 16) rfl)
theorem dX4_read_27 : decode cX4_read 27 = .ok (.bipush 12, 2) := dgX4_read_0 (27, (.bipush 12, 2)) (List.mem_of_getElem? (i := 17) rfl)
theorem dX4_read_29 : decode cX4_read 29 = .ok (.if_icmp .ge 98, 3) := dgX4_read_0 (29, (.if_icmp .ge 98, 3)) (List.mem_of_getElem? (i := 18) rfl)
theorem dX4_read_32 : decode cX4_read 32 = .ok (.aload_n 0, 1) := dgX4_read_0 (32, (.aload_n 0, 1)) (List.mem_of_getElem? (i := 19) rfl)
theorem dX4_read_33 : decode cX4_read 33 = .ok (.iload_n 3, 1) := dgX4_read_0 (33, (.iload_n 3, 1)) (List.mem_of_getElem? (i := 20) rfl)
theorem dX4_read_34 : decode cX4_read 34 = .ok (.invokevirtual 45, 3) := dgX4_read_0 (34, (.invokevirtual 45, 3)) (List.mem_of_getElem? (i := 21) rfl)
theorem dX4_read_37 : decode cX4_read 37 = .ok (.ifCond .eq 90, 3) := dgX4_read_0 (37, (.ifCond .eq 90, 3)) (List.mem_of_getElem? (i := 22) rfl)
theorem dX4_read_40 : decode cX4_read 40 = .ok (.aload_n 0, 1) := dgX4_read_0 (40, (.aload_n 0, 1)) (List.mem_of_getElem? (i := 23) rfl)
theorem dX4_read_41 : decode cX4_read 41 = .ok (.sipush 302, 3) := dgX4_read_0 (41, (.sipush 302, 3)) (List.mem_of_getElem? (i := 24) rfl)
theorem dX4_read_44 : decode cX4_read 44 = .ok (.invokevirtual 49, 3) := dgX4_read_0 (44, (.invokevirtual 49, 3)) (List.mem_of_getElem? (i := 25) rfl)
theorem dX4_read_47 : decode cX4_read 47 = .ok (.ifCond .eq 62, 3) := dgX4_read_0 (47, (.ifCond .eq 62, 3)) (List.mem_of_getElem? (i := 26) rfl)
theorem dX4_read_50 : decode cX4_read 50 = .ok (.aload_n 0, 1) := dgX4_read_0 (50, (.aload_n 0, 1)) (List.mem_of_getElem? (i := 27) rfl)
theorem dX4_read_51 : decode cX4_read 51 = .ok (.iconst (-1), 1) := dgX4_read_0 (51, (.iconst (-1), 1)) (List.mem_of_getElem? (i := 28) rfl)
theorem dX4_read_52 : decode cX4_read 52 = .ok (.putfield 28, 3) := dgX4_read_0 (52, (.putfield 28, 3)) (List.mem_of_getElem? (i := 29) rfl)
theorem dX4_read_55 : decode cX4_read 55 = .ok (.aload_n 0, 1) := dgX4_read_0 (55, (.aload_n 0, 1)) (List.mem_of_getElem? (i := 30) rfl)
theorem dX4_read_56 : decode cX4_read 56 = .ok (.getfield 22, 3) := dgX4_read_0 (56, (.getfield 22, 3)) (List.mem_of_getElem? (i := 31) rfl)
theorem dX4_read_59 : decode cX4_read 59 = .ok (.iload_n 3, 1) := dgX4_read_0 (59, (.iload_n 3, 1)) (List.mem_of_getElem? (i := 32) rfl)
theorem dX4_read_60 : decode cX4_read 60 = .ok (.iconst 1, 1) := dgX4_read_0 (60, (.iconst 1, 1)) (List.mem_of_getElem? (i := 33) rfl)
theorem dX4_read_61 : decode cX4_read 61 = .ok (.iadd, 1) := dgX4_read_0 (61, (.iadd, 1)) (List.mem_of_getElem? (i := 34) rfl)
theorem dX4_read_62 : decode cX4_read 62 = .ok (.aload_n 0, 1) := dgX4_read_0 (62, (.aload_n 0, 1)) (List.mem_of_getElem? (i := 35) rfl)
theorem dX4_read_63 : decode cX4_read 63 = .ok (.getfield 36, 3) := dgX4_read_0 (63, (.getfield 36, 3)) (List.mem_of_getElem? (i := 36) rfl)
theorem dX4_read_66 : decode cX4_read 66 = .ok (.iastore, 1) := dgX4_read_0 (66, (.iastore, 1)) (List.mem_of_getElem? (i := 37) rfl)
theorem dX4_read_67 : decode cX4_read 67 = .ok (.new 52, 3) := dgX4_read_0 (67, (.new 52, 3)) (List.mem_of_getElem? (i := 38) rfl)
theorem dX4_read_70 : decode cX4_read 70 = .ok (.dup, 1) := dgX4_read_0 (70, (.dup, 1)) (List.mem_of_getElem? (i := 39) rfl)
theorem dgX4_read_1 : ∀ r ∈ ([(71, (.iload_n 3, 1)), (72, (.iconst 1, 1)), (73, (.iadd, 1)), (74, (.aload_n 0, 1)), (75, (.getfield 18, 3)), (78, (.iload_n 3, 1)), (79, (.iconst 1, 1)), (80, (.iadd, 1)), (81, (.invokestatic 54, 3)), (84, (.aload_n 0, 1)), (85, (.getfield 22, 3)), (88, (.iload_n 3, 1)), (89, (.iconst 2, 1)), (90, (.iadd, 1)), (91, (.invokestatic 54, 3)), (94, (.aload_n 0, 1)), (95, (.getfield 25, 3)), (98, (.aload_n 0, 1)), (99, (.getfield 36, 3)), (102, (.invokestatic 54, 3)), (105, (.invokespecial 60, 3)), (108, (.areturn, 1)), (109, (.aload_n 0, 1)), (110, (.bipush 59, 2)), (112, (.invokevirtual 63, 3)), (115, (.ifCond .ne 6, 3)), (118, (.goto 9, 3)), (121, (.iinc 3 1, 3)), (124, (.goto (-98), 3)), (127, (.aload_n 0, 1)), (128, (.aload_n 0, 1)), (129, (.getfield 42, 3)), (132, (.aload_n 0, 1)), (133, (.getfield 12, 3)), (136, (.getfield 66, 3)), (139, (.arraylength, 1)), (140, (.if_icmp .ge 18, 3)), (143, (.aload_n 0, 1)), (144, (.getfield 12, 3)), (147, (.getfield 66, 3))] : List (Nat × (Instr × Nat))), decode cX4_read r.1 = .ok r.2 := by decide +kernel
theorem dX4_read_71 : decode cX4_read 71 = .ok (.iload_n 3, 1) := dgX4_read_1 (71, (.iload_n 3, 1)) (List.mem_of_getElem? (i := 0) rfl)
theorem dX4_read_72 : decode cX4_read 72 = .ok (.iconst 1, 1) := dgX4_read_1 (72, (.iconst 1, 1)) (List.mem_of_getElem? (i := 1) rfl)
theorem dX4_read_73 : decode cX4_read 73 = .ok (.iadd, 1) := dgX4_read_1 (73, (.iadd, 1)) (List.mem_of_getElem? (i := 2) rfl)
theorem dX4_read_74 : decode cX4_read 74 = .ok (.aload_n 0, 1) := dgX4_read_1 (74, (.aload_n 0, 1)) (List.mem_of_getElem? (i := 3) rfl)
theorem dX4_read_75 : decode cX4_read 75 = .ok (.getfield 18, 3) := dgX4_read_1 (75, (.getfield 18, 3)) (List.mem_of_getElem? (i := 4) rfl)
theorem dX4_read_78 : decode cX4_read 78 = .ok (.iload_n 3, 1) := dgX4_read_1 (78, (.iload_n 3, 1)) (List.mem_of_getElem? (i := 5) rfl)
theorem dX4_read_79 : decode cX4_read 79 = .ok (.iconst 1, 1) := dgX4_read_1 (79, (.iconst 1, 1)) (List.mem_of_getElem? (i := 6) rfl)
theorem dX4_read_80 : decode cX4_read 80 = .ok (.iadd, 1) := dgX4_read_1 (80, (.iadd, 1)) (List.mem_of_getElem? (i := 7) rfl)
theorem dX4_read_81 : decode cX4_read 81 = .ok (.invokestatic 54, 3) := dgX4_read_1 (81, (.invokestatic 54, 3)) (List.mem_of_getElem? (i := 8) rfl)
theorem dX4_read_84 : decode cX4_read 84 = .ok (.aload_n 0, 1) := dgX4_read_1 (84, (.aload_n 0, 1)) (List.mem_of_getElem? (i := 9) rfl)
theorem dX4_read_85 : decode cX4_read 85 = .ok (.getfield 22, 3) := dgX4_read_1 (85, (.getfield 22, 3)) (List.mem_of_getElem? (i := 10) rfl)
theorem dX4_read_88 : decode cX4_read 88 = .ok (.iload_n 3, 1) := dgX4_read_1 (88, (.iload_n 3, 1)) (List.mem_of_getElem? (i := 11) rfl)
theorem dX4_read_89 : decode cX4_read 89 = .ok (.iconst 2, 1) := dgX4_read_1 (89, (.iconst 2, 1)) (List.mem_of_getElem? (i := 12) rfl)
theorem dX4_read_90 : decode cX4_read 90 = .ok (.iadd, 1) := dgX4_read_1 (90, (.iadd, 1)) (List.mem_of_getElem? (i := 13) rfl)
theorem dX4_read_91 : decode cX4_read 91 = .ok (.invokestatic 54, 3) := dgX4_read_1 (91, (.invokestatic 54, 3)) (List.mem_of_getElem? (i := 14) rfl)
theorem dX4_read_94 : decode cX4_read 94 = .ok (.aload_n 0, 1) := dgX4_read_1 (94, (.aload_n 0, 1)) (List.mem_of_getElem? (i := 15) rfl)
theorem dX4_read_95 : decode cX4_read 95 = .ok (.getfield 25, 3) := dgX4_read_1 (95, (.getfield 25, 3)) (List.mem_of_getElem? (i := 16) rfl)
theorem dX4_read_98 : decode cX4_read 98 = .ok (.aload_n 0, 1) := dgX4_read_1 (98, (.aload_n 0, 1)) (List.mem_of_getElem? (i := 17) rfl)
theorem dX4_read_99 : decode cX4_read 99 = .ok (.getfield 36, 3) := dgX4_read_1 (99, (.getfield 36, 3)) (List.mem_of_getElem? (i := 18) rfl)
theorem dX4_read_102 : decode cX4_read 102 = .ok (.invokestatic 54, 3) := dgX4_read_1 (102, (.invokestatic 54, 3)) (List.mem_of_getElem? (i := 19) rfl)
theorem dX4_read_105 : decode cX4_read 105 = .ok (.invokespecial 60, 3) := dgX4_read_1 (105, (.invokespecial 60, 3)) (List.mem_of_getElem? (i := 20) rfl)
theorem dX4_read_108 : decode cX4_read 108 = .ok (.areturn, 1) := dgX4_read_1 (108, (.areturn, 1)) (List.mem_of_getElem? (i := 21) rfl)
theorem dX4_read_109 : decode cX4_read 109 = .ok (.aload_n 0, 1) := dgX4_read_1 (109, (.aload_n 0, 1)) (List.mem_of_getElem? (i := 22) rfl)
theorem dX4_read_110 : decode cX4_read 110 = .ok (.bipush 59, 2) := dgX4_read_1 (110, (.bipush 59, 2)) (List.mem_of_getElem? (i := 23) rfl)
theorem dX4_read_112 : decode cX4_read 112 = .ok (.invokevirtual 63, 3) := dgX4_read_1 (112, (.invokevirtual 63, 3)) (List.mem_of_getElem? (i := 24) rfl)
theorem dX4_read_115 : decode cX4_read 115 = .ok (.ifCond .ne 6, 3) := dgX4_read_1 (115, (.ifCond .ne 6, 3)) (List.mem_of_getElem? (i := 25) rfl)
theorem dX4_read_118 : decode cX4_read 118 = .ok (.goto 9, 3) := dgX4_read_1 (118, (.goto 9, 3)) (List.mem_of_getElem? (i := 26) rfl)
theorem dX4_read_121 : decode cX4_read 121 = .ok (.iinc 3 1, 3) := dgX4_read_1 (121, (.iinc 3 1, 3)) (List.mem_of_getElem? (i := 27) rfl)
theorem dX4_read_124 : decode cX4_read 124 = .ok (.goto (-98), 3) := dgX4_read_1 (124, (.goto (-98), 3)) (List.mem_of_getElem? (i := 28) rfl)
theorem dX4_read_127 : decode cX4_read 127 = .ok (.aload_n 0, 1) := dgX4_read_1 (127, (.aload_n 0, 1)) (List.mem_of_getElem? (i := 29) rfl)
theorem dX4_read_128 : decode cX4_read 128 = .ok (.aload_n 0, 1) := dgX4_read_1 (128, (.aload_n 0, 1)) (List.mem_of_getElem? (i := 30) rfl)
theorem dX4_read_129 : decode cX4_read 129 = .ok (.getfield 42, 3) := dgX4_read_1 (129, (.getfield 42, 3)) (List.mem_of_getElem? (i := 31) rfl)
theorem dX4_read_132 : decode cX4_read 132 = .ok (.aload_n 0, 1) := dgX4_read_1 (132, (.aload_n 0, 1)) (List.mem_of_getElem? (i := 32) rfl)
theorem dX4_read_133 : decode cX4_read 133 = .ok (.getfield 12, 3) := dgX4_read_1 (133, (.getfield 12, 3)) (List.mem_of_getElem? (i := 33) rfl)
theorem dX4_read_136 : decode cX4_read 136 = .ok (.getfield 66, 3) := dgX4_read_1 (136, (.getfield 66, 3)) (List.mem_of_getElem? (i := 34) rfl)
theorem dX4_read_139 : decode cX4_read 139 = .ok (.arraylength, 1) := dgX4_read_1 (139, (.arraylength, 1)) (List.mem_of_getElem? (i := 35) rfl)
theorem dX4_read_140 : decode cX4_read 140 = .ok (.if_icmp .ge 18, 3) := dgX4_read_1 (140, (.if_icmp .ge 18, 3)) (List.mem_of_getElem? (i := 36) rfl)
theorem dX4_read_143 : decode cX4_read 143 = .ok (.aload_n 0, 1) := dgX4_read_1 (143, (.aload_n 0, 1)) (List.mem_of_getElem? (i := 37) rfl)
theorem dX4_read_144 : decode cX4_read 144 = .ok (.getfield 12, 3) := dgX4_read_1 (144, (.getfield 12, 3)) (List.mem_of_getElem? (i := 38) rfl)
theorem dX4_read_147 : decode cX4_read 147 = .ok (.getfield 66, 3) := dgX4_read_1 (147, (.getfield 66, 3)) (List.mem_of_getElem? (i := 39) rfl)
theorem dgX4_read_2 : ∀ r ∈ ([(150, (.aload_n 0, 1)), (151, (.getfield 42, 3)), (154, (.iaload, 1)), (155, (.goto 4, 3)), (158, (.iload_n 2, 1)), (159, (.putfield 28, 3)), (162, (.aconst_null, 1)), (163, (.areturn, 1))] : List (Nat × (Instr × Nat))), decode cX4_read r.1 = .ok r.2 := by decide +kernel
theorem dX4_read_150 : decode cX4_read 150 = .ok (.aload_n 0, 1) := dgX4_read_2 (150, (.aload_n 0, 1)) (List.mem_of_getElem? (i := 0) rfl)
theorem dX4_read_151 : decode cX4_read 151 = .ok (.getfield 42, 3) := dgX4_read_2 (151, (.getfield 42, 3)) (List.mem_of_getElem? (i := 1) rfl)
theorem dX4_read_154 : decode cX4_read 154 = .ok (.iaload, 1) := dgX4_read_2 (154, (.iaload, 1)) (List.mem_of_getElem? (i := 2) rfl)
theorem dX4_read_155 : decode cX4_read 155 = .ok (.goto 4, 3) := dgX4_read_2 (155, (.goto 4, 3)) (List.mem_of_getElem? (i := 3) rfl)
theorem dX4_read_159 : decode cX4_read 159 = .ok (.putfield 28, 3) := dgX4_read_2 (159, (.putfield 28, 3)) (List.mem_of_getElem? (i := 5) rfl)
theorem dX4_read_162 : decode cX4_read 162 = .ok (.aconst_null, 1) := dgX4_read_2 (162, (.aconst_null, 1)) (List.mem_of_getElem? (i := 6) rfl)
theorem dX4_read_163 : decode cX4_read 163 = .ok (.areturn, 1) := dgX4_read_2 (163, (.areturn, 1)) (List.mem_of_getElem? (i := 7) rfl)
theorem ml_X4_32 : Cond.methodLink RX4 32 yX8_cut ∈ tblG := tg 645 (by decide +kernel) (by decide +kernel)
theorem im_X8_cut : Cond.instanceMethod yX8_cut ∈ tblG := tg 646 (by decide +kernel) (by decide +kernel)
theorem se_X8_cut : Cond.selects RX8 yX8_cut yX8_cut ∈ tblG := tg 647 (by decide +kernel) (by decide +kernel)
theorem cd_X8_cut : Cond.code yX8_cut cX8_cut 7 none ∈ tblG := tg 648 (by decide +kernel) (by decide +kernel)
theorem gW_X8_cut : GoodIn tblG (wsG yX8_cut cX8_cut 7 none) := tgi cd_X8_cut
theorem gV_X4_32 : GoodIn tblG (wsV RX4 32 RX8 yX8_cut (wsG yX8_cut cX8_cut 7 none)) := tgV ml_X4_32 im_X8_cut se_X8_cut ini_X8 gW_X8_cut
theorem hv_X8_cut : yX8_cut.cls = RX8 ∧ yX8_cut.cls ≠ "java/lang/invoke/MethodHandle" ∧ yX8_cut.cls ≠ "java/lang/invoke/VarHandle" ∧ (parseMethodDescriptor yX8_cut.desc).map (fun d => d.parameters.length) = some 2 := by decide +kernel
theorem fl_X4_66 : Cond.fieldLink RX4 66 "LateGlass$Tokens" "places" "[I" ∈ tblG := tg 410 (by decide +kernel) (by decide +kernel)
theorem fl_X4_28 : Cond.fieldLink RX4 28 "LateGlass$LawReader" "faultPlace" "I" ∈ tblG := tg 425 (by decide +kernel) (by decide +kernel)
theorem ml_X4_45 : Cond.methodLink RX4 45 yX4_readClause ∈ tblG := tg 716 (by decide +kernel) (by decide +kernel)
theorem im_X4_readClause : Cond.instanceMethod yX4_readClause ∈ tblG := tg 718 (by decide +kernel) (by decide +kernel)
theorem se_X4_readClause : Cond.selects RX4 yX4_readClause yX4_readClause ∈ tblG := tg 4 (by decide +kernel) (by decide +kernel)
theorem cd_X4_readClause : Cond.code yX4_readClause cX4_readClause 3 (some .boolean) ∈ tblG := tg 719 (by decide +kernel) (by decide +kernel)
theorem gW_X4_readClause : GoodIn tblG (wsG yX4_readClause cX4_readClause 3 (some .boolean)) := tgi cd_X4_readClause
theorem gV_X4_45 : GoodIn tblG (wsV RX4 45 RX4 yX4_readClause (wsG yX4_readClause cX4_readClause 3 (some .boolean))) := tgV ml_X4_45 im_X4_readClause se_X4_readClause ini_X4 gW_X4_readClause
theorem hv_X4_readClause : yX4_readClause.cls = RX4 ∧ yX4_readClause.cls ≠ "java/lang/invoke/MethodHandle" ∧ yX4_readClause.cls ≠ "java/lang/invoke/VarHandle" ∧ (parseMethodDescriptor yX4_readClause.desc).map (fun d => d.parameters.length) = some 1 := by decide +kernel
theorem cl_X4_52 : Cond.classLink RX4 52 RX3 ∈ tblG := tg 756 (by decide +kernel) (by decide +kernel)
theorem isn_X3 : Cond.instantiable RX3 4 ∈ tblG := tg 757 (by decide +kernel) (by decide +kernel)
theorem ini_X3 : Cond.initialized RX3 ∈ tblG := tg 104 (by decide +kernel) (by decide +kernel)
theorem ml_X4_54 : Cond.methodLink RX4 54 yJ7_copyOf_59c91 ∈ tblG := tg 758 (by decide +kernel) (by decide +kernel)
theorem st_J7_copyOf_59c91 : Cond.static yJ7_copyOf_59c91 ∈ tblG := tg 759 (by decide +kernel) (by decide +kernel)
theorem cd_J7_copyOf_59c91 : Cond.code yJ7_copyOf_59c91 cJ7_copyOf_59c91 3 (some (.array .int)) ∈ tblG := tg 760 (by decide +kernel) (by decide +kernel)
theorem gW_J7_copyOf_59c91 : GoodIn tblG (wsG yJ7_copyOf_59c91 cJ7_copyOf_59c91 3 (some (.array .int))) := tgi cd_J7_copyOf_59c91
theorem gS_X4_54 : GoodIn tblG (va_wsS RX4 54 yJ7_copyOf_59c91 (wsG yJ7_copyOf_59c91 cJ7_copyOf_59c91 3 (some (.array .int)))) := tgS ml_X4_54 st_J7_copyOf_59c91 ini_J7 gW_J7_copyOf_59c91
theorem hs_J7_copyOf_59c91 : yJ7_copyOf_59c91.cls ≠ "java/lang/invoke/MethodHandle" ∧ yJ7_copyOf_59c91.cls ≠ "java/lang/invoke/VarHandle" ∧ (parseMethodDescriptor yJ7_copyOf_59c91.desc).map (fun d => d.parameters.length) = some 2 := by decide +kernel
theorem oi_X3_1 : Cond.methodLink RX3 1 objectInit ∈ tblG := tg 777 (by decide +kernel) (by decide +kernel)
theorem oi_im : Cond.instanceMethod objectInit ∈ tblG := tg 117 (by decide +kernel) (by decide +kernel)
theorem oi_cd : Cond.code objectInit ⟨#[0xb1]⟩ 1 none ∈ tblG := tg 118 (by decide +kernel) (by decide +kernel)
theorem fl_X3_7 : Cond.fieldLink RX3 7 "LateGlass$Law" "clauses" "I" ∈ tblG := tg 778 (by decide +kernel) (by decide +kernel)
theorem fl_X3_13 : Cond.fieldLink RX3 13 "LateGlass$Law" "heads" "[I" ∈ tblG := tg 780 (by decide +kernel) (by decide +kernel)
theorem fl_X3_17 : Cond.fieldLink RX3 17 "LateGlass$Law" "starts" "[I" ∈ tblG := tg 782 (by decide +kernel) (by decide +kernel)
theorem fl_X3_20 : Cond.fieldLink RX3 20 "LateGlass$Law" "code" "[I" ∈ tblG := tg 784 (by decide +kernel) (by decide +kernel)
theorem dgX3_init_0 : ∀ r ∈ ([(0, (.aload_n 0, 1)), (1, (.invokespecial 1, 3)), (4, (.aload_n 0, 1)), (5, (.iload_n 1, 1)), (6, (.putfield 7, 3)), (9, (.aload_n 0, 1)), (10, (.aload_n 2, 1)), (11, (.putfield 13, 3)), (14, (.aload_n 0, 1)), (15, (.aload_n 3, 1)), (16, (.putfield 17, 3)), (19, (.aload_n 0, 1)), (20, (.aload 4, 2)), (22, (.putfield 20, 3)), (25, (.return_, 1))] : List (Nat × (Instr × Nat))), decode cX3_init r.1 = .ok r.2 := by decide +kernel
theorem dX3_init_0 : decode cX3_init 0 = .ok (.aload_n 0, 1) := dgX3_init_0 (0, (.aload_n 0, 1)) (List.mem_of_getElem? (i := 0) rfl)
theorem dX3_init_1 : decode cX3_init 1 = .ok (.invokespecial 1, 3) := dgX3_init_0 (1, (.invokespecial 1, 3)) (List.mem_of_getElem? (i := 1) rfl)
theorem dX3_init_4 : decode cX3_init 4 = .ok (.aload_n 0, 1) := dgX3_init_0 (4, (.aload_n 0, 1)) (List.mem_of_getElem? (i := 2) rfl)
theorem dX3_init_5 : decode cX3_init 5 = .ok (.iload_n 1, 1) := dgX3_init_0 (5, (.iload_n 1, 1)) (List.mem_of_getElem? (i := 3) rfl)
theorem dX3_init_6 : decode cX3_init 6 = .ok (.putfield 7, 3) := dgX3_init_0 (6, (.putfield 7, 3)) (List.mem_of_getElem? (i := 4) rfl)
theorem dX3_init_9 : decode cX3_init 9 = .ok (.aload_n 0, 1) := dgX3_init_0 (9, (.aload_n 0, 1)) (List.mem_of_getElem? (i := 5) rfl)
theorem dX3_init_10 : decode cX3_init 10 = .ok (.aload_n 2, 1) := dgX3_init_0 (10, (.aload_n 2, 1)) (List.mem_of_getElem? (i := 6) rfl)
theorem dX3_init_11 : decode cX3_init 11 = .ok (.putfield 13, 3) := dgX3_init_0 (11, (.putfield 13, 3)) (List.mem_of_getElem? (i := 7) rfl)
theorem dX3_init_14 : decode cX3_init 14 = .ok (.aload_n 0, 1) := dgX3_init_0 (14, (.aload_n 0, 1)) (List.mem_of_getElem? (i := 8) rfl)
theorem dX3_init_15 : decode cX3_init 15 = .ok (.aload_n 3, 1) := dgX3_init_0 (15, (.aload_n 3, 1)) (List.mem_of_getElem? (i := 9) rfl)
theorem dX3_init_16 : decode cX3_init 16 = .ok (.putfield 17, 3) := dgX3_init_0 (16, (.putfield 17, 3)) (List.mem_of_getElem? (i := 10) rfl)
theorem dX3_init_19 : decode cX3_init 19 = .ok (.aload_n 0, 1) := dgX3_init_0 (19, (.aload_n 0, 1)) (List.mem_of_getElem? (i := 11) rfl)
theorem dX3_init_20 : decode cX3_init 20 = .ok (.aload 4, 2) := dgX3_init_0 (20, (.aload 4, 2)) (List.mem_of_getElem? (i := 12) rfl)
theorem dX3_init_22 : decode cX3_init 22 = .ok (.putfield 20, 3) := dgX3_init_0 (22, (.putfield 20, 3)) (List.mem_of_getElem? (i := 13) rfl)
theorem dX3_init_25 : decode cX3_init 25 = .ok (.return_, 1) := dgX3_init_0 (25, (.return_, 1)) (List.mem_of_getElem? (i := 14) rfl)
set_option maxHeartbeats 4000000 in
set_option maxRecDepth 100000 in
theorem kX3_init (l : Launch) (G : g5_G) (a0 a1 a2 a3 : Nat) (sz : Nat) (n0 : Int32) (h_n0 : 1 ≤ n0.toInt ∧ n0.toInt ≤ 12) : Met l yX3_init (wsG yX3_init cX3_init 5 none) ({ frames := 1, cells := 0, slots := 0, locals := 12 }) (va_Pc [.ref a0, .int n0, .ref a1, .ref a2, .ref a3] (g5_P G [(a0, .inr (3, [.int 0, .null, .null, .null]))] sz)) (va_Qv (fun (u : va_W) => ((u = [(a0, (oc3 n0 a1 a2 a3))]))) (g5_B G (va_A [(a0, .inr (3, [.int 0, .null, .null, .null]))] sz)) (va_A [(a0, .inr (3, [.int 0, .null, .null, .null]))] sz)) 0 0 (va_A [(a0, .inr (3, [.int 0, .null, .null, .null]))] sz) := by
  refine Met.ofW (cc := cX3_init) (maxL := 5) (ret := none) (by decide) rfl ?_
  intro p e s m args below meth c s₁ B hml hv
  obtain ⟨rfl, hsz, hP, hK, hD0, hN, hT⟩ := hv
  have hx := B.exec
  have hb := B.bytes
  have hr := B.returns
  have hts : ∀ w ∈ tblG, w.before _ s = true := fun w h => atoms_spec (ws := (wsG yX3_init cX3_init 5 none)) B.pre w (List.mem_cons_of_mem _ h)
  have hown : s.vm.findClass RX3 = some m.cls := findClass_of_methodNamed B.named
  have hlocks := B.notSynchronized
  have hin : meth.name = "<init>" := (name_of_methodNamed B.named B.method).1
  subst hsz
  have hD := hD0.self (sz := s.heap.size)
  generalize hAe : va_A [(a0, .inr (3, [.int 0, .null, .null, .null]))] s.heap.size = A at hD hT ⊢
  have hA : ∀ q : Nat, s.heap.size ≤ q → A q := fun q h => by rw [← hAe]; exact Or.inr h
  have hS : va_S A s.heap s.heap [] := va_S.rf
  have hP : va_P G.1 vwCl [(a0, .inr (3, [.int 0, .null, .null, .null]))] s.heap := hP
  have hl := lv_entry ([.ref a0, .int n0, .ref a1, .ref a2, .ref a3]) (n := 5) (Nat.le_of_ble_eq_true rfl)
  rw [lg_entry_eq]
  generalize (lg_sl ([.ref a0, .int n0, .ref a1, .ref a2, .ref a3]) ++ List.replicate (5 - (lg_sl ([.ref a0, .int n0, .ref a1, .ref a2, .ref a3])).length) Slot.unset).toArray = ls at hl ⊢
  have hl : lv_has ls 5 [(0, .ref a0), (1, .int n0), (2, .ref a1), (3, .ref a2), (4, .ref a3)] := hl
  refine lv_aload_n hx hb dX3_init_0 rfl (lv_at hl 0 rfl) ?_
  refine W.objInit hx hb hown (hts _ oi_X3_1) (hts _ oi_im) (hts _ oi_cd) rfl (by rw [hml]; exact hl.1) rfl dX3_init_1 (Nat.le_of_ble_eq_true rfl) (Nat.le_of_ble_eq_true rfl) ?_
  refine W.eq (g2 := F0 m 4 ls []) rfl ?_
  refine lv_aload_n hx hb dX3_init_4 rfl (lv_at hl 0 rfl) ?_
  refine lv_iload_n hx hb dX3_init_5 rfl (lv_at hl 1 rfl) ?_
  refine va_putF (D := G.1) (ci := 3) (v := .int n0) (ty := .int) (C := RX3) (T := TX3) (N := 4) hx hb hts inG_X3 tyX3 tyX3_ok nmX3 hown hK hP hD hS 0 rfl rfl 0 (by decide) (hts _ fl_X3_7) (fun _ h9 => h9) rfl hin rfl (by decide +kernel) rfl rfl (Nat.le_of_ble_eq_true rfl) dX3_init_6 (fun H locs hP hD hS => ?_)
  refine g5_rs [(a0, .inr (3, [.int n0, .null, .null, .null]))] hP hD (fun hP hD => ?_)
  refine lv_aload_n hx hb dX3_init_9 rfl (lv_at hl 0 rfl) ?_
  refine lv_aload_n hx hb dX3_init_10 rfl (lv_at hl 2 rfl) ?_
  refine va_putF (D := G.1) (ci := 3) (v := .ref a1) (ty := .array .int) (C := RX3) (T := TX3) (N := 4) hx hb hts inG_X3 tyX3 tyX3_ok nmX3 hown hK hP hD hS 0 rfl rfl 1 (by decide) (hts _ fl_X3_13) (fun _ h9 => h9) rfl hin rfl (by decide +kernel) rfl rfl (Nat.le_of_ble_eq_true rfl) dX3_init_11 (fun H locs hP hD hS => ?_)
  refine g5_rs [(a0, .inr (3, [.int n0, .ref a1, .null, .null]))] hP hD (fun hP hD => ?_)
  refine lv_aload_n hx hb dX3_init_14 rfl (lv_at hl 0 rfl) ?_
  refine lv_aload_n hx hb dX3_init_15 rfl (lv_at hl 3 rfl) ?_
  refine va_putF (D := G.1) (ci := 3) (v := .ref a2) (ty := .array .int) (C := RX3) (T := TX3) (N := 4) hx hb hts inG_X3 tyX3 tyX3_ok nmX3 hown hK hP hD hS 0 rfl rfl 2 (by decide) (hts _ fl_X3_17) (fun _ h9 => h9) rfl hin rfl (by decide +kernel) rfl rfl (Nat.le_of_ble_eq_true rfl) dX3_init_16 (fun H locs hP hD hS => ?_)
  refine g5_rs [(a0, .inr (3, [.int n0, .ref a1, .ref a2, .null]))] hP hD (fun hP hD => ?_)
  refine lv_aload_n hx hb dX3_init_19 rfl (lv_at hl 0 rfl) ?_
  refine lv_aload hx hb dX3_init_20 (lv_at hl 4 rfl) ?_
  refine va_putF (D := G.1) (ci := 3) (v := .ref a3) (ty := .array .int) (C := RX3) (T := TX3) (N := 4) hx hb hts inG_X3 tyX3 tyX3_ok nmX3 hown hK hP hD hS 0 rfl rfl 3 (by decide) (hts _ fl_X3_20) (fun _ h9 => h9) rfl hin rfl (by decide +kernel) rfl rfl (Nat.le_of_ble_eq_true rfl) dX3_init_22 (fun H locs hP hD hS => ?_)
  refine g5_rs [(a0, (oc3 n0 a1 a2 a3))] hP hD (fun hP hD => ?_)
  exact W.vret hx hb hr (fun t ht hW => ⟨⟨[(a0, (oc3 n0 a1 a2 a3))], rfl, rfl, by rw [ht]; exact hP, hD⟩, hS.F ht⟩) hS.2.2 dX3_init_25
theorem cd_X3_init : Cond.code yX3_init cX3_init 5 none ∈ tblG := tg 776 (by decide +kernel) (by decide +kernel)
theorem gW_X3_init : GoodIn tblG (wsG yX3_init cX3_init 5 none) := tgi cd_X3_init
theorem ml_X4_60 : Cond.methodLink RX4 60 yX3_init ∈ tblG := tg 774 (by decide +kernel) (by decide +kernel)
theorem im_X3_init : Cond.instanceMethod yX3_init ∈ tblG := tg 775 (by decide +kernel) (by decide +kernel)
theorem hs_X3_init : yX3_init.cls ≠ "java/lang/invoke/MethodHandle" ∧ yX3_init.cls ≠ "java/lang/invoke/VarHandle" ∧ (parseMethodDescriptor yX3_init.desc).map (fun d => d.parameters.length) = some 4 := by decide +kernel
theorem dgX1_copyFrom_0 : ∀ r ∈ ([(0, (.aload_n 0, 1)), (1, (.aload_n 1, 1)), (2, (.getfield 9, 3)), (5, (.putfield 9, 3)), (8, (.aload_n 0, 1)), (9, (.aload_n 1, 1)), (10, (.getfield 15, 3)), (13, (.putfield 15, 3)), (16, (.aload_n 0, 1)), (17, (.aload_n 1, 1)), (18, (.getfield 19, 3)), (21, (.putfield 19, 3)), (24, (.aload_n 0, 1)), (25, (.aload_n 1, 1)), (26, (.getfield 22, 3)), (29, (.putfield 22, 3)), (32, (.aload_n 0, 1)), (33, (.aload_n 1, 1)), (34, (.getfield 25, 3)), (37, (.putfield 25, 3)), (40, (.iconst 0, 1)), (41, (.istore_n 2, 1)), (42, (.iload_n 2, 1)), (43, (.bipush 6, 2)), (45, (.if_icmp .ge 21, 3)), (48, (.aload_n 0, 1)), (49, (.getfield 30, 3)), (52, (.iload_n 2, 1)), (53, (.aload_n 1, 1)), (54, (.getfield 30, 3)), (57, (.iload_n 2, 1)), (58, (.aaload, 1)), (59, (.aastore, 1)), (60, (.iinc 2 1, 3)), (63, (.goto (-21), 3)), (66, (.aload_n 0, 1)), (67, (.getfield 39, 3)), (70, (.aload_n 1, 1)), (71, (.getfield 39, 3)), (74, (.invokevirtual 80, 3))] : List (Nat × (Instr × Nat))), decode cX1_copyFrom r.1 = .ok r.2 := by decide +kernel
theorem dX1_copyFrom_0 : decode cX1_copyFrom 0 = .ok (.aload_n 0, 1) := dgX1_copyFrom_0 (0, (.aload_n 0, 1)) (List.mem_of_getElem? (i := 0) rfl)
theorem dX1_copyFrom_1 : decode cX1_copyFrom 1 = .ok (.aload_n 1, 1) := dgX1_copyFrom_0 (1, (.aload_n 1, 1)) (List.mem_of_getElem? (i := 1) rfl)
theorem dX1_copyFrom_2 : decode cX1_copyFrom 2 = .ok (.getfield 9, 3) := dgX1_copyFrom_0 (2, (.getfield 9, 3)) (List.mem_of_getElem? (i := 2) rfl)
theorem dX1_copyFrom_5 : decode cX1_copyFrom 5 = .ok (.putfield 9, 3) := dgX1_copyFrom_0 (5, (.putfield 9, 3)) (List.mem_of_getElem? (i := 3) rfl)
theorem dX1_copyFrom_8 : decode cX1_copyFrom 8 = .ok (.aload_n 0, 1) := dgX1_copyFrom_0 (8, (.aload_n 0, 1)) (List.mem_of_getElem? (i := 4) rfl)
theorem dX1_copyFrom_9 : decode cX1_copyFrom 9 = .ok (.aload_n 1, 1) := dgX1_copyFrom_0 (9, (.aload_n 1, 1)) (List.mem_of_getElem? (i := 5) rfl)
theorem dX1_copyFrom_10 : decode cX1_copyFrom 10 = .ok (.getfield 15, 3) := dgX1_copyFrom_0 (10, (.getfield 15, 3)) (List.mem_of_getElem? (i := 6) rfl)
theorem dX1_copyFrom_13 : decode cX1_copyFrom 13 = .ok (.putfield 15, 3) := dgX1_copyFrom_0 (13, (.putfield 15, 3)) (List.mem_of_getElem? (i := 7) rfl)
theorem dX1_copyFrom_16 : decode cX1_copyFrom 16 = .ok (.aload_n 0, 1) := dgX1_copyFrom_0 (16, (.aload_n 0, 1)) (List.mem_of_getElem? (i := 8) rfl)
theorem dX1_copyFrom_17 : decode cX1_copyFrom 17 = .ok (.aload_n 1, 1) := dgX1_copyFrom_0 (17, (.aload_n 1, 1)) (List.mem_of_getElem? (i := 9) rfl)
theorem dX1_copyFrom_18 : decode cX1_copyFrom 18 = .ok (.getfield 19, 3) := dgX1_copyFrom_0 (18, (.getfield 19, 3)) (List.mem_of_getElem? (i := 10) rfl)
theorem dX1_copyFrom_21 : decode cX1_copyFrom 21 = .ok (.putfield 19, 3) := dgX1_copyFrom_0 (21, (.putfield 19, 3)) (List.mem_of_getElem? (i := 11) rfl)
theorem dX1_copyFrom_24 : decode cX1_copyFrom 24 = .ok (.aload_n 0, 1) := dgX1_copyFrom_0 (24, (.aload_n 0, 1)) (List.mem_of_getElem? (i := 12) rfl)
theorem dX1_copyFrom_25 : decode cX1_copyFrom 25 = .ok (.aload_n 1, 1) := dgX1_copyFrom_0 (25, (.aload_n 1, 1)) (List.mem_of_getElem? (i := 13) rfl)
theorem dX1_copyFrom_26 : decode cX1_copyFrom 26 = .ok (.getfield 22, 3) := dgX1_copyFrom_0 (26, (.getfield 22, 3)) (List.mem_of_getElem? (i := 14) rfl)
theorem dX1_copyFrom_29 : decode cX1_copyFrom 29 = .ok (.putfield 22, 3) := dgX1_copyFrom_0 (29, (.putfield 22, 3)) (List.mem_of_getElem? (i := 15) rfl)
theorem dX1_copyFrom_32 : decode cX1_copyFrom 32 = .ok (.aload_n 0, 1) := dgX1_copyFrom_0 (32, (.aload_n 0, 1)) (List.mem_of_getElem? (i := 16) rfl)
theorem dX1_copyFrom_33 : decode cX1_copyFrom 33 = .ok (.aload_n 1, 1) := dgX1_copyFrom_0 (33, (.aload_n 1, 1)) (List.mem_of_getElem? (i := 17) rfl)
theorem dX1_copyFrom_34 : decode cX1_copyFrom 34 = .ok (.getfield 25, 3) := dgX1_copyFrom_0 (34, (.getfield 25, 3)) (List.mem_of_getElem? (i := 18) rfl)
theorem dX1_copyFrom_37 : decode cX1_copyFrom 37 = .ok (.putfield 25, 3) := dgX1_copyFrom_0 (37, (.putfield 25, 3)) (List.mem_of_getElem? (i := 19) rfl)
theorem dX1_copyFrom_40 : decode cX1_copyFrom 40 = .ok (.iconst 0, 1) := dgX1_copyFrom_0 (40, (.iconst 0, 1)) (List.mem_of_getElem? (i := 20) rfl)
theorem dX1_copyFrom_41 : decode cX1_copyFrom 41 = .ok (.istore_n 2, 1) := dgX1_copyFrom_0 (41, (.istore_n 2, 1)) (List.mem_of_getElem? (i := 21) rfl)
theorem dX1_copyFrom_42 : decode cX1_copyFrom 42 = .ok (.iload_n 2, 1) := dgX1_copyFrom_0 (42, (.iload_n 2, 1)) (List.mem_of_getElem? (i := 22) rfl)
theorem dX1_copyFrom_43 : decode cX1_copyFrom 43 = .ok (.bipush 6, 2) := dgX1_copyFrom_0 (43, (.bipush 6, 2)) (List.mem_of_getElem? (i := 23) rfl)
theorem dX1_copyFrom_45 : decode cX1_copyFrom 45 = .ok (.if_icmp .ge 21, 3) := dgX1_copyFrom_0 (45, (.if_icmp .ge 21, 3)) (List.mem_of_getElem? (i := 24) rfl)
theorem dX1_copyFrom_48 : decode cX1_copyFrom 48 = .ok (.aload_n 0, 1) := dgX1_copyFrom_0 (48, (.aload_n 0, 1)) (List.mem_of_getElem? (i := 25) rfl)
theorem dX1_copyFrom_49 : decode cX1_copyFrom 49 = .ok (.getfield 30, 3) := dgX1_copyFrom_0 (49, (.getfield 30, 3)) (List.mem_of_getElem? (i := 26) rfl)
theorem dX1_copyFrom_52 : decode cX1_copyFrom 52 = .ok (.iload_n 2, 1) := dgX1_copyFrom_0 (52, (.iload_n 2, 1)) (List.mem_of_getElem? (i := 27) rfl)
theorem dX1_copyFrom_53 : decode cX1_copyFrom 53 = .ok (.aload_n 1, 1) := dgX1_copyFrom_0 (53, (.aload_n 1, 1)) (List.mem_of_getElem? (i := 28) rfl)
theorem dX1_copyFrom_54 : decode cX1_copyFrom 54 = .ok (.getfield 30, 3) := dgX1_copyFrom_0 (54, (.getfield 30, 3)) (List.mem_of_getElem? (i := 29) rfl)
theorem dX1_copyFrom_57 : decode cX1_copyFrom 57 = .ok (.iload_n 2, 1) := dgX1_copyFrom_0 (57, (.iload_n 2, 1)) (List.mem_of_getElem? (i := 30) rfl)
theorem dX1_copyFrom_58 : decode cX1_copyFrom 58 = .ok (.aaload, 1) := dgX1_copyFrom_0 (58, (.aaload, 1)) (List.mem_of_getElem? (i := 31) rfl)
theorem dX1_copyFrom_59 : decode cX1_copyFrom 59 = .ok (.aastore, 1) := dgX1_copyFrom_0 (59, (.aastore, 1)) (List.mem_of_getElem? (i := 32) rfl)
theorem dX1_copyFrom_60 : decode cX1_copyFrom 60 = .ok (.iinc 2 1, 3) := dgX1_copyFrom_0 (60, (.iinc 2 1, 3)) (List.mem_of_getElem? (i := 33) rfl)
theorem dX1_copyFrom_63 : decode cX1_copyFrom 63 = .ok (.goto (-21), 3) := dgX1_copyFrom_0 (63, (.goto (-21), 3)) (List.mem_of_getElem? (i := 34) rfl)
theorem dX1_copyFrom_66 : decode cX1_copyFrom 66 = .ok (.aload_n 0, 1) := dgX1_copyFrom_0 (66, (.aload_n 0, 1)) (List.mem_of_getElem? (i := 35) rfl)
theorem dX1_copyFrom_67 : decode cX1_copyFrom 67 = .ok (.getfield 39, 3) := dgX1_copyFrom_0 (67, (.getfield 39, 3)) (List.mem_of_getElem? (i := 36) rfl)
theorem dX1_copyFrom_70 : decode cX1_copyFrom 70 = .ok (.aload_n 1, 1) := dgX1_copyFrom_0 (70, (.aload_n 1, 1)) (List.mem_of_getElem? (i := 37) rfl)
theorem dX1_copyFrom_71 : decode cX1_copyFrom 71 = .ok (.getfield 39, 3) := dgX1_copyFrom_0 (71, (.getfield 39, 3)) (List.mem_of_getElem? (i := 38) rfl)
theorem dX1_copyFrom_74 : decode cX1_copyFrom 74 = .ok (.invokevirtual 80, 3) := dgX1_copyFrom_0 (74, (.invokevirtual 80, 3)) (List.mem_of_getElem? (i := 39) rfl)
theorem dgX1_copyFrom_1 : ∀ r ∈ ([(77, (.aload_n 0, 1)), (78, (.getfield 43, 3)), (81, (.aload_n 1, 1)), (82, (.getfield 43, 3)), (85, (.invokevirtual 80, 3)), (88, (.aload_n 0, 1)), (89, (.getfield 46, 3)), (92, (.aload_n 1, 1)), (93, (.getfield 46, 3)), (96, (.invokevirtual 80, 3)), (99, (.aload_n 0, 1)), (100, (.getfield 49, 3)), (103, (.aload_n 1, 1)), (104, (.getfield 49, 3)), (107, (.invokevirtual 80, 3)), (110, (.aload_n 0, 1)), (111, (.getfield 52, 3)), (114, (.aload_n 1, 1)), (115, (.getfield 52, 3)), (118, (.invokevirtual 80, 3)), (121, (.aload_n 0, 1)), (122, (.aload_n 1, 1)), (123, (.getfield 55, 3)), (126, (.putfield 55, 3)), (129, (.aload_n 1, 1)), (130, (.getfield 58, 3)), (133, (.iconst 0, 1)), (134, (.aload_n 0, 1)), (135, (.getfield 58, 3)), (138, (.iconst 0, 1)), (139, (.bipush 24, 2)), (141, (.invokestatic 84, 3)), (144, (.return_, 1))] : List (Nat × (Instr × Nat))), decode cX1_copyFrom r.1 = .ok r.2 := by decide +kernel
theorem dX1_copyFrom_77 : decode cX1_copyFrom 77 = .ok (.aload_n 0, 1) := dgX1_copyFrom_1 (77, (.aload_n 0, 1)) (List.mem_of_getElem? (i := 0) rfl)
theorem dX1_copyFrom_78 : decode cX1_copyFrom 78 = .ok (.getfield 43, 3) := dgX1_copyFrom_1 (78, (.getfield 43, 3)) (List.mem_of_getElem? (i := 1) rfl)
theorem dX1_copyFrom_81 : decode cX1_copyFrom 81 = .ok (.aload_n 1, 1) := dgX1_copyFrom_1 (81, (.aload_n 1, 1)) (List.mem_of_getElem? (i := 2) rfl)
theorem dX1_copyFrom_82 : decode cX1_copyFrom 82 = .ok (.getfield 43, 3) := dgX1_copyFrom_1 (82, (.getfield 43, 3)) (List.mem_of_getElem? (i := 3) rfl)
theorem dX1_copyFrom_85 : decode cX1_copyFrom 85 = .ok (.invokevirtual 80, 3) := dgX1_copyFrom_1 (85, (.invokevirtual 80, 3)) (List.mem_of_getElem? (i := 4) rfl)
theorem dX1_copyFrom_88 : decode cX1_copyFrom 88 = .ok (.aload_n 0, 1) := dgX1_copyFrom_1 (88, (.aload_n 0, 1)) (List.mem_of_getElem? (i := 5) rfl)
theorem dX1_copyFrom_89 : decode cX1_copyFrom 89 = .ok (.getfield 46, 3) := dgX1_copyFrom_1 (89, (.getfield 46, 3)) (List.mem_of_getElem? (i := 6) rfl)
theorem dX1_copyFrom_92 : decode cX1_copyFrom 92 = .ok (.aload_n 1, 1) := dgX1_copyFrom_1 (92, (.aload_n 1, 1)) (List.mem_of_getElem? (i := 7) rfl)
theorem dX1_copyFrom_93 : decode cX1_copyFrom 93 = .ok (.getfield 46, 3) := dgX1_copyFrom_1 (93, (.getfield 46, 3)) (List.mem_of_getElem? (i := 8) rfl)
theorem dX1_copyFrom_96 : decode cX1_copyFrom 96 = .ok (.invokevirtual 80, 3) := dgX1_copyFrom_1 (96, (.invokevirtual 80, 3)) (List.mem_of_getElem? (i := 9) rfl)
theorem dX1_copyFrom_99 : decode cX1_copyFrom 99 = .ok (.aload_n 0, 1) := dgX1_copyFrom_1 (99, (.aload_n 0, 1)) (List.mem_of_getElem? (i := 10) rfl)
theorem dX1_copyFrom_100 : decode cX1_copyFrom 100 = .ok (.getfield 49, 3) := dgX1_copyFrom_1 (100, (.getfield 49, 3)) (List.mem_of_getElem? (i := 11) rfl)
theorem dX1_copyFrom_103 : decode cX1_copyFrom 103 = .ok (.aload_n 1, 1) := dgX1_copyFrom_1 (103, (.aload_n 1, 1)) (List.mem_of_getElem? (i := 12) rfl)
theorem dX1_copyFrom_104 : decode cX1_copyFrom 104 = .ok (.getfield 49, 3) := dgX1_copyFrom_1 (104, (.getfield 49, 3)) (List.mem_of_getElem? (i := 13) rfl)
theorem dX1_copyFrom_107 : decode cX1_copyFrom 107 = .ok (.invokevirtual 80, 3) := dgX1_copyFrom_1 (107, (.invokevirtual 80, 3)) (List.mem_of_getElem? (i := 14) rfl)
theorem dX1_copyFrom_110 : decode cX1_copyFrom 110 = .ok (.aload_n 0, 1) := dgX1_copyFrom_1 (110, (.aload_n 0, 1)) (List.mem_of_getElem? (i := 15) rfl)
theorem dX1_copyFrom_111 : decode cX1_copyFrom 111 = .ok (.getfield 52, 3) := dgX1_copyFrom_1 (111, (.getfield 52, 3)) (List.mem_of_getElem? (i := 16) rfl)
theorem dX1_copyFrom_114 : decode cX1_copyFrom 114 = .ok (.aload_n 1, 1) := dgX1_copyFrom_1 (114, (.aload_n 1, 1)) (List.mem_of_getElem? (i := 17) rfl)
theorem dX1_copyFrom_115 : decode cX1_copyFrom 115 = .ok (.getfield 52, 3) := dgX1_copyFrom_1 (115, (.getfield 52, 3)) (List.mem_of_getElem? (i := 18) rfl)
theorem dX1_copyFrom_118 : decode cX1_copyFrom 118 = .ok (.invokevirtual 80, 3) := dgX1_copyFrom_1 (118, (.invokevirtual 80, 3)) (List.mem_of_getElem? (i := 19) rfl)
theorem dX1_copyFrom_121 : decode cX1_copyFrom 121 = .ok (.aload_n 0, 1) := dgX1_copyFrom_1 (121, (.aload_n 0, 1)) (List.mem_of_getElem? (i := 20) rfl)
theorem dX1_copyFrom_122 : decode cX1_copyFrom 122 = .ok (.aload_n 1, 1) := dgX1_copyFrom_1 (122, (.aload_n 1, 1)) (List.mem_of_getElem? (i := 21) rfl)
theorem dX1_copyFrom_123 : decode cX1_copyFrom 123 = .ok (.getfield 55, 3) := dgX1_copyFrom_1 (123, (.getfield 55, 3)) (List.mem_of_getElem? (i := 22) rfl)
theorem dX1_copyFrom_126 : decode cX1_copyFrom 126 = .ok (.putfield 55, 3) := dgX1_copyFrom_1 (126, (.putfield 55, 3)) (List.mem_of_getElem? (i := 23) rfl)
theorem dX1_copyFrom_129 : decode cX1_copyFrom 129 = .ok (.aload_n 1, 1) := dgX1_copyFrom_1 (129, (.aload_n 1, 1)) (List.mem_of_getElem? (i := 24) rfl)
theorem dX1_copyFrom_130 : decode cX1_copyFrom 130 = .ok (.getfield 58, 3) := dgX1_copyFrom_1 (130, (.getfield 58, 3)) (List.mem_of_getElem? (i := 25) rfl)
theorem dX1_copyFrom_133 : decode cX1_copyFrom 133 = .ok (.iconst 0, 1) := dgX1_copyFrom_1 (133, (.iconst 0, 1)) (List.mem_of_getElem? (i := 26) rfl)
theorem dX1_copyFrom_134 : decode cX1_copyFrom 134 = .ok (.aload_n 0, 1) := dgX1_copyFrom_1 (134, (.aload_n 0, 1)) (List.mem_of_getElem? (i := 27) rfl)
theorem dX1_copyFrom_135 : decode cX1_copyFrom 135 = .ok (.getfield 58, 3) := dgX1_copyFrom_1 (135, (.getfield 58, 3)) (List.mem_of_getElem? (i := 28) rfl)
theorem dX1_copyFrom_138 : decode cX1_copyFrom 138 = .ok (.iconst 0, 1) := dgX1_copyFrom_1 (138, (.iconst 0, 1)) (List.mem_of_getElem? (i := 29) rfl)
theorem dX1_copyFrom_139 : decode cX1_copyFrom 139 = .ok (.bipush 24, 2) := dgX1_copyFrom_1 (139, (.bipush 24, 2)) (List.mem_of_getElem? (i := 30) rfl)
theorem dX1_copyFrom_141 : decode cX1_copyFrom 141 = .ok (.invokestatic 84, 3) := dgX1_copyFrom_1 (141, (.invokestatic 84, 3)) (List.mem_of_getElem? (i := 31) rfl)
theorem dX1_copyFrom_144 : decode cX1_copyFrom 144 = .ok (.return_, 1) := dgX1_copyFrom_1 (144, (.return_, 1)) (List.mem_of_getElem? (i := 32) rfl)
theorem fl_X1_15 : Cond.fieldLink RX1 15 "LateGlass$House" "least" "I" ∈ tblG := tg 158 (by decide +kernel) (by decide +kernel)
theorem fl_X1_39 : Cond.fieldLink RX1 39 "LateGlass$House" "glasses" "LLateGlass$Table;" ∈ tblG := tg 170 (by decide +kernel) (by decide +kernel)
theorem ml_X1_80 : Cond.methodLink RX1 80 yX6_copyFrom ∈ tblG := tg 1167 (by decide +kernel) (by decide +kernel)
theorem im_X6_copyFrom : Cond.instanceMethod yX6_copyFrom ∈ tblG := tg 1168 (by decide +kernel) (by decide +kernel)
theorem se_X6_copyFrom : Cond.selects RX6 yX6_copyFrom yX6_copyFrom ∈ tblG := tg 1169 (by decide +kernel) (by decide +kernel)
theorem cd_X6_copyFrom : Cond.code yX6_copyFrom cX6_copyFrom 2 none ∈ tblG := tg 1170 (by decide +kernel) (by decide +kernel)
theorem gW_X6_copyFrom : GoodIn tblG (wsG yX6_copyFrom cX6_copyFrom 2 none) := tgi cd_X6_copyFrom
theorem gV_X1_80 : GoodIn tblG (wsV RX1 80 RX6 yX6_copyFrom (wsG yX6_copyFrom cX6_copyFrom 2 none)) := tgV ml_X1_80 im_X6_copyFrom se_X6_copyFrom ini_X6 gW_X6_copyFrom
theorem hv_X6_copyFrom : yX6_copyFrom.cls = RX6 ∧ yX6_copyFrom.cls ≠ "java/lang/invoke/MethodHandle" ∧ yX6_copyFrom.cls ≠ "java/lang/invoke/VarHandle" ∧ (parseMethodDescriptor yX6_copyFrom.desc).map (fun d => d.parameters.length) = some 1 := by decide +kernel
theorem fl_X1_52 : Cond.fieldLink RX1 52 "LateGlass$House" "wishes" "LLateGlass$Table;" ∈ tblG := tg 185 (by decide +kernel) (by decide +kernel)
theorem ml_X1_84 : Cond.methodLink RX1 84 arraycopyName ∈ tblG := tg 1171 (by decide +kernel) (by decide +kernel)
set_option maxHeartbeats 4000000 in
set_option maxRecDepth 100000 in
theorem h_copyFrom (l : Launch) (G : g5_G) (a_h a_l a_g a_gn a_b a_bn a_s a_sn a_p a_pn a_w a_wn a_bb a_h2 a_l2 a_g2 a_gn2 a_b2 a_bn2 a_s2 a_sn2 a_p2 a_pn2 a_w2 a_wn2 a_bb2 : Nat) (sz : Nat) (e_le : Int32) (e_st : Int32) (e_fo : Int32) (e_lc : Int32) (e_g : Int32) (e_b : Int32) (e_s : Int32) (e_p : Int32) (e_w : Int32) (e_le2 : Int32) (e_st2 : Int32) (e_fo2 : Int32) (e_lc2 : Int32) (e_g2 : Int32) (e_b2 : Int32) (e_s2 : Int32) (e_p2 : Int32) (e_w2 : Int32) (e_wa : Int64) (e_gb : Int64) (e_wa2 : Int64) (e_gb2 : Int64) (f_l : Nat → Option Nat) (f_g : Nat → Int32) (f_b : Nat → Int32) (f_s : Nat → Int32) (f_p : Nat → Int32) (f_w : Nat → Int32) (f_bb : Nat → Int64) (f_l2 : Nat → Option Nat) (f_g2 : Nat → Int32) (f_b2 : Nat → Int32) (f_s2 : Nat → Int32) (f_p2 : Nat → Int32) (f_w2 : Nat → Int32) (f_bb2 : Nat → Int64) (h_e_g : 0 ≤ e_g.toInt ∧ e_g.toInt ≤ 6) (h_e_b : 0 ≤ e_b.toInt ∧ e_b.toInt ≤ 5) (h_e_s : 0 ≤ e_s.toInt ∧ e_s.toInt ≤ 10) (h_e_p : 0 ≤ e_p.toInt ∧ e_p.toInt ≤ 8) (h_e_w : 0 ≤ e_w.toInt ∧ e_w.toInt ≤ 6) (h_e_g2 : 0 ≤ e_g2.toInt ∧ e_g2.toInt ≤ 6) (h_e_b2 : 0 ≤ e_b2.toInt ∧ e_b2.toInt ≤ 5) (h_e_s2 : 0 ≤ e_s2.toInt ∧ e_s2.toInt ≤ 10) (h_e_p2 : 0 ≤ e_p2.toInt ∧ e_p2.toInt ≤ 8) (h_e_w2 : 0 ≤ e_w2.toInt ∧ e_w2.toInt ≤ 6) : Met l yX1_copyFrom (wsG yX1_copyFrom cX1_copyFrom 3 none) ({ frames := 2, cells := 0, slots := 0, locals := 81 }) (va_Pc [.ref a_h, .ref a_h2] (g5_PL G f_l2 [(a_h, (oc1 e_wa e_le e_st e_fo e_lc a_l a_g a_b a_s a_p a_w e_gb a_bb)), (a_l, (arW G 6 f_l)), (a_g, (oc6 6 5 a_gn e_g)), (a_gn, (arI G 30 f_g)), (a_b, (oc6 5 24 a_bn e_b)), (a_bn, (arI G 120 f_b)), (a_s, (oc6 10 4 a_sn e_s)), (a_sn, (arI G 40 f_s)), (a_p, (oc6 8 5 a_pn e_p)), (a_pn, (arI G 40 f_p)), (a_w, (oc6 6 6 a_wn e_w)), (a_wn, (arI G 36 f_w)), (a_bb, (arJ G 24 f_bb)), (a_h2, (oc1 e_wa2 e_le2 e_st2 e_fo2 e_lc2 a_l2 a_g2 a_b2 a_s2 a_p2 a_w2 e_gb2 a_bb2)), (a_l2, (arW G 6 f_l2)), (a_g2, (oc6 6 5 a_gn2 e_g2)), (a_gn2, (arI G 30 f_g2)), (a_b2, (oc6 5 24 a_bn2 e_b2)), (a_bn2, (arI G 120 f_b2)), (a_s2, (oc6 10 4 a_sn2 e_s2)), (a_sn2, (arI G 40 f_s2)), (a_p2, (oc6 8 5 a_pn2 e_p2)), (a_pn2, (arI G 40 f_p2)), (a_w2, (oc6 6 6 a_wn2 e_w2)), (a_wn2, (arI G 36 f_w2)), (a_bb2, (arJ G 24 f_bb2))] sz)) (va_Qv (fun (u : va_W) => (∃ (o_l : Nat → Option Nat), (∀ j : Nat, j < 6 → o_l j = f_l2 j) ∧ (u = [(a_h, (oc1 e_wa2 e_le2 e_st2 e_fo2 e_lc2 a_l a_g a_b a_s a_p a_w e_gb2 a_bb)), (a_l, (arW G 6 o_l)), (a_g, (oc6 6 5 a_gn e_g2)), (a_gn, (arI G 30 (va_cpy f_g2 f_g 0 0 30))), (a_b, (oc6 5 24 a_bn e_b2)), (a_bn, (arI G 120 (va_cpy f_b2 f_b 0 0 120))), (a_s, (oc6 10 4 a_sn e_s2)), (a_sn, (arI G 40 (va_cpy f_s2 f_s 0 0 40))), (a_p, (oc6 8 5 a_pn e_p2)), (a_pn, (arI G 40 (va_cpy f_p2 f_p 0 0 40))), (a_w, (oc6 6 6 a_wn e_w2)), (a_wn, (arI G 36 (va_cpy f_w2 f_w 0 0 36))), (a_bb, (arJ G 24 (va_cpy f_bb2 f_bb 0 0 24))), (a_h2, (oc1 e_wa2 e_le2 e_st2 e_fo2 e_lc2 a_l2 a_g2 a_b2 a_s2 a_p2 a_w2 e_gb2 a_bb2)), (a_l2, (arW G 6 f_l2)), (a_g2, (oc6 6 5 a_gn2 e_g2)), (a_gn2, (arI G 30 f_g2)), (a_b2, (oc6 5 24 a_bn2 e_b2)), (a_bn2, (arI G 120 f_b2)), (a_s2, (oc6 10 4 a_sn2 e_s2)), (a_sn2, (arI G 40 f_s2)), (a_p2, (oc6 8 5 a_pn2 e_p2)), (a_pn2, (arI G 40 f_p2)), (a_w2, (oc6 6 6 a_wn2 e_w2)), (a_wn2, (arI G 36 f_w2)), (a_bb2, (arJ G 24 f_bb2))]))) (g5_B G (va_A [(a_h, (oc1 e_wa e_le e_st e_fo e_lc a_l a_g a_b a_s a_p a_w e_gb a_bb)), (a_l, (arW G 6 f_l)), (a_g, (oc6 6 5 a_gn e_g)), (a_gn, (arI G 30 f_g)), (a_b, (oc6 5 24 a_bn e_b)), (a_bn, (arI G 120 f_b)), (a_s, (oc6 10 4 a_sn e_s)), (a_sn, (arI G 40 f_s)), (a_p, (oc6 8 5 a_pn e_p)), (a_pn, (arI G 40 f_p)), (a_w, (oc6 6 6 a_wn e_w)), (a_wn, (arI G 36 f_w)), (a_bb, (arJ G 24 f_bb)), (a_h2, (oc1 e_wa2 e_le2 e_st2 e_fo2 e_lc2 a_l2 a_g2 a_b2 a_s2 a_p2 a_w2 e_gb2 a_bb2)), (a_l2, (arW G 6 f_l2)), (a_g2, (oc6 6 5 a_gn2 e_g2)), (a_gn2, (arI G 30 f_g2)), (a_b2, (oc6 5 24 a_bn2 e_b2)), (a_bn2, (arI G 120 f_b2)), (a_s2, (oc6 10 4 a_sn2 e_s2)), (a_sn2, (arI G 40 f_s2)), (a_p2, (oc6 8 5 a_pn2 e_p2)), (a_pn2, (arI G 40 f_p2)), (a_w2, (oc6 6 6 a_wn2 e_w2)), (a_wn2, (arI G 36 f_w2)), (a_bb2, (arJ G 24 f_bb2))] sz)) (va_A [(a_h, (oc1 e_wa e_le e_st e_fo e_lc a_l a_g a_b a_s a_p a_w e_gb a_bb)), (a_l, (arW G 6 f_l)), (a_g, (oc6 6 5 a_gn e_g)), (a_gn, (arI G 30 f_g)), (a_b, (oc6 5 24 a_bn e_b)), (a_bn, (arI G 120 f_b)), (a_s, (oc6 10 4 a_sn e_s)), (a_sn, (arI G 40 f_s)), (a_p, (oc6 8 5 a_pn e_p)), (a_pn, (arI G 40 f_p)), (a_w, (oc6 6 6 a_wn e_w)), (a_wn, (arI G 36 f_w)), (a_bb, (arJ G 24 f_bb)), (a_h2, (oc1 e_wa2 e_le2 e_st2 e_fo2 e_lc2 a_l2 a_g2 a_b2 a_s2 a_p2 a_w2 e_gb2 a_bb2)), (a_l2, (arW G 6 f_l2)), (a_g2, (oc6 6 5 a_gn2 e_g2)), (a_gn2, (arI G 30 f_g2)), (a_b2, (oc6 5 24 a_bn2 e_b2)), (a_bn2, (arI G 120 f_b2)), (a_s2, (oc6 10 4 a_sn2 e_s2)), (a_sn2, (arI G 40 f_s2)), (a_p2, (oc6 8 5 a_pn2 e_p2)), (a_pn2, (arI G 40 f_p2)), (a_w2, (oc6 6 6 a_wn2 e_w2)), (a_wn2, (arI G 36 f_w2)), (a_bb2, (arJ G 24 f_bb2))] sz)) 0 0 (va_A [(a_h, (oc1 e_wa e_le e_st e_fo e_lc a_l a_g a_b a_s a_p a_w e_gb a_bb)), (a_l, (arW G 6 f_l)), (a_g, (oc6 6 5 a_gn e_g)), (a_gn, (arI G 30 f_g)), (a_b, (oc6 5 24 a_bn e_b)), (a_bn, (arI G 120 f_b)), (a_s, (oc6 10 4 a_sn e_s)), (a_sn, (arI G 40 f_s)), (a_p, (oc6 8 5 a_pn e_p)), (a_pn, (arI G 40 f_p)), (a_w, (oc6 6 6 a_wn e_w)), (a_wn, (arI G 36 f_w)), (a_bb, (arJ G 24 f_bb)), (a_h2, (oc1 e_wa2 e_le2 e_st2 e_fo2 e_lc2 a_l2 a_g2 a_b2 a_s2 a_p2 a_w2 e_gb2 a_bb2)), (a_l2, (arW G 6 f_l2)), (a_g2, (oc6 6 5 a_gn2 e_g2)), (a_gn2, (arI G 30 f_g2)), (a_b2, (oc6 5 24 a_bn2 e_b2)), (a_bn2, (arI G 120 f_b2)), (a_s2, (oc6 10 4 a_sn2 e_s2)), (a_sn2, (arI G 40 f_s2)), (a_p2, (oc6 8 5 a_pn2 e_p2)), (a_pn2, (arI G 40 f_p2)), (a_w2, (oc6 6 6 a_wn2 e_w2)), (a_wn2, (arI G 36 f_w2)), (a_bb2, (arJ G 24 f_bb2))] sz) := by
  refine Met.ofW (cc := cX1_copyFrom) (maxL := 3) (ret := none) (by decide) rfl ?_
  intro p e s m args below meth c s₁ B hml hv
  obtain ⟨rfl, ⟨hsz, hP, hK, hD0, hN, hT⟩, hLA⟩ := hv
  have hx := B.exec
  have hb := B.bytes
  have hr := B.returns
  have hts : ∀ w ∈ tblG, w.before _ s = true := fun w h => atoms_spec (ws := (wsG yX1_copyFrom cX1_copyFrom 3 none)) B.pre w (List.mem_cons_of_mem _ h)
  have hown : s.vm.findClass RX1 = some m.cls := findClass_of_methodNamed B.named
  have hlocks := B.notSynchronized
  subst hsz
  have hD := hD0.self (sz := s.heap.size)
  generalize hAe : va_A [(a_h, (oc1 e_wa e_le e_st e_fo e_lc a_l a_g a_b a_s a_p a_w e_gb a_bb)), (a_l, (arW G 6 f_l)), (a_g, (oc6 6 5 a_gn e_g)), (a_gn, (arI G 30 f_g)), (a_b, (oc6 5 24 a_bn e_b)), (a_bn, (arI G 120 f_b)), (a_s, (oc6 10 4 a_sn e_s)), (a_sn, (arI G 40 f_s)), (a_p, (oc6 8 5 a_pn e_p)), (a_pn, (arI G 40 f_p)), (a_w, (oc6 6 6 a_wn e_w)), (a_wn, (arI G 36 f_w)), (a_bb, (arJ G 24 f_bb)), (a_h2, (oc1 e_wa2 e_le2 e_st2 e_fo2 e_lc2 a_l2 a_g2 a_b2 a_s2 a_p2 a_w2 e_gb2 a_bb2)), (a_l2, (arW G 6 f_l2)), (a_g2, (oc6 6 5 a_gn2 e_g2)), (a_gn2, (arI G 30 f_g2)), (a_b2, (oc6 5 24 a_bn2 e_b2)), (a_bn2, (arI G 120 f_b2)), (a_s2, (oc6 10 4 a_sn2 e_s2)), (a_sn2, (arI G 40 f_s2)), (a_p2, (oc6 8 5 a_pn2 e_p2)), (a_pn2, (arI G 40 f_p2)), (a_w2, (oc6 6 6 a_wn2 e_w2)), (a_wn2, (arI G 36 f_w2)), (a_bb2, (arJ G 24 f_bb2))] s.heap.size = A at hD hT hLA ⊢
  have hA : ∀ q : Nat, s.heap.size ≤ q → A q := fun q h => by rw [← hAe]; exact Or.inr h
  have hS : va_S A s.heap s.heap [] := va_S.rf
  have hP : va_P G.1 vwCl [(a_h, (oc1 e_wa e_le e_st e_fo e_lc a_l a_g a_b a_s a_p a_w e_gb a_bb)), (a_l, (arW G 6 f_l)), (a_g, (oc6 6 5 a_gn e_g)), (a_gn, (arI G 30 f_g)), (a_b, (oc6 5 24 a_bn e_b)), (a_bn, (arI G 120 f_b)), (a_s, (oc6 10 4 a_sn e_s)), (a_sn, (arI G 40 f_s)), (a_p, (oc6 8 5 a_pn e_p)), (a_pn, (arI G 40 f_p)), (a_w, (oc6 6 6 a_wn e_w)), (a_wn, (arI G 36 f_w)), (a_bb, (arJ G 24 f_bb)), (a_h2, (oc1 e_wa2 e_le2 e_st2 e_fo2 e_lc2 a_l2 a_g2 a_b2 a_s2 a_p2 a_w2 e_gb2 a_bb2)), (a_l2, (arW G 6 f_l2)), (a_g2, (oc6 6 5 a_gn2 e_g2)), (a_gn2, (arI G 30 f_g2)), (a_b2, (oc6 5 24 a_bn2 e_b2)), (a_bn2, (arI G 120 f_b2)), (a_s2, (oc6 10 4 a_sn2 e_s2)), (a_sn2, (arI G 40 f_s2)), (a_p2, (oc6 8 5 a_pn2 e_p2)), (a_pn2, (arI G 40 f_p2)), (a_w2, (oc6 6 6 a_wn2 e_w2)), (a_wn2, (arI G 36 f_w2)), (a_bb2, (arJ G 24 f_bb2))] s.heap := hP
  have hl := lv_entry ([.ref a_h, .ref a_h2]) (n := 3) (Nat.le_of_ble_eq_true rfl)
  rw [lg_entry_eq]
  generalize (lg_sl ([.ref a_h, .ref a_h2]) ++ List.replicate (3 - (lg_sl ([.ref a_h, .ref a_h2])).length) Slot.unset).toArray = ls at hl ⊢
  have hl : lv_has ls 3 [(0, .ref a_h), (1, .ref a_h2)] := hl
  refine lv_aload_n hx hb dX1_copyFrom_0 rfl (lv_at hl 0 rfl) ?_
  refine lv_aload_n hx hb dX1_copyFrom_1 rfl (lv_at hl 1 rfl) ?_
  refine va_get (D := G.1) (ci := 1) (v := .long e_wa2) (C := RX1) (T := TX1) (N := 13) hx hb hts inG_X1 hown hK hP 13 rfl rfl 0 (by decide) (hts _ fl_X1_9) (fun _ h9 => h9) rfl dX1_copyFrom_2 ?_
  refine va_put (D := G.1) (ci := 1) (v := .long e_wa2) (ty := .long) (C := RX1) (T := TX1) (N := 13) hx hb hts inG_X1 tyX1 tyX1_ok nmX1 hown hK hP hD hS 0 rfl rfl 0 (by decide) (hts _ fl_X1_9) (fun _ h9 => h9) rfl (by decide +kernel) rfl rfl (Nat.le_of_ble_eq_true rfl) dX1_copyFrom_5 (fun H locs hP hD hS => ?_)
  refine g5_rs [(a_h, (oc1 e_wa2 e_le e_st e_fo e_lc a_l a_g a_b a_s a_p a_w e_gb a_bb)), (a_l, (arW G 6 f_l)), (a_g, (oc6 6 5 a_gn e_g)), (a_gn, (arI G 30 f_g)), (a_b, (oc6 5 24 a_bn e_b)), (a_bn, (arI G 120 f_b)), (a_s, (oc6 10 4 a_sn e_s)), (a_sn, (arI G 40 f_s)), (a_p, (oc6 8 5 a_pn e_p)), (a_pn, (arI G 40 f_p)), (a_w, (oc6 6 6 a_wn e_w)), (a_wn, (arI G 36 f_w)), (a_bb, (arJ G 24 f_bb)), (a_h2, (oc1 e_wa2 e_le2 e_st2 e_fo2 e_lc2 a_l2 a_g2 a_b2 a_s2 a_p2 a_w2 e_gb2 a_bb2)), (a_l2, (arW G 6 f_l2)), (a_g2, (oc6 6 5 a_gn2 e_g2)), (a_gn2, (arI G 30 f_g2)), (a_b2, (oc6 5 24 a_bn2 e_b2)), (a_bn2, (arI G 120 f_b2)), (a_s2, (oc6 10 4 a_sn2 e_s2)), (a_sn2, (arI G 40 f_s2)), (a_p2, (oc6 8 5 a_pn2 e_p2)), (a_pn2, (arI G 40 f_p2)), (a_w2, (oc6 6 6 a_wn2 e_w2)), (a_wn2, (arI G 36 f_w2)), (a_bb2, (arJ G 24 f_bb2))] hP hD (fun hP hD => ?_)
  refine lv_aload_n hx hb dX1_copyFrom_8 rfl (lv_at hl 0 rfl) ?_
  refine lv_aload_n hx hb dX1_copyFrom_9 rfl (lv_at hl 1 rfl) ?_
  refine va_get (D := G.1) (ci := 1) (v := .int e_le2) (C := RX1) (T := TX1) (N := 13) hx hb hts inG_X1 hown hK hP 13 rfl rfl 1 (by decide) (hts _ fl_X1_15) (fun _ h9 => h9) rfl dX1_copyFrom_10 ?_
  refine va_put (D := G.1) (ci := 1) (v := .int e_le2) (ty := .int) (C := RX1) (T := TX1) (N := 13) hx hb hts inG_X1 tyX1 tyX1_ok nmX1 hown hK hP hD hS 0 rfl rfl 1 (by decide) (hts _ fl_X1_15) (fun _ h9 => h9) rfl (by decide +kernel) rfl rfl (Nat.le_of_ble_eq_true rfl) dX1_copyFrom_13 (fun H locs hP hD hS => ?_)
  refine g5_rs [(a_h, (oc1 e_wa2 e_le2 e_st e_fo e_lc a_l a_g a_b a_s a_p a_w e_gb a_bb)), (a_l, (arW G 6 f_l)), (a_g, (oc6 6 5 a_gn e_g)), (a_gn, (arI G 30 f_g)), (a_b, (oc6 5 24 a_bn e_b)), (a_bn, (arI G 120 f_b)), (a_s, (oc6 10 4 a_sn e_s)), (a_sn, (arI G 40 f_s)), (a_p, (oc6 8 5 a_pn e_p)), (a_pn, (arI G 40 f_p)), (a_w, (oc6 6 6 a_wn e_w)), (a_wn, (arI G 36 f_w)), (a_bb, (arJ G 24 f_bb)), (a_h2, (oc1 e_wa2 e_le2 e_st2 e_fo2 e_lc2 a_l2 a_g2 a_b2 a_s2 a_p2 a_w2 e_gb2 a_bb2)), (a_l2, (arW G 6 f_l2)), (a_g2, (oc6 6 5 a_gn2 e_g2)), (a_gn2, (arI G 30 f_g2)), (a_b2, (oc6 5 24 a_bn2 e_b2)), (a_bn2, (arI G 120 f_b2)), (a_s2, (oc6 10 4 a_sn2 e_s2)), (a_sn2, (arI G 40 f_s2)), (a_p2, (oc6 8 5 a_pn2 e_p2)), (a_pn2, (arI G 40 f_p2)), (a_w2, (oc6 6 6 a_wn2 e_w2)), (a_wn2, (arI G 36 f_w2)), (a_bb2, (arJ G 24 f_bb2))] hP hD (fun hP hD => ?_)
  refine lv_aload_n hx hb dX1_copyFrom_16 rfl (lv_at hl 0 rfl) ?_
  refine lv_aload_n hx hb dX1_copyFrom_17 rfl (lv_at hl 1 rfl) ?_
  refine va_get (D := G.1) (ci := 1) (v := .int e_st2) (C := RX1) (T := TX1) (N := 13) hx hb hts inG_X1 hown hK hP 13 rfl rfl 2 (by decide) (hts _ fl_X1_19) (fun _ h9 => h9) rfl dX1_copyFrom_18 ?_
  refine va_put (D := G.1) (ci := 1) (v := .int e_st2) (ty := .int) (C := RX1) (T := TX1) (N := 13) hx hb hts inG_X1 tyX1 tyX1_ok nmX1 hown hK hP hD hS 0 rfl rfl 2 (by decide) (hts _ fl_X1_19) (fun _ h9 => h9) rfl (by decide +kernel) rfl rfl (Nat.le_of_ble_eq_true rfl) dX1_copyFrom_21 (fun H locs hP hD hS => ?_)
  refine g5_rs [(a_h, (oc1 e_wa2 e_le2 e_st2 e_fo e_lc a_l a_g a_b a_s a_p a_w e_gb a_bb)), (a_l, (arW G 6 f_l)), (a_g, (oc6 6 5 a_gn e_g)), (a_gn, (arI G 30 f_g)), (a_b, (oc6 5 24 a_bn e_b)), (a_bn, (arI G 120 f_b)), (a_s, (oc6 10 4 a_sn e_s)), (a_sn, (arI G 40 f_s)), (a_p, (oc6 8 5 a_pn e_p)), (a_pn, (arI G 40 f_p)), (a_w, (oc6 6 6 a_wn e_w)), (a_wn, (arI G 36 f_w)), (a_bb, (arJ G 24 f_bb)), (a_h2, (oc1 e_wa2 e_le2 e_st2 e_fo2 e_lc2 a_l2 a_g2 a_b2 a_s2 a_p2 a_w2 e_gb2 a_bb2)), (a_l2, (arW G 6 f_l2)), (a_g2, (oc6 6 5 a_gn2 e_g2)), (a_gn2, (arI G 30 f_g2)), (a_b2, (oc6 5 24 a_bn2 e_b2)), (a_bn2, (arI G 120 f_b2)), (a_s2, (oc6 10 4 a_sn2 e_s2)), (a_sn2, (arI G 40 f_s2)), (a_p2, (oc6 8 5 a_pn2 e_p2)), (a_pn2, (arI G 40 f_p2)), (a_w2, (oc6 6 6 a_wn2 e_w2)), (a_wn2, (arI G 36 f_w2)), (a_bb2, (arJ G 24 f_bb2))] hP hD (fun hP hD => ?_)
  refine lv_aload_n hx hb dX1_copyFrom_24 rfl (lv_at hl 0 rfl) ?_
  refine lv_aload_n hx hb dX1_copyFrom_25 rfl (lv_at hl 1 rfl) ?_
  refine va_get (D := G.1) (ci := 1) (v := .int e_fo2) (C := RX1) (T := TX1) (N := 13) hx hb hts inG_X1 hown hK hP 13 rfl rfl 3 (by decide) (hts _ fl_X1_22) (fun _ h9 => h9) rfl dX1_copyFrom_26 ?_
  refine va_put (D := G.1) (ci := 1) (v := .int e_fo2) (ty := .int) (C := RX1) (T := TX1) (N := 13) hx hb hts inG_X1 tyX1 tyX1_ok nmX1 hown hK hP hD hS 0 rfl rfl 3 (by decide) (hts _ fl_X1_22) (fun _ h9 => h9) rfl (by decide +kernel) rfl rfl (Nat.le_of_ble_eq_true rfl) dX1_copyFrom_29 (fun H locs hP hD hS => ?_)
  refine g5_rs [(a_h, (oc1 e_wa2 e_le2 e_st2 e_fo2 e_lc a_l a_g a_b a_s a_p a_w e_gb a_bb)), (a_l, (arW G 6 f_l)), (a_g, (oc6 6 5 a_gn e_g)), (a_gn, (arI G 30 f_g)), (a_b, (oc6 5 24 a_bn e_b)), (a_bn, (arI G 120 f_b)), (a_s, (oc6 10 4 a_sn e_s)), (a_sn, (arI G 40 f_s)), (a_p, (oc6 8 5 a_pn e_p)), (a_pn, (arI G 40 f_p)), (a_w, (oc6 6 6 a_wn e_w)), (a_wn, (arI G 36 f_w)), (a_bb, (arJ G 24 f_bb)), (a_h2, (oc1 e_wa2 e_le2 e_st2 e_fo2 e_lc2 a_l2 a_g2 a_b2 a_s2 a_p2 a_w2 e_gb2 a_bb2)), (a_l2, (arW G 6 f_l2)), (a_g2, (oc6 6 5 a_gn2 e_g2)), (a_gn2, (arI G 30 f_g2)), (a_b2, (oc6 5 24 a_bn2 e_b2)), (a_bn2, (arI G 120 f_b2)), (a_s2, (oc6 10 4 a_sn2 e_s2)), (a_sn2, (arI G 40 f_s2)), (a_p2, (oc6 8 5 a_pn2 e_p2)), (a_pn2, (arI G 40 f_p2)), (a_w2, (oc6 6 6 a_wn2 e_w2)), (a_wn2, (arI G 36 f_w2)), (a_bb2, (arJ G 24 f_bb2))] hP hD (fun hP hD => ?_)
  refine lv_aload_n hx hb dX1_copyFrom_32 rfl (lv_at hl 0 rfl) ?_
  refine lv_aload_n hx hb dX1_copyFrom_33 rfl (lv_at hl 1 rfl) ?_
  refine va_get (D := G.1) (ci := 1) (v := .int e_lc2) (C := RX1) (T := TX1) (N := 13) hx hb hts inG_X1 hown hK hP 13 rfl rfl 4 (by decide) (hts _ fl_X1_25) (fun _ h9 => h9) rfl dX1_copyFrom_34 ?_
  refine va_put (D := G.1) (ci := 1) (v := .int e_lc2) (ty := .int) (C := RX1) (T := TX1) (N := 13) hx hb hts inG_X1 tyX1 tyX1_ok nmX1 hown hK hP hD hS 0 rfl rfl 4 (by decide) (hts _ fl_X1_25) (fun _ h9 => h9) rfl (by decide +kernel) rfl rfl (Nat.le_of_ble_eq_true rfl) dX1_copyFrom_37 (fun H locs hP hD hS => ?_)
  refine g5_rs [(a_h, (oc1 e_wa2 e_le2 e_st2 e_fo2 e_lc2 a_l a_g a_b a_s a_p a_w e_gb a_bb)), (a_l, (arW G 6 f_l)), (a_g, (oc6 6 5 a_gn e_g)), (a_gn, (arI G 30 f_g)), (a_b, (oc6 5 24 a_bn e_b)), (a_bn, (arI G 120 f_b)), (a_s, (oc6 10 4 a_sn e_s)), (a_sn, (arI G 40 f_s)), (a_p, (oc6 8 5 a_pn e_p)), (a_pn, (arI G 40 f_p)), (a_w, (oc6 6 6 a_wn e_w)), (a_wn, (arI G 36 f_w)), (a_bb, (arJ G 24 f_bb)), (a_h2, (oc1 e_wa2 e_le2 e_st2 e_fo2 e_lc2 a_l2 a_g2 a_b2 a_s2 a_p2 a_w2 e_gb2 a_bb2)), (a_l2, (arW G 6 f_l2)), (a_g2, (oc6 6 5 a_gn2 e_g2)), (a_gn2, (arI G 30 f_g2)), (a_b2, (oc6 5 24 a_bn2 e_b2)), (a_bn2, (arI G 120 f_b2)), (a_s2, (oc6 10 4 a_sn2 e_s2)), (a_sn2, (arI G 40 f_s2)), (a_p2, (oc6 8 5 a_pn2 e_p2)), (a_pn2, (arI G 40 f_p2)), (a_w2, (oc6 6 6 a_wn2 e_w2)), (a_wn2, (arI G 36 f_w2)), (a_bb2, (arJ G 24 f_bb2))] hP hD (fun hP hD => ?_)
  refine lv_iconst (v := 0) hx hb dX1_copyFrom_40 (by decide) ?_
  refine lv_istore_n (lv' := [(2, .int 0), (0, .ref a_h), (1, .ref a_h2)]) hx hb dX1_copyFrom_41 rfl hl (by decide) rfl (fun ls hl => ?_)
  refine g5_loop (α := (Int32) × (Nat → Option Nat)) (fun (q : (Int32) × (Nat → Option Nat)) (ls : Array Slot) (H : Heap) (locs : List Loc) => match q with | (k_i, k_l) => lv_has ls 3 [(2, .int k_i), (0, .ref a_h), (1, .ref a_h2)] ∧ va_P G.1 vwCl [(a_h, (oc1 e_wa2 e_le2 e_st2 e_fo2 e_lc2 a_l a_g a_b a_s a_p a_w e_gb a_bb)), (a_l, (arW G 6 k_l)), (a_g, (oc6 6 5 a_gn e_g)), (a_gn, (arI G 30 f_g)), (a_b, (oc6 5 24 a_bn e_b)), (a_bn, (arI G 120 f_b)), (a_s, (oc6 10 4 a_sn e_s)), (a_sn, (arI G 40 f_s)), (a_p, (oc6 8 5 a_pn e_p)), (a_pn, (arI G 40 f_p)), (a_w, (oc6 6 6 a_wn e_w)), (a_wn, (arI G 36 f_w)), (a_bb, (arJ G 24 f_bb)), (a_h2, (oc1 e_wa2 e_le2 e_st2 e_fo2 e_lc2 a_l2 a_g2 a_b2 a_s2 a_p2 a_w2 e_gb2 a_bb2)), (a_l2, (arW G 6 f_l2)), (a_g2, (oc6 6 5 a_gn2 e_g2)), (a_gn2, (arI G 30 f_g2)), (a_b2, (oc6 5 24 a_bn2 e_b2)), (a_bn2, (arI G 120 f_b2)), (a_s2, (oc6 10 4 a_sn2 e_s2)), (a_sn2, (arI G 40 f_s2)), (a_p2, (oc6 8 5 a_pn2 e_p2)), (a_pn2, (arI G 40 f_p2)), (a_w2, (oc6 6 6 a_wn2 e_w2)), (a_wn2, (arI G 36 f_w2)), (a_bb2, (arJ G 24 f_bb2))] H ∧ va_D A [(a_h, (oc1 e_wa2 e_le2 e_st2 e_fo2 e_lc2 a_l a_g a_b a_s a_p a_w e_gb a_bb)), (a_l, (arW G 6 k_l)), (a_g, (oc6 6 5 a_gn e_g)), (a_gn, (arI G 30 f_g)), (a_b, (oc6 5 24 a_bn e_b)), (a_bn, (arI G 120 f_b)), (a_s, (oc6 10 4 a_sn e_s)), (a_sn, (arI G 40 f_s)), (a_p, (oc6 8 5 a_pn e_p)), (a_pn, (arI G 40 f_p)), (a_w, (oc6 6 6 a_wn e_w)), (a_wn, (arI G 36 f_w)), (a_bb, (arJ G 24 f_bb)), (a_h2, (oc1 e_wa2 e_le2 e_st2 e_fo2 e_lc2 a_l2 a_g2 a_b2 a_s2 a_p2 a_w2 e_gb2 a_bb2)), (a_l2, (arW G 6 f_l2)), (a_g2, (oc6 6 5 a_gn2 e_g2)), (a_gn2, (arI G 30 f_g2)), (a_b2, (oc6 5 24 a_bn2 e_b2)), (a_bn2, (arI G 120 f_b2)), (a_s2, (oc6 10 4 a_sn2 e_s2)), (a_sn2, (arI G 40 f_s2)), (a_p2, (oc6 8 5 a_pn2 e_p2)), (a_pn2, (arI G 40 f_p2)), (a_w2, (oc6 6 6 a_wn2 e_w2)), (a_wn2, (arI G 36 f_w2)), (a_bb2, (arJ G 24 f_bb2))] ∧ va_S A s.heap H locs ∧ (0 ≤ k_i.toInt ∧ k_i.toInt ≤ 6) ∧ (∀ j : Nat, (j : Int) < k_i.toInt → k_l j = f_l2 j)) (fun (q : (Int32) × (Nat → Option Nat)) => match q with | (k_i, k_l) => Int.toNat (6 - k_i.toInt)) (0, f_l) ⟨lv_sub hl [0, 1, 2] rfl, hP, hD, hS, ⟨by decide, by decide⟩, fun j h => absurd h (by have z : (0 : Int32).toInt = 0 := (by decide); omega)⟩ ?_
  rintro ⟨k_i, k_l⟩ ls H locs ⟨hl, hP, hD, hS, i_1, i_2⟩ ih_42_3
  have hl : lv_has ls 3 [(2, .int k_i), (0, .ref a_h), (1, .ref a_h2)] := hl
  have i_1 : 0 ≤ k_i.toInt ∧ k_i.toInt ≤ 6 := i_1
  have i_2 : ∀ j : Nat, (j : Int) < k_i.toInt → k_l j = f_l2 j := i_2
  refine g5_rs [(a_h, (oc1 e_wa2 e_le2 e_st2 e_fo2 e_lc2 a_l a_g a_b a_s a_p a_w e_gb a_bb)), (a_l, (arW G 6 k_l)), (a_g, (oc6 6 5 a_gn e_g)), (a_gn, (arI G 30 f_g)), (a_b, (oc6 5 24 a_bn e_b)), (a_bn, (arI G 120 f_b)), (a_s, (oc6 10 4 a_sn e_s)), (a_sn, (arI G 40 f_s)), (a_p, (oc6 8 5 a_pn e_p)), (a_pn, (arI G 40 f_p)), (a_w, (oc6 6 6 a_wn e_w)), (a_wn, (arI G 36 f_w)), (a_bb, (arJ G 24 f_bb)), (a_h2, (oc1 e_wa2 e_le2 e_st2 e_fo2 e_lc2 a_l2 a_g2 a_b2 a_s2 a_p2 a_w2 e_gb2 a_bb2)), (a_l2, (arW G 6 f_l2)), (a_g2, (oc6 6 5 a_gn2 e_g2)), (a_gn2, (arI G 30 f_g2)), (a_b2, (oc6 5 24 a_bn2 e_b2)), (a_bn2, (arI G 120 f_b2)), (a_s2, (oc6 10 4 a_sn2 e_s2)), (a_sn2, (arI G 40 f_s2)), (a_p2, (oc6 8 5 a_pn2 e_p2)), (a_pn2, (arI G 40 f_p2)), (a_w2, (oc6 6 6 a_wn2 e_w2)), (a_wn2, (arI G 36 f_w2)), (a_bb2, (arJ G 24 f_bb2))] hP hD (fun hP hD => ?_)
  refine lv_iload_n hx hb dX1_copyFrom_42 rfl (lv_at hl 0 rfl) ?_
  refine lv_bipush (v := 6) hx hb dX1_copyFrom_43 (by decide) ?_
  refine lv_icmp_ge (tgt := 66) hx hb dX1_copyFrom_45 (by decide) (fun c_4 => ?_) (fun c_4 => ?_)
  ·
    have i_4 : k_i.toInt ≥ 6 := by have z := g5_ge (a := k_i.toInt) (b := 6) (by rfl) (by decide) c_4; omega
    refine lv_aload_n hx hb dX1_copyFrom_66 rfl (lv_at hl 1 rfl) ?_
    refine va_get (D := G.1) (ci := 1) (v := .ref a_g) (C := RX1) (T := TX1) (N := 13) hx hb hts inG_X1 hown hK hP 0 rfl rfl 6 (by decide) (hts _ fl_X1_39) (fun _ h9 => h9) rfl dX1_copyFrom_67 ?_
    refine lv_aload_n hx hb dX1_copyFrom_70 rfl (lv_at hl 2 rfl) ?_
    refine va_get (D := G.1) (ci := 1) (v := .ref a_g2) (C := RX1) (T := TX1) (N := 13) hx hb hts inG_X1 hown hK hP 13 rfl rfl 6 (by decide) (hts _ fl_X1_39) (fun _ h9 => h9) rfl dX1_copyFrom_71 ?_
    obtain ⟨hPc, hDc, hFc⟩ := g5_sub3 (wc := [(a_g, (oc6 6 5 a_gn e_g)), (a_gn, (arI G 30 f_g)), (a_g2, (oc6 6 5 a_gn2 e_g2)), (a_gn2, (arI G 30 f_g2))]) hP hD hS hA [2, 3, 15, 16] (by decide) rfl
    refine va_callv (va_runV (As := [.ref a_g2]) (rest := []) ⟨hx, hb, hml, hown, hts⟩ (t_copyFrom_G l G a_g a_gn a_g2 a_gn2 H.size e_g e_g2 f_g f_g2 h_e_g h_e_g2) (cwV 1 hts gV_X1_80 rfl rfl rfl hv_X6_copyFrom ⟨Nat.le_of_ble_eq_true rfl, Nat.le_of_ble_eq_true rfl⟩) (g5_preV hPc hK hDc hN hT hS hFc (ci := 6) (q0 := 0) rfl rfl) rfl rfl hl.1 rfl (lv_room (Nat.le_of_ble_eq_true rfl)) dX1_copyFrom_74 ⟨Nat.le_of_ble_eq_true rfl, Nat.le_of_ble_eq_true rfl⟩) hS (fun q _ h => hFc q h) hFc (fun u t H1 locs ht hvm hw hB hz1 hk1 hS => ?_)
    obtain ⟨hP1, hD1⟩ := hB
    rw [ht] at hP1
    obtain rfl := hw
    obtain ⟨hP, hD⟩ := va_join (wr := [(a_h, (oc1 e_wa2 e_le2 e_st2 e_fo2 e_lc2 a_l a_g a_b a_s a_p a_w e_gb a_bb)), (a_l, (arW G 6 k_l)), (a_b, (oc6 5 24 a_bn e_b)), (a_bn, (arI G 120 f_b)), (a_s, (oc6 10 4 a_sn e_s)), (a_sn, (arI G 40 f_s)), (a_p, (oc6 8 5 a_pn e_p)), (a_pn, (arI G 40 f_p)), (a_w, (oc6 6 6 a_wn e_w)), (a_wn, (arI G 36 f_w)), (a_bb, (arJ G 24 f_bb)), (a_h2, (oc1 e_wa2 e_le2 e_st2 e_fo2 e_lc2 a_l2 a_g2 a_b2 a_s2 a_p2 a_w2 e_gb2 a_bb2)), (a_l2, (arW G 6 f_l2)), (a_b2, (oc6 5 24 a_bn2 e_b2)), (a_bn2, (arI G 120 f_b2)), (a_s2, (oc6 10 4 a_sn2 e_s2)), (a_sn2, (arI G 40 f_s2)), (a_p2, (oc6 8 5 a_pn2 e_p2)), (a_pn2, (arI G 40 f_p2)), (a_w2, (oc6 6 6 a_wn2 e_w2)), (a_wn2, (arI G 36 f_w2)), (a_bb2, (arJ G 24 f_bb2))]) hP hD [2, 3, 15, 16] [0, 1, 4, 5, 6, 7, 8, 9, 10, 11, 12, 13, 14, 17, 18, 19, 20, 21, 22, 23, 24, 25] rfl rfl (by decide) (by decide) hk1 hFc hP1 hD1
    generalize H1 = H at hP hS ⊢
    refine g5_rs [(a_h, (oc1 e_wa2 e_le2 e_st2 e_fo2 e_lc2 a_l a_g a_b a_s a_p a_w e_gb a_bb)), (a_l, (arW G 6 k_l)), (a_b, (oc6 5 24 a_bn e_b)), (a_bn, (arI G 120 f_b)), (a_s, (oc6 10 4 a_sn e_s)), (a_sn, (arI G 40 f_s)), (a_p, (oc6 8 5 a_pn e_p)), (a_pn, (arI G 40 f_p)), (a_w, (oc6 6 6 a_wn e_w)), (a_wn, (arI G 36 f_w)), (a_bb, (arJ G 24 f_bb)), (a_h2, (oc1 e_wa2 e_le2 e_st2 e_fo2 e_lc2 a_l2 a_g2 a_b2 a_s2 a_p2 a_w2 e_gb2 a_bb2)), (a_l2, (arW G 6 f_l2)), (a_b2, (oc6 5 24 a_bn2 e_b2)), (a_bn2, (arI G 120 f_b2)), (a_s2, (oc6 10 4 a_sn2 e_s2)), (a_sn2, (arI G 40 f_s2)), (a_p2, (oc6 8 5 a_pn2 e_p2)), (a_pn2, (arI G 40 f_p2)), (a_w2, (oc6 6 6 a_wn2 e_w2)), (a_wn2, (arI G 36 f_w2)), (a_bb2, (arJ G 24 f_bb2)), (a_g, (oc6 6 5 a_gn e_g2)), (a_gn, (arI G 30 (va_cpy f_g2 f_g 0 0 30))), (a_g2, (oc6 6 5 a_gn2 e_g2)), (a_gn2, (arI G 30 f_g2))] hP hD (fun hP hD => ?_)
    refine lv_aload_n hx hb dX1_copyFrom_77 rfl (lv_at hl 1 rfl) ?_
    refine va_get (D := G.1) (ci := 1) (v := .ref a_b) (C := RX1) (T := TX1) (N := 13) hx hb hts inG_X1 hown hK hP 0 rfl rfl 7 (by decide) (hts _ fl_X1_43) (fun _ h9 => h9) rfl dX1_copyFrom_78 ?_
    refine lv_aload_n hx hb dX1_copyFrom_81 rfl (lv_at hl 2 rfl) ?_
    refine va_get (D := G.1) (ci := 1) (v := .ref a_b2) (C := RX1) (T := TX1) (N := 13) hx hb hts inG_X1 hown hK hP 11 rfl rfl 7 (by decide) (hts _ fl_X1_43) (fun _ h9 => h9) rfl dX1_copyFrom_82 ?_
    obtain ⟨hPc, hDc, hFc⟩ := g5_sub3 (wc := [(a_b, (oc6 5 24 a_bn e_b)), (a_bn, (arI G 120 f_b)), (a_b2, (oc6 5 24 a_bn2 e_b2)), (a_bn2, (arI G 120 f_b2))]) hP hD hS hA [2, 3, 13, 14] (by decide) rfl
    refine va_callv (va_runV (As := [.ref a_b2]) (rest := []) ⟨hx, hb, hml, hown, hts⟩ (t_copyFrom_B l G a_b a_bn a_b2 a_bn2 H.size e_b e_b2 f_b f_b2 h_e_b h_e_b2) (cwV 1 hts gV_X1_80 rfl rfl rfl hv_X6_copyFrom ⟨Nat.le_of_ble_eq_true rfl, Nat.le_of_ble_eq_true rfl⟩) (g5_preV hPc hK hDc hN hT hS hFc (ci := 6) (q0 := 0) rfl rfl) rfl rfl hl.1 rfl (lv_room (Nat.le_of_ble_eq_true rfl)) dX1_copyFrom_85 ⟨Nat.le_of_ble_eq_true rfl, Nat.le_of_ble_eq_true rfl⟩) hS (fun q _ h => hFc q h) hFc (fun u t H1 locs ht hvm hw hB hz1 hk1 hS => ?_)
    obtain ⟨hP1, hD1⟩ := hB
    rw [ht] at hP1
    obtain rfl := hw
    obtain ⟨hP, hD⟩ := va_join (wr := [(a_h, (oc1 e_wa2 e_le2 e_st2 e_fo2 e_lc2 a_l a_g a_b a_s a_p a_w e_gb a_bb)), (a_l, (arW G 6 k_l)), (a_s, (oc6 10 4 a_sn e_s)), (a_sn, (arI G 40 f_s)), (a_p, (oc6 8 5 a_pn e_p)), (a_pn, (arI G 40 f_p)), (a_w, (oc6 6 6 a_wn e_w)), (a_wn, (arI G 36 f_w)), (a_bb, (arJ G 24 f_bb)), (a_h2, (oc1 e_wa2 e_le2 e_st2 e_fo2 e_lc2 a_l2 a_g2 a_b2 a_s2 a_p2 a_w2 e_gb2 a_bb2)), (a_l2, (arW G 6 f_l2)), (a_s2, (oc6 10 4 a_sn2 e_s2)), (a_sn2, (arI G 40 f_s2)), (a_p2, (oc6 8 5 a_pn2 e_p2)), (a_pn2, (arI G 40 f_p2)), (a_w2, (oc6 6 6 a_wn2 e_w2)), (a_wn2, (arI G 36 f_w2)), (a_bb2, (arJ G 24 f_bb2)), (a_g, (oc6 6 5 a_gn e_g2)), (a_gn, (arI G 30 (va_cpy f_g2 f_g 0 0 30))), (a_g2, (oc6 6 5 a_gn2 e_g2)), (a_gn2, (arI G 30 f_g2))]) hP hD [2, 3, 13, 14] [0, 1, 4, 5, 6, 7, 8, 9, 10, 11, 12, 15, 16, 17, 18, 19, 20, 21, 22, 23, 24, 25] rfl rfl (by decide) (by decide) hk1 hFc hP1 hD1
    generalize H1 = H at hP hS ⊢
    refine g5_rs [(a_h, (oc1 e_wa2 e_le2 e_st2 e_fo2 e_lc2 a_l a_g a_b a_s a_p a_w e_gb a_bb)), (a_l, (arW G 6 k_l)), (a_s, (oc6 10 4 a_sn e_s)), (a_sn, (arI G 40 f_s)), (a_p, (oc6 8 5 a_pn e_p)), (a_pn, (arI G 40 f_p)), (a_w, (oc6 6 6 a_wn e_w)), (a_wn, (arI G 36 f_w)), (a_bb, (arJ G 24 f_bb)), (a_h2, (oc1 e_wa2 e_le2 e_st2 e_fo2 e_lc2 a_l2 a_g2 a_b2 a_s2 a_p2 a_w2 e_gb2 a_bb2)), (a_l2, (arW G 6 f_l2)), (a_s2, (oc6 10 4 a_sn2 e_s2)), (a_sn2, (arI G 40 f_s2)), (a_p2, (oc6 8 5 a_pn2 e_p2)), (a_pn2, (arI G 40 f_p2)), (a_w2, (oc6 6 6 a_wn2 e_w2)), (a_wn2, (arI G 36 f_w2)), (a_bb2, (arJ G 24 f_bb2)), (a_g, (oc6 6 5 a_gn e_g2)), (a_gn, (arI G 30 (va_cpy f_g2 f_g 0 0 30))), (a_g2, (oc6 6 5 a_gn2 e_g2)), (a_gn2, (arI G 30 f_g2)), (a_b, (oc6 5 24 a_bn e_b2)), (a_bn, (arI G 120 (va_cpy f_b2 f_b 0 0 120))), (a_b2, (oc6 5 24 a_bn2 e_b2)), (a_bn2, (arI G 120 f_b2))] hP hD (fun hP hD => ?_)
    refine lv_aload_n hx hb dX1_copyFrom_88 rfl (lv_at hl 1 rfl) ?_
    refine va_get (D := G.1) (ci := 1) (v := .ref a_s) (C := RX1) (T := TX1) (N := 13) hx hb hts inG_X1 hown hK hP 0 rfl rfl 8 (by decide) (hts _ fl_X1_46) (fun _ h9 => h9) rfl dX1_copyFrom_89 ?_
    refine lv_aload_n hx hb dX1_copyFrom_92 rfl (lv_at hl 2 rfl) ?_
    refine va_get (D := G.1) (ci := 1) (v := .ref a_s2) (C := RX1) (T := TX1) (N := 13) hx hb hts inG_X1 hown hK hP 9 rfl rfl 8 (by decide) (hts _ fl_X1_46) (fun _ h9 => h9) rfl dX1_copyFrom_93 ?_
    obtain ⟨hPc, hDc, hFc⟩ := g5_sub3 (wc := [(a_s, (oc6 10 4 a_sn e_s)), (a_sn, (arI G 40 f_s)), (a_s2, (oc6 10 4 a_sn2 e_s2)), (a_sn2, (arI G 40 f_s2))]) hP hD hS hA [2, 3, 11, 12] (by decide) rfl
    refine va_callv (va_runV (As := [.ref a_s2]) (rest := []) ⟨hx, hb, hml, hown, hts⟩ (t_copyFrom_S l G a_s a_sn a_s2 a_sn2 H.size e_s e_s2 f_s f_s2 h_e_s h_e_s2) (cwV 1 hts gV_X1_80 rfl rfl rfl hv_X6_copyFrom ⟨Nat.le_of_ble_eq_true rfl, Nat.le_of_ble_eq_true rfl⟩) (g5_preV hPc hK hDc hN hT hS hFc (ci := 6) (q0 := 0) rfl rfl) rfl rfl hl.1 rfl (lv_room (Nat.le_of_ble_eq_true rfl)) dX1_copyFrom_96 ⟨Nat.le_of_ble_eq_true rfl, Nat.le_of_ble_eq_true rfl⟩) hS (fun q _ h => hFc q h) hFc (fun u t H1 locs ht hvm hw hB hz1 hk1 hS => ?_)
    obtain ⟨hP1, hD1⟩ := hB
    rw [ht] at hP1
    obtain rfl := hw
    obtain ⟨hP, hD⟩ := va_join (wr := [(a_h, (oc1 e_wa2 e_le2 e_st2 e_fo2 e_lc2 a_l a_g a_b a_s a_p a_w e_gb a_bb)), (a_l, (arW G 6 k_l)), (a_p, (oc6 8 5 a_pn e_p)), (a_pn, (arI G 40 f_p)), (a_w, (oc6 6 6 a_wn e_w)), (a_wn, (arI G 36 f_w)), (a_bb, (arJ G 24 f_bb)), (a_h2, (oc1 e_wa2 e_le2 e_st2 e_fo2 e_lc2 a_l2 a_g2 a_b2 a_s2 a_p2 a_w2 e_gb2 a_bb2)), (a_l2, (arW G 6 f_l2)), (a_p2, (oc6 8 5 a_pn2 e_p2)), (a_pn2, (arI G 40 f_p2)), (a_w2, (oc6 6 6 a_wn2 e_w2)), (a_wn2, (arI G 36 f_w2)), (a_bb2, (arJ G 24 f_bb2)), (a_g, (oc6 6 5 a_gn e_g2)), (a_gn, (arI G 30 (va_cpy f_g2 f_g 0 0 30))), (a_g2, (oc6 6 5 a_gn2 e_g2)), (a_gn2, (arI G 30 f_g2)), (a_b, (oc6 5 24 a_bn e_b2)), (a_bn, (arI G 120 (va_cpy f_b2 f_b 0 0 120))), (a_b2, (oc6 5 24 a_bn2 e_b2)), (a_bn2, (arI G 120 f_b2))]) hP hD [2, 3, 11, 12] [0, 1, 4, 5, 6, 7, 8, 9, 10, 13, 14, 15, 16, 17, 18, 19, 20, 21, 22, 23, 24, 25] rfl rfl (by decide) (by decide) hk1 hFc hP1 hD1
    generalize H1 = H at hP hS ⊢
    refine g5_rs [(a_h, (oc1 e_wa2 e_le2 e_st2 e_fo2 e_lc2 a_l a_g a_b a_s a_p a_w e_gb a_bb)), (a_l, (arW G 6 k_l)), (a_p, (oc6 8 5 a_pn e_p)), (a_pn, (arI G 40 f_p)), (a_w, (oc6 6 6 a_wn e_w)), (a_wn, (arI G 36 f_w)), (a_bb, (arJ G 24 f_bb)), (a_h2, (oc1 e_wa2 e_le2 e_st2 e_fo2 e_lc2 a_l2 a_g2 a_b2 a_s2 a_p2 a_w2 e_gb2 a_bb2)), (a_l2, (arW G 6 f_l2)), (a_p2, (oc6 8 5 a_pn2 e_p2)), (a_pn2, (arI G 40 f_p2)), (a_w2, (oc6 6 6 a_wn2 e_w2)), (a_wn2, (arI G 36 f_w2)), (a_bb2, (arJ G 24 f_bb2)), (a_g, (oc6 6 5 a_gn e_g2)), (a_gn, (arI G 30 (va_cpy f_g2 f_g 0 0 30))), (a_g2, (oc6 6 5 a_gn2 e_g2)), (a_gn2, (arI G 30 f_g2)), (a_b, (oc6 5 24 a_bn e_b2)), (a_bn, (arI G 120 (va_cpy f_b2 f_b 0 0 120))), (a_b2, (oc6 5 24 a_bn2 e_b2)), (a_bn2, (arI G 120 f_b2)), (a_s, (oc6 10 4 a_sn e_s2)), (a_sn, (arI G 40 (va_cpy f_s2 f_s 0 0 40))), (a_s2, (oc6 10 4 a_sn2 e_s2)), (a_sn2, (arI G 40 f_s2))] hP hD (fun hP hD => ?_)
    refine lv_aload_n hx hb dX1_copyFrom_99 rfl (lv_at hl 1 rfl) ?_
    refine va_get (D := G.1) (ci := 1) (v := .ref a_p) (C := RX1) (T := TX1) (N := 13) hx hb hts inG_X1 hown hK hP 0 rfl rfl 9 (by decide) (hts _ fl_X1_49) (fun _ h9 => h9) rfl dX1_copyFrom_100 ?_
    refine lv_aload_n hx hb dX1_copyFrom_103 rfl (lv_at hl 2 rfl) ?_
    refine va_get (D := G.1) (ci := 1) (v := .ref a_p2) (C := RX1) (T := TX1) (N := 13) hx hb hts inG_X1 hown hK hP 7 rfl rfl 9 (by decide) (hts _ fl_X1_49) (fun _ h9 => h9) rfl dX1_copyFrom_104 ?_
    obtain ⟨hPc, hDc, hFc⟩ := g5_sub3 (wc := [(a_p, (oc6 8 5 a_pn e_p)), (a_pn, (arI G 40 f_p)), (a_p2, (oc6 8 5 a_pn2 e_p2)), (a_pn2, (arI G 40 f_p2))]) hP hD hS hA [2, 3, 9, 10] (by decide) rfl
    refine va_callv (va_runV (As := [.ref a_p2]) (rest := []) ⟨hx, hb, hml, hown, hts⟩ (t_copyFrom_P l G a_p a_pn a_p2 a_pn2 H.size e_p e_p2 f_p f_p2 h_e_p h_e_p2) (cwV 1 hts gV_X1_80 rfl rfl rfl hv_X6_copyFrom ⟨Nat.le_of_ble_eq_true rfl, Nat.le_of_ble_eq_true rfl⟩) (g5_preV hPc hK hDc hN hT hS hFc (ci := 6) (q0 := 0) rfl rfl) rfl rfl hl.1 rfl (lv_room (Nat.le_of_ble_eq_true rfl)) dX1_copyFrom_107 ⟨Nat.le_of_ble_eq_true rfl, Nat.le_of_ble_eq_true rfl⟩) hS (fun q _ h => hFc q h) hFc (fun u t H1 locs ht hvm hw hB hz1 hk1 hS => ?_)
    obtain ⟨hP1, hD1⟩ := hB
    rw [ht] at hP1
    obtain rfl := hw
    obtain ⟨hP, hD⟩ := va_join (wr := [(a_h, (oc1 e_wa2 e_le2 e_st2 e_fo2 e_lc2 a_l a_g a_b a_s a_p a_w e_gb a_bb)), (a_l, (arW G 6 k_l)), (a_w, (oc6 6 6 a_wn e_w)), (a_wn, (arI G 36 f_w)), (a_bb, (arJ G 24 f_bb)), (a_h2, (oc1 e_wa2 e_le2 e_st2 e_fo2 e_lc2 a_l2 a_g2 a_b2 a_s2 a_p2 a_w2 e_gb2 a_bb2)), (a_l2, (arW G 6 f_l2)), (a_w2, (oc6 6 6 a_wn2 e_w2)), (a_wn2, (arI G 36 f_w2)), (a_bb2, (arJ G 24 f_bb2)), (a_g, (oc6 6 5 a_gn e_g2)), (a_gn, (arI G 30 (va_cpy f_g2 f_g 0 0 30))), (a_g2, (oc6 6 5 a_gn2 e_g2)), (a_gn2, (arI G 30 f_g2)), (a_b, (oc6 5 24 a_bn e_b2)), (a_bn, (arI G 120 (va_cpy f_b2 f_b 0 0 120))), (a_b2, (oc6 5 24 a_bn2 e_b2)), (a_bn2, (arI G 120 f_b2)), (a_s, (oc6 10 4 a_sn e_s2)), (a_sn, (arI G 40 (va_cpy f_s2 f_s 0 0 40))), (a_s2, (oc6 10 4 a_sn2 e_s2)), (a_sn2, (arI G 40 f_s2))]) hP hD [2, 3, 9, 10] [0, 1, 4, 5, 6, 7, 8, 11, 12, 13, 14, 15, 16, 17, 18, 19, 20, 21, 22, 23, 24, 25] rfl rfl (by decide) (by decide) hk1 hFc hP1 hD1
    generalize H1 = H at hP hS ⊢
    refine g5_rs [(a_h, (oc1 e_wa2 e_le2 e_st2 e_fo2 e_lc2 a_l a_g a_b a_s a_p a_w e_gb a_bb)), (a_l, (arW G 6 k_l)), (a_w, (oc6 6 6 a_wn e_w)), (a_wn, (arI G 36 f_w)), (a_bb, (arJ G 24 f_bb)), (a_h2, (oc1 e_wa2 e_le2 e_st2 e_fo2 e_lc2 a_l2 a_g2 a_b2 a_s2 a_p2 a_w2 e_gb2 a_bb2)), (a_l2, (arW G 6 f_l2)), (a_w2, (oc6 6 6 a_wn2 e_w2)), (a_wn2, (arI G 36 f_w2)), (a_bb2, (arJ G 24 f_bb2)), (a_g, (oc6 6 5 a_gn e_g2)), (a_gn, (arI G 30 (va_cpy f_g2 f_g 0 0 30))), (a_g2, (oc6 6 5 a_gn2 e_g2)), (a_gn2, (arI G 30 f_g2)), (a_b, (oc6 5 24 a_bn e_b2)), (a_bn, (arI G 120 (va_cpy f_b2 f_b 0 0 120))), (a_b2, (oc6 5 24 a_bn2 e_b2)), (a_bn2, (arI G 120 f_b2)), (a_s, (oc6 10 4 a_sn e_s2)), (a_sn, (arI G 40 (va_cpy f_s2 f_s 0 0 40))), (a_s2, (oc6 10 4 a_sn2 e_s2)), (a_sn2, (arI G 40 f_s2)), (a_p, (oc6 8 5 a_pn e_p2)), (a_pn, (arI G 40 (va_cpy f_p2 f_p 0 0 40))), (a_p2, (oc6 8 5 a_pn2 e_p2)), (a_pn2, (arI G 40 f_p2))] hP hD (fun hP hD => ?_)
    refine lv_aload_n hx hb dX1_copyFrom_110 rfl (lv_at hl 1 rfl) ?_
    refine va_get (D := G.1) (ci := 1) (v := .ref a_w) (C := RX1) (T := TX1) (N := 13) hx hb hts inG_X1 hown hK hP 0 rfl rfl 10 (by decide) (hts _ fl_X1_52) (fun _ h9 => h9) rfl dX1_copyFrom_111 ?_
    refine lv_aload_n hx hb dX1_copyFrom_114 rfl (lv_at hl 2 rfl) ?_
    refine va_get (D := G.1) (ci := 1) (v := .ref a_w2) (C := RX1) (T := TX1) (N := 13) hx hb hts inG_X1 hown hK hP 5 rfl rfl 10 (by decide) (hts _ fl_X1_52) (fun _ h9 => h9) rfl dX1_copyFrom_115 ?_
    obtain ⟨hPc, hDc, hFc⟩ := g5_sub3 (wc := [(a_w, (oc6 6 6 a_wn e_w)), (a_wn, (arI G 36 f_w)), (a_w2, (oc6 6 6 a_wn2 e_w2)), (a_wn2, (arI G 36 f_w2))]) hP hD hS hA [2, 3, 7, 8] (by decide) rfl
    refine va_callv (va_runV (As := [.ref a_w2]) (rest := []) ⟨hx, hb, hml, hown, hts⟩ (t_copyFrom_W l G a_w a_wn a_w2 a_wn2 H.size e_w e_w2 f_w f_w2 h_e_w h_e_w2) (cwV 1 hts gV_X1_80 rfl rfl rfl hv_X6_copyFrom ⟨Nat.le_of_ble_eq_true rfl, Nat.le_of_ble_eq_true rfl⟩) (g5_preV hPc hK hDc hN hT hS hFc (ci := 6) (q0 := 0) rfl rfl) rfl rfl hl.1 rfl (lv_room (Nat.le_of_ble_eq_true rfl)) dX1_copyFrom_118 ⟨Nat.le_of_ble_eq_true rfl, Nat.le_of_ble_eq_true rfl⟩) hS (fun q _ h => hFc q h) hFc (fun u t H1 locs ht hvm hw hB hz1 hk1 hS => ?_)
    obtain ⟨hP1, hD1⟩ := hB
    rw [ht] at hP1
    obtain rfl := hw
    obtain ⟨hP, hD⟩ := va_join (wr := [(a_h, (oc1 e_wa2 e_le2 e_st2 e_fo2 e_lc2 a_l a_g a_b a_s a_p a_w e_gb a_bb)), (a_l, (arW G 6 k_l)), (a_bb, (arJ G 24 f_bb)), (a_h2, (oc1 e_wa2 e_le2 e_st2 e_fo2 e_lc2 a_l2 a_g2 a_b2 a_s2 a_p2 a_w2 e_gb2 a_bb2)), (a_l2, (arW G 6 f_l2)), (a_bb2, (arJ G 24 f_bb2)), (a_g, (oc6 6 5 a_gn e_g2)), (a_gn, (arI G 30 (va_cpy f_g2 f_g 0 0 30))), (a_g2, (oc6 6 5 a_gn2 e_g2)), (a_gn2, (arI G 30 f_g2)), (a_b, (oc6 5 24 a_bn e_b2)), (a_bn, (arI G 120 (va_cpy f_b2 f_b 0 0 120))), (a_b2, (oc6 5 24 a_bn2 e_b2)), (a_bn2, (arI G 120 f_b2)), (a_s, (oc6 10 4 a_sn e_s2)), (a_sn, (arI G 40 (va_cpy f_s2 f_s 0 0 40))), (a_s2, (oc6 10 4 a_sn2 e_s2)), (a_sn2, (arI G 40 f_s2)), (a_p, (oc6 8 5 a_pn e_p2)), (a_pn, (arI G 40 (va_cpy f_p2 f_p 0 0 40))), (a_p2, (oc6 8 5 a_pn2 e_p2)), (a_pn2, (arI G 40 f_p2))]) hP hD [2, 3, 7, 8] [0, 1, 4, 5, 6, 9, 10, 11, 12, 13, 14, 15, 16, 17, 18, 19, 20, 21, 22, 23, 24, 25] rfl rfl (by decide) (by decide) hk1 hFc hP1 hD1
    generalize H1 = H at hP hS ⊢
    refine g5_rs [(a_h, (oc1 e_wa2 e_le2 e_st2 e_fo2 e_lc2 a_l a_g a_b a_s a_p a_w e_gb a_bb)), (a_l, (arW G 6 k_l)), (a_bb, (arJ G 24 f_bb)), (a_h2, (oc1 e_wa2 e_le2 e_st2 e_fo2 e_lc2 a_l2 a_g2 a_b2 a_s2 a_p2 a_w2 e_gb2 a_bb2)), (a_l2, (arW G 6 f_l2)), (a_bb2, (arJ G 24 f_bb2)), (a_g, (oc6 6 5 a_gn e_g2)), (a_gn, (arI G 30 (va_cpy f_g2 f_g 0 0 30))), (a_g2, (oc6 6 5 a_gn2 e_g2)), (a_gn2, (arI G 30 f_g2)), (a_b, (oc6 5 24 a_bn e_b2)), (a_bn, (arI G 120 (va_cpy f_b2 f_b 0 0 120))), (a_b2, (oc6 5 24 a_bn2 e_b2)), (a_bn2, (arI G 120 f_b2)), (a_s, (oc6 10 4 a_sn e_s2)), (a_sn, (arI G 40 (va_cpy f_s2 f_s 0 0 40))), (a_s2, (oc6 10 4 a_sn2 e_s2)), (a_sn2, (arI G 40 f_s2)), (a_p, (oc6 8 5 a_pn e_p2)), (a_pn, (arI G 40 (va_cpy f_p2 f_p 0 0 40))), (a_p2, (oc6 8 5 a_pn2 e_p2)), (a_pn2, (arI G 40 f_p2)), (a_w, (oc6 6 6 a_wn e_w2)), (a_wn, (arI G 36 (va_cpy f_w2 f_w 0 0 36))), (a_w2, (oc6 6 6 a_wn2 e_w2)), (a_wn2, (arI G 36 f_w2))] hP hD (fun hP hD => ?_)
    refine lv_aload_n hx hb dX1_copyFrom_121 rfl (lv_at hl 1 rfl) ?_
    refine lv_aload_n hx hb dX1_copyFrom_122 rfl (lv_at hl 2 rfl) ?_
    refine va_get (D := G.1) (ci := 1) (v := .long e_gb2) (C := RX1) (T := TX1) (N := 13) hx hb hts inG_X1 hown hK hP 3 rfl rfl 11 (by decide) (hts _ fl_X1_55) (fun _ h9 => h9) rfl dX1_copyFrom_123 ?_
    refine va_put (D := G.1) (ci := 1) (v := .long e_gb2) (ty := .long) (C := RX1) (T := TX1) (N := 13) hx hb hts inG_X1 tyX1 tyX1_ok nmX1 hown hK hP hD hS 0 rfl rfl 11 (by decide) (hts _ fl_X1_55) (fun _ h9 => h9) rfl (by decide +kernel) rfl rfl (Nat.le_of_ble_eq_true rfl) dX1_copyFrom_126 (fun H locs hP hD hS => ?_)
    refine g5_rs [(a_h, (oc1 e_wa2 e_le2 e_st2 e_fo2 e_lc2 a_l a_g a_b a_s a_p a_w e_gb2 a_bb)), (a_l, (arW G 6 k_l)), (a_bb, (arJ G 24 f_bb)), (a_h2, (oc1 e_wa2 e_le2 e_st2 e_fo2 e_lc2 a_l2 a_g2 a_b2 a_s2 a_p2 a_w2 e_gb2 a_bb2)), (a_l2, (arW G 6 f_l2)), (a_bb2, (arJ G 24 f_bb2)), (a_g, (oc6 6 5 a_gn e_g2)), (a_gn, (arI G 30 (va_cpy f_g2 f_g 0 0 30))), (a_g2, (oc6 6 5 a_gn2 e_g2)), (a_gn2, (arI G 30 f_g2)), (a_b, (oc6 5 24 a_bn e_b2)), (a_bn, (arI G 120 (va_cpy f_b2 f_b 0 0 120))), (a_b2, (oc6 5 24 a_bn2 e_b2)), (a_bn2, (arI G 120 f_b2)), (a_s, (oc6 10 4 a_sn e_s2)), (a_sn, (arI G 40 (va_cpy f_s2 f_s 0 0 40))), (a_s2, (oc6 10 4 a_sn2 e_s2)), (a_sn2, (arI G 40 f_s2)), (a_p, (oc6 8 5 a_pn e_p2)), (a_pn, (arI G 40 (va_cpy f_p2 f_p 0 0 40))), (a_p2, (oc6 8 5 a_pn2 e_p2)), (a_pn2, (arI G 40 f_p2)), (a_w, (oc6 6 6 a_wn e_w2)), (a_wn, (arI G 36 (va_cpy f_w2 f_w 0 0 36))), (a_w2, (oc6 6 6 a_wn2 e_w2)), (a_wn2, (arI G 36 f_w2))] hP hD (fun hP hD => ?_)
    refine lv_aload_n hx hb dX1_copyFrom_129 rfl (lv_at hl 2 rfl) ?_
    refine va_get (D := G.1) (ci := 1) (v := .ref a_bb2) (C := RX1) (T := TX1) (N := 13) hx hb hts inG_X1 hown hK hP 3 rfl rfl 12 (by decide) (hts _ fl_X1_58) (fun _ h9 => h9) rfl dX1_copyFrom_130 ?_
    refine lv_iconst (v := 0) hx hb dX1_copyFrom_133 (by decide) ?_
    refine lv_aload_n hx hb dX1_copyFrom_134 rfl (lv_at hl 1 rfl) ?_
    refine va_get (D := G.1) (ci := 1) (v := .ref a_bb) (C := RX1) (T := TX1) (N := 13) hx hb hts inG_X1 hown hK hP 0 rfl rfl 12 (by decide) (hts _ fl_X1_58) (fun _ h9 => h9) rfl dX1_copyFrom_135 ?_
    refine lv_iconst (v := 0) hx hb dX1_copyFrom_138 (by decide) ?_
    refine lv_bipush (v := 24) hx hb dX1_copyFrom_139 (by decide) ?_
    refine va_copyl hx hb (hml.trans hl.1.symm) hown (hts _ ml_X1_84) (hts _ ac_nat) (hts _ ac_st) (hts _ ac_ini) hK hP hD hS 5 2 1 1 rfl rfl rfl rfl rfl (sp := 0) (dp := 0) (n := 24) (by decide) (by decide) (by decide) (by decide) (by decide) (fun _ _ => rfl) (Nat.le_of_ble_eq_true rfl) (by decide) dX1_copyFrom_141 (fun H locs hP hD hS => ?_)
    refine g5_rs [(a_h, (oc1 e_wa2 e_le2 e_st2 e_fo2 e_lc2 a_l a_g a_b a_s a_p a_w e_gb2 a_bb)), (a_l, (arW G 6 k_l)), (a_bb, (arJ G 24 (va_cpy f_bb2 f_bb 0 0 24))), (a_h2, (oc1 e_wa2 e_le2 e_st2 e_fo2 e_lc2 a_l2 a_g2 a_b2 a_s2 a_p2 a_w2 e_gb2 a_bb2)), (a_l2, (arW G 6 f_l2)), (a_bb2, (arJ G 24 f_bb2)), (a_g, (oc6 6 5 a_gn e_g2)), (a_gn, (arI G 30 (va_cpy f_g2 f_g 0 0 30))), (a_g2, (oc6 6 5 a_gn2 e_g2)), (a_gn2, (arI G 30 f_g2)), (a_b, (oc6 5 24 a_bn e_b2)), (a_bn, (arI G 120 (va_cpy f_b2 f_b 0 0 120))), (a_b2, (oc6 5 24 a_bn2 e_b2)), (a_bn2, (arI G 120 f_b2)), (a_s, (oc6 10 4 a_sn e_s2)), (a_sn, (arI G 40 (va_cpy f_s2 f_s 0 0 40))), (a_s2, (oc6 10 4 a_sn2 e_s2)), (a_sn2, (arI G 40 f_s2)), (a_p, (oc6 8 5 a_pn e_p2)), (a_pn, (arI G 40 (va_cpy f_p2 f_p 0 0 40))), (a_p2, (oc6 8 5 a_pn2 e_p2)), (a_pn2, (arI G 40 f_p2)), (a_w, (oc6 6 6 a_wn e_w2)), (a_wn, (arI G 36 (va_cpy f_w2 f_w 0 0 36))), (a_w2, (oc6 6 6 a_wn2 e_w2)), (a_wn2, (arI G 36 f_w2))] hP hD (fun hP hD => ?_)
    exact W.vret hx hb hr (fun t ht hW => ⟨⟨[(a_h, (oc1 e_wa2 e_le2 e_st2 e_fo2 e_lc2 a_l a_g a_b a_s a_p a_w e_gb2 a_bb)), (a_l, (arW G 6 k_l)), (a_g, (oc6 6 5 a_gn e_g2)), (a_gn, (arI G 30 (va_cpy f_g2 f_g 0 0 30))), (a_b, (oc6 5 24 a_bn e_b2)), (a_bn, (arI G 120 (va_cpy f_b2 f_b 0 0 120))), (a_s, (oc6 10 4 a_sn e_s2)), (a_sn, (arI G 40 (va_cpy f_s2 f_s 0 0 40))), (a_p, (oc6 8 5 a_pn e_p2)), (a_pn, (arI G 40 (va_cpy f_p2 f_p 0 0 40))), (a_w, (oc6 6 6 a_wn e_w2)), (a_wn, (arI G 36 (va_cpy f_w2 f_w 0 0 36))), (a_bb, (arJ G 24 (va_cpy f_bb2 f_bb 0 0 24))), (a_h2, (oc1 e_wa2 e_le2 e_st2 e_fo2 e_lc2 a_l2 a_g2 a_b2 a_s2 a_p2 a_w2 e_gb2 a_bb2)), (a_l2, (arW G 6 f_l2)), (a_g2, (oc6 6 5 a_gn2 e_g2)), (a_gn2, (arI G 30 f_g2)), (a_b2, (oc6 5 24 a_bn2 e_b2)), (a_bn2, (arI G 120 f_b2)), (a_s2, (oc6 10 4 a_sn2 e_s2)), (a_sn2, (arI G 40 f_s2)), (a_p2, (oc6 8 5 a_pn2 e_p2)), (a_pn2, (arI G 40 f_p2)), (a_w2, (oc6 6 6 a_wn2 e_w2)), (a_wn2, (arI G 36 f_w2)), (a_bb2, (arJ G 24 f_bb2))], rfl, ⟨k_l, fun j hj => i_2 j (by omega), rfl⟩, by rw [ht]; exact hP.sub [0, 1, 6, 7, 10, 11, 14, 15, 18, 19, 22, 23, 2, 3, 4, 8, 9, 12, 13, 16, 17, 20, 21, 24, 25, 5] rfl, hD.sub [0, 1, 6, 7, 10, 11, 14, 15, 18, 19, 22, 23, 2, 3, 4, 8, 9, 12, 13, 16, 17, 20, 21, 24, 25, 5] (by decide) rfl⟩, hS.F ht⟩) hS.2.2 dX1_copyFrom_144
  ·
    have i_4 : k_i.toInt < 6 := by have z := g5_geN (a := k_i.toInt) (b := 6) (by rfl) (by decide) c_4; omega
    refine lv_aload_n hx hb dX1_copyFrom_48 rfl (lv_at hl 1 rfl) ?_
    refine va_get (D := G.1) (ci := 1) (v := .ref a_l) (C := RX1) (T := TX1) (N := 13) hx hb hts inG_X1 hown hK hP 0 rfl rfl 5 (by decide) (hts _ fl_X1_30) (fun _ h9 => h9) rfl dX1_copyFrom_49 ?_
    refine lv_iload_n hx hb dX1_copyFrom_52 rfl (lv_at hl 0 rfl) ?_
    refine lv_aload_n hx hb dX1_copyFrom_53 rfl (lv_at hl 2 rfl) ?_
    refine va_get (D := G.1) (ci := 1) (v := .ref a_l2) (C := RX1) (T := TX1) (N := 13) hx hb hts inG_X1 hown hK hP 13 rfl rfl 5 (by decide) (hts _ fl_X1_30) (fun _ h9 => h9) rfl dX1_copyFrom_54 ?_
    refine lv_iload_n hx hb dX1_copyFrom_57 rfl (lv_at hl 0 rfl) ?_
    refine va_aldq hx hb hK hP 14 4 rfl rfl (i := k_i) (vp_in_iff.mpr ⟨by omega, by omega⟩) dX1_copyFrom_58 ?_
    rcases hq9 : f_l2 k_i.toNatClampNeg with _ | v9
    ·
      refine g5_tv (v := .null) rfl ?_
      refine va_astqN hx hb hK hP hD hS 1 4 rfl rfl (i := k_i) (vp_in_iff.mpr ⟨by omega, by omega⟩) dX1_copyFrom_59 (fun H locs hP hD hS => ?_)
      refine g5_rs [(a_h, (oc1 e_wa2 e_le2 e_st2 e_fo2 e_lc2 a_l a_g a_b a_s a_p a_w e_gb a_bb)), (a_l, (arW G 6 (va_up k_l k_i.toNatClampNeg none))), (a_g, (oc6 6 5 a_gn e_g)), (a_gn, (arI G 30 f_g)), (a_b, (oc6 5 24 a_bn e_b)), (a_bn, (arI G 120 f_b)), (a_s, (oc6 10 4 a_sn e_s)), (a_sn, (arI G 40 f_s)), (a_p, (oc6 8 5 a_pn e_p)), (a_pn, (arI G 40 f_p)), (a_w, (oc6 6 6 a_wn e_w)), (a_wn, (arI G 36 f_w)), (a_bb, (arJ G 24 f_bb)), (a_h2, (oc1 e_wa2 e_le2 e_st2 e_fo2 e_lc2 a_l2 a_g2 a_b2 a_s2 a_p2 a_w2 e_gb2 a_bb2)), (a_l2, (arW G 6 f_l2)), (a_g2, (oc6 6 5 a_gn2 e_g2)), (a_gn2, (arI G 30 f_g2)), (a_b2, (oc6 5 24 a_bn2 e_b2)), (a_bn2, (arI G 120 f_b2)), (a_s2, (oc6 10 4 a_sn2 e_s2)), (a_sn2, (arI G 40 f_s2)), (a_p2, (oc6 8 5 a_pn2 e_p2)), (a_pn2, (arI G 40 f_p2)), (a_w2, (oc6 6 6 a_wn2 e_w2)), (a_wn2, (arI G 36 f_w2)), (a_bb2, (arJ G 24 f_bb2))] hP hD (fun hP hD => ?_)
      refine lv_iinc (v := (k_i + 1)) (lv' := [(2, .int (k_i + 1)), (0, .ref a_h), (1, .ref a_h2)]) hx hb dX1_copyFrom_60 hl (k := 0) rfl rfl (by decide) rfl (fun ls hl => ?_)
      have t_5 : (k_i + 1).toInt = k_i.toInt + 1 := g5_iadd (a := k_i.toInt) (b := 1) rfl (by decide) (by omega) (by omega)
      refine lv_goto (tgt := 42) hx hb dX1_copyFrom_63 (by decide) ?_
      exact ih_42_3 ((k_i + 1), (va_up k_l k_i.toNatClampNeg none)) ls H locs (show Int.toNat (6 - (k_i + 1).toInt) < Int.toNat (6 - k_i.toInt) from g_up (show k_i.toInt < (k_i + 1).toInt by omega) (show k_i.toInt < 6 by omega)) ⟨lv_sub hl [0, 1, 2] rfl, hP, hD, hS, ⟨by omega, by omega⟩, cp_law i_2 (by omega) (by omega) hq9⟩
    ·
      refine g5_tv (v := .ref v9) rfl ?_
      refine va_astqM hx hb hK hP hD hS 1 4 rfl rfl (g_any ((hLA _ _ (by have zz := g5_clamp k_i; omega) hq9).kept hS.2.1)) (i := k_i) (vp_in_iff.mpr ⟨by omega, by omega⟩) dX1_copyFrom_59 (fun H locs hP hD hS => ?_)
      refine g5_rs [(a_h, (oc1 e_wa2 e_le2 e_st2 e_fo2 e_lc2 a_l a_g a_b a_s a_p a_w e_gb a_bb)), (a_l, (arW G 6 (va_up k_l k_i.toNatClampNeg (some v9)))), (a_g, (oc6 6 5 a_gn e_g)), (a_gn, (arI G 30 f_g)), (a_b, (oc6 5 24 a_bn e_b)), (a_bn, (arI G 120 f_b)), (a_s, (oc6 10 4 a_sn e_s)), (a_sn, (arI G 40 f_s)), (a_p, (oc6 8 5 a_pn e_p)), (a_pn, (arI G 40 f_p)), (a_w, (oc6 6 6 a_wn e_w)), (a_wn, (arI G 36 f_w)), (a_bb, (arJ G 24 f_bb)), (a_h2, (oc1 e_wa2 e_le2 e_st2 e_fo2 e_lc2 a_l2 a_g2 a_b2 a_s2 a_p2 a_w2 e_gb2 a_bb2)), (a_l2, (arW G 6 f_l2)), (a_g2, (oc6 6 5 a_gn2 e_g2)), (a_gn2, (arI G 30 f_g2)), (a_b2, (oc6 5 24 a_bn2 e_b2)), (a_bn2, (arI G 120 f_b2)), (a_s2, (oc6 10 4 a_sn2 e_s2)), (a_sn2, (arI G 40 f_s2)), (a_p2, (oc6 8 5 a_pn2 e_p2)), (a_pn2, (arI G 40 f_p2)), (a_w2, (oc6 6 6 a_wn2 e_w2)), (a_wn2, (arI G 36 f_w2)), (a_bb2, (arJ G 24 f_bb2))] hP hD (fun hP hD => ?_)
      refine lv_iinc (v := (k_i + 1)) (lv' := [(2, .int (k_i + 1)), (0, .ref a_h), (1, .ref a_h2)]) hx hb dX1_copyFrom_60 hl (k := 0) rfl rfl (by decide) rfl (fun ls hl => ?_)
      have t_6 : (k_i + 1).toInt = k_i.toInt + 1 := g5_iadd (a := k_i.toInt) (b := 1) rfl (by decide) (by omega) (by omega)
      refine lv_goto (tgt := 42) hx hb dX1_copyFrom_63 (by decide) ?_
      exact ih_42_3 ((k_i + 1), (va_up k_l k_i.toNatClampNeg (some v9))) ls H locs (show Int.toNat (6 - (k_i + 1).toInt) < Int.toNat (6 - k_i.toInt) from g_up (show k_i.toInt < (k_i + 1).toInt by omega) (show k_i.toInt < 6 by omega)) ⟨lv_sub hl [0, 1, 2] rfl, hP, hD, hS, ⟨by omega, by omega⟩, cp_law i_2 (by omega) (by omega) hq9⟩
