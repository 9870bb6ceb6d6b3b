set_option maxHeartbeats 4000000 in
set_option maxRecDepth 100000 in
theorem k_mgpL1 {p : Program} {l : Launch} {e : Env} {s : State} {m : MethodId} {args : Array Value} {below : List Frame} {meth : Method} {c : Code} {Q : State → Prop} {A : Nat → Prop} {H : Heap} {locs : List Loc} {ls : Array Slot} (G : g5_G) (a_k a_h a_g a_gn a_p a_pn a_j a_as a_sk a_l a_lo a_sr a_cd a_hd a_pt a_b a_s a_w a_bb n_sr n_cd n_hd : Nat) (e_ln : Int32) (e_se : Int32) (e_lh : Int32) (e_br : Int32) (e_we : Int32) (e_me : Int32) (e_ce : Int32) (e_wy : Int32) (e_ho : Int32) (e_ov : Int32) (e_le : Int32) (e_st : Int32) (e_fo : Int32) (e_lc : Int32) (e_wa : Int64) (e_gb : Int64) (e_g : Int32) (f_g : Nat → Int32) (e_p : Int32) (f_p : Nat → Int32) (f_as : Nat → Int32) (f_sk : Nat → Int64) (f_l : Nat → Option Nat) (e_cl : Int32) (f_sr : Nat → Int32) (f_cd : Nat → Int32) (f_hd : Nat → Int32) (k_r : Int32) (k_n : Int32) (hx : p.tables.exec = Jvm.exec) (hb : c.code = cX5_meetGlass) (hml : c.maxLocals = 9) (hown : s.vm.findClass RX5 = some m.cls) (hts : ∀ w ∈ tblG, w.before args s = true) (hK : va_K G.1 vwCl (T5 G) s) (hN : g5_N s) (hT : g5_S A s s.heap) (hA : ∀ q : Nat, s.heap.size ≤ q → A q) (hP : va_P G.1 vwCl [(a_k, .inr (5, [.ref a_h, .ref a_j, .ref a_pt, .int e_ln, .int e_se, .int e_lh, .int e_br, .int e_we, .int e_me, .int e_ce, .int e_wy, .int e_ho, .int e_ov])), (a_h, .inr (1, [.long e_wa, .int e_le, .int e_st, .int e_fo, .int e_lc, .ref a_l, .ref a_g, .ref a_b, .ref a_s, .ref a_p, .ref a_w, .long e_gb, .ref a_bb])), (a_g, .inr (6, [.int 6, .int 5, .ref a_gn, .int e_g])), (a_gn, .inl (G.2 0, 30, .inl f_g)), (a_p, .inr (6, [.int 8, .int 5, .ref a_pn, .int e_p])), (a_pn, .inl (G.2 0, 40, .inl f_p)), (a_j, .inr (2, [.ref a_as, .ref a_sk])), (a_as, .inl (G.2 0, 8, .inl f_as)), (a_sk, .inl (G.2 1, 50, .inr (.inl f_sk))), (a_l, .inl (G.2 4, 6, .inr (.inr (.inr (.inr f_l))))), (a_lo, .inr (3, [.int e_cl, .ref a_hd, .ref a_sr, .ref a_cd])), (a_sr, .inl (G.2 0, n_sr, .inl f_sr)), (a_cd, .inl (G.2 0, n_cd, .inl f_cd)), (a_hd, .inl (G.2 0, n_hd, .inl f_hd))] H) (hD : va_D A [(a_k, .inr (5, [.ref a_h, .ref a_j, .ref a_pt, .int e_ln, .int e_se, .int e_lh, .int e_br, .int e_we, .int e_me, .int e_ce, .int e_wy, .int e_ho, .int e_ov])), (a_h, .inr (1, [.long e_wa, .int e_le, .int e_st, .int e_fo, .int e_lc, .ref a_l, .ref a_g, .ref a_b, .ref a_s, .ref a_p, .ref a_w, .long e_gb, .ref a_bb])), (a_g, .inr (6, [.int 6, .int 5, .ref a_gn, .int e_g])), (a_gn, .inl (G.2 0, 30, .inl f_g)), (a_p, .inr (6, [.int 8, .int 5, .ref a_pn, .int e_p])), (a_pn, .inl (G.2 0, 40, .inl f_p)), (a_j, .inr (2, [.ref a_as, .ref a_sk])), (a_as, .inl (G.2 0, 8, .inl f_as)), (a_sk, .inl (G.2 1, 50, .inr (.inl f_sk))), (a_l, .inl (G.2 4, 6, .inr (.inr (.inr (.inr f_l))))), (a_lo, .inr (3, [.int e_cl, .ref a_hd, .ref a_sr, .ref a_cd])), (a_sr, .inl (G.2 0, n_sr, .inl f_sr)), (a_cd, .inl (G.2 0, n_cd, .inl f_cd)), (a_hd, .inl (G.2 0, n_hd, .inl f_hd))]) (hS : va_S A s.heap H locs) (hl : lv_has ls 9 [(0, .ref a_k), (2, .ref a_p), (3, .int k_r), (4, .int k_n)]) (h_e_br : 0 ≤ e_br.toInt ∧ e_br.toInt ≤ 1000000) (h_e_ce : 0 ≤ e_ce.toInt ∧ e_ce.toInt ≤ 63) (h_e_wy : 0 ≤ e_wy.toInt ∧ e_wy.toInt ≤ 3) (h_e_ho : 0 ≤ e_ho.toInt ∧ e_ho.toInt ≤ 23) (h_e_ov : 0 ≤ e_ov.toInt ∧ e_ov.toInt ≤ 1) (h_e_g : 0 ≤ e_g.toInt ∧ e_g.toInt ≤ 6) (h_e_p : 0 ≤ e_p.toInt ∧ e_p.toInt ≤ 8) (h_e_cl : 0 ≤ e_cl.toInt ∧ e_cl.toInt ≤ 12) (h_k_r : 0 ≤ k_r.toInt ∧ k_r.toInt ≤ 7) (e_gk : gOK f_g e_g.toInt) (e_pk : gOK f_p e_p.toInt) (e_f : 0 ≤ e_fo.toInt ∧ e_fo.toInt < e_lc.toInt ∧ e_lc.toInt ≤ 6) (e_a : f_l e_fo.toNatClampNeg = some a_lo) (e_hn : n_cd ≤ 400) (e_hs : ∀ j : Nat, j < n_sr → 0 ≤ (f_sr j).toInt ∧ (f_sr j).toInt ≤ (n_cd : Int)) (e_hk : ∀ j : Nat, j < n_cd → (f_cd j >>> (12 &&& 31)).toInt = 1 → (f_cd j &&& 4095).toInt < 8) (e_c : (e_cl.toInt : Int) ≤ (n_hd : Int) ∧ (e_cl.toInt + 1 : Int) ≤ (n_sr : Int)) (e_r : k_r.toInt < e_p.toInt) (kk : ∀ (pc1 : Nat), decode cX5_meetGlass pc1 = .ok (.return_, 1) → ∀ (o_b : Int32) (o_w : Int32) (o_m : Int32) (o_y : Int32) (o_h : Int32) (o_v : Int32) (o_a : Nat → Int32) (o_k : Nat → Int64) (ls : Array Slot) (H : Heap) (locs : List Loc), va_P G.1 vwCl [(a_k, .inr (5, [.ref a_h, .ref a_j, .ref a_pt, .int e_ln, .int e_se, .int e_lh, .int o_b, .int o_w, .int o_m, .int e_ce, .int o_y, .int o_h, .int o_v])), (a_h, .inr (1, [.long e_wa, .int e_le, .int e_st, .int e_fo, .int e_lc, .ref a_l, .ref a_g, .ref a_b, .ref a_s, .ref a_p, .ref a_w, .long e_gb, .ref a_bb])), (a_g, .inr (6, [.int 6, .int 5, .ref a_gn, .int e_g])), (a_gn, .inl (G.2 0, 30, .inl f_g)), (a_p, .inr (6, [.int 8, .int 5, .ref a_pn, .int e_p])), (a_pn, .inl (G.2 0, 40, .inl f_p)), (a_j, .inr (2, [.ref a_as, .ref a_sk])), (a_as, .inl (G.2 0, 8, .inl o_a)), (a_sk, .inl (G.2 1, 50, .inr (.inl o_k))), (a_l, .inl (G.2 4, 6, .inr (.inr (.inr (.inr f_l))))), (a_lo, .inr (3, [.int e_cl, .ref a_hd, .ref a_sr, .ref a_cd])), (a_sr, .inl (G.2 0, n_sr, .inl f_sr)), (a_cd, .inl (G.2 0, n_cd, .inl f_cd)), (a_hd, .inl (G.2 0, n_hd, .inl f_hd))] H → va_D A [(a_k, .inr (5, [.ref a_h, .ref a_j, .ref a_pt, .int e_ln, .int e_se, .int e_lh, .int o_b, .int o_w, .int o_m, .int e_ce, .int o_y, .int o_h, .int o_v])), (a_h, .inr (1, [.long e_wa, .int e_le, .int e_st, .int e_fo, .int e_lc, .ref a_l, .ref a_g, .ref a_b, .ref a_s, .ref a_p, .ref a_w, .long e_gb, .ref a_bb])), (a_g, .inr (6, [.int 6, .int 5, .ref a_gn, .int e_g])), (a_gn, .inl (G.2 0, 30, .inl f_g)), (a_p, .inr (6, [.int 8, .int 5, .ref a_pn, .int e_p])), (a_pn, .inl (G.2 0, 40, .inl f_p)), (a_j, .inr (2, [.ref a_as, .ref a_sk])), (a_as, .inl (G.2 0, 8, .inl o_a)), (a_sk, .inl (G.2 1, 50, .inr (.inl o_k))), (a_l, .inl (G.2 4, 6, .inr (.inr (.inr (.inr f_l))))), (a_lo, .inr (3, [.int e_cl, .ref a_hd, .ref a_sr, .ref a_cd])), (a_sr, .inl (G.2 0, n_sr, .inl f_sr)), (a_cd, .inl (G.2 0, n_cd, .inl f_cd)), (a_hd, .inl (G.2 0, n_hd, .inl f_hd))] → va_S A s.heap H locs → (0 ≤ o_b.toInt ∧ o_b.toInt ≤ 1000000) → (0 ≤ o_y.toInt ∧ o_y.toInt ≤ 3) → (0 ≤ o_h.toInt ∧ o_h.toInt ≤ 23) → (0 ≤ o_v.toInt ∧ o_v.toInt ≤ 1) → W p l e ({ frames := 12, cells := 0, slots := 0, locals := 500 } : Room) s m args below meth c H locs 0 0 Q (F0 m pc1 ls [])) : W p l e ({ frames := 12, cells := 0, slots := 0, locals := 500 } : Room) s m args below meth c H locs 0 0 Q (F0 m 84 ls []) := by
  refine lv_aload_n hx hb dX5_meetGlass_84 rfl (lv_at hl 1 rfl) ?_
  refine lv_iload_n hx hb dX5_meetGlass_85 rfl (lv_at hl 2 rfl) ?_
  refine lv_iconst (v := 1) hx hb dX5_meetGlass_86 (by decide) ?_
  have hPc := hP.sub (ws' := [(a_p, .inr (6, [.int 8, .int 5, .ref a_pn, .int e_p])), (a_pn, .inl (G.2 0, 40, .inl f_p))]) [4, 5] rfl
  have hDc := hD.sub (ws' := [(a_p, .inr (6, [.int 8, .int 5, .ref a_pn, .int e_p])), (a_pn, .inl (G.2 0, 40, .inl f_p))]) [4, 5] (by decide) rfl
  have hFc := va_free (wc := [(a_p, .inr (6, [.int 8, .int 5, .ref a_pn, .int e_p])), (a_pn, .inl (G.2 0, 40, .inl f_p))]) hD hS hA [4, 5] rfl
  refine va_calli (va_runV (As := [.int k_r, .int 1]) (rest := []) ⟨hx, hb, hml, hown, hts⟩ (t_get_P l G a_p a_pn H.size e_p k_r 1 f_p ⟨by omega, by omega⟩) (cwV 2 hts gV_X5_107 rfl rfl rfl hv_X6_get ⟨Nat.le_of_ble_eq_true rfl, Nat.le_of_ble_eq_true rfl⟩) (g5_preV hPc hK hDc hN hT hS hFc (ci := 6) (q0 := 0) rfl rfl) rfl rfl hl.1 rfl (lv_room (Nat.le_of_ble_eq_true rfl)) dX5_meetGlass_87 ⟨Nat.le_of_ble_eq_true rfl, Nat.le_of_ble_eq_true rfl⟩) hS (fun q _ h => hFc q h) hFc (fun r u t H1 locs ht hvm hw hB hz1 hk1 hS => ?_)
  obtain ⟨hP1, hD1⟩ := hB
  rw [ht] at hP1
  obtain ⟨z2, i_1, y3, rfl⟩ := hw
  have i_1 : z2 = tget f_p e_p.toInt 5 k_r.toInt (1 : Int32).toInt := i_1
  obtain ⟨hP, hD⟩ := va_join (wr := [(a_k, .inr (5, [.ref a_h, .ref a_j, .ref a_pt, .int e_ln, .int e_se, .int e_lh, .int e_br, .int e_we, .int e_me, .int e_ce, .int e_wy, .int e_ho, .int e_ov])), (a_h, .inr (1, [.long e_wa, .int e_le, .int e_st, .int e_fo, .int e_lc, .ref a_l, .ref a_g, .ref a_b, .ref a_s, .ref a_p, .ref a_w, .long e_gb, .ref a_bb])), (a_g, .inr (6, [.int 6, .int 5, .ref a_gn, .int e_g])), (a_gn, .inl (G.2 0, 30, .inl f_g)), (a_j, .inr (2, [.ref a_as, .ref a_sk])), (a_as, .inl (G.2 0, 8, .inl f_as)), (a_sk, .inl (G.2 1, 50, .inr (.inl f_sk))), (a_l, .inl (G.2 4, 6, .inr (.inr (.inr (.inr f_l))))), (a_lo, .inr (3, [.int e_cl, .ref a_hd, .ref a_sr, .ref a_cd])), (a_sr, .inl (G.2 0, n_sr, .inl f_sr)), (a_cd, .inl (G.2 0, n_cd, .inl f_cd)), (a_hd, .inl (G.2 0, n_hd, .inl f_hd))]) (w1 := [(a_p, .inr (6, [.int 8, .int 5, .ref a_pn, .int e_p])), (a_pn, .inl (G.2 0, 40, .inl f_p))]) hP hD [4, 5] [0, 1, 2, 3, 6, 7, 8, 9, 10, 11, 12, 13] rfl rfl (by decide) (by decide) hk1 hFc hP1 hD1
  generalize H1 = H at hP hS ⊢
  have hP : va_P G.1 vwCl [(a_k, .inr (5, [.ref a_h, .ref a_j, .ref a_pt, .int e_ln, .int e_se, .int e_lh, .int e_br, .int e_we, .int e_me, .int e_ce, .int e_wy, .int e_ho, .int e_ov])), (a_h, .inr (1, [.long e_wa, .int e_le, .int e_st, .int e_fo, .int e_lc, .ref a_l, .ref a_g, .ref a_b, .ref a_s, .ref a_p, .ref a_w, .long e_gb, .ref a_bb])), (a_g, .inr (6, [.int 6, .int 5, .ref a_gn, .int e_g])), (a_gn, .inl (G.2 0, 30, .inl f_g)), (a_j, .inr (2, [.ref a_as, .ref a_sk])), (a_as, .inl (G.2 0, 8, .inl f_as)), (a_sk, .inl (G.2 1, 50, .inr (.inl f_sk))), (a_l, .inl (G.2 4, 6, .inr (.inr (.inr (.inr f_l))))), (a_lo, .inr (3, [.int e_cl, .ref a_hd, .ref a_sr, .ref a_cd])), (a_sr, .inl (G.2 0, n_sr, .inl f_sr)), (a_cd, .inl (G.2 0, n_cd, .inl f_cd)), (a_hd, .inl (G.2 0, n_hd, .inl f_hd)), (a_p, .inr (6, [.int 8, .int 5, .ref a_pn, .int e_p])), (a_pn, .inl (G.2 0, 40, .inl f_p))] H := hP
  have hD : va_D A [(a_k, .inr (5, [.ref a_h, .ref a_j, .ref a_pt, .int e_ln, .int e_se, .int e_lh, .int e_br, .int e_we, .int e_me, .int e_ce, .int e_wy, .int e_ho, .int e_ov])), (a_h, .inr (1, [.long e_wa, .int e_le, .int e_st, .int e_fo, .int e_lc, .ref a_l, .ref a_g, .ref a_b, .ref a_s, .ref a_p, .ref a_w, .long e_gb, .ref a_bb])), (a_g, .inr (6, [.int 6, .int 5, .ref a_gn, .int e_g])), (a_gn, .inl (G.2 0, 30, .inl f_g)), (a_j, .inr (2, [.ref a_as, .ref a_sk])), (a_as, .inl (G.2 0, 8, .inl f_as)), (a_sk, .inl (G.2 1, 50, .inr (.inl f_sk))), (a_l, .inl (G.2 4, 6, .inr (.inr (.inr (.inr f_l))))), (a_lo, .inr (3, [.int e_cl, .ref a_hd, .ref a_sr, .ref a_cd])), (a_sr, .inl (G.2 0, n_sr, .inl f_sr)), (a_cd, .inl (G.2 0, n_cd, .inl f_cd)), (a_hd, .inl (G.2 0, n_hd, .inl f_hd)), (a_p, .inr (6, [.int 8, .int 5, .ref a_pn, .int e_p])), (a_pn, .inl (G.2 0, 40, .inl f_p))] := hD
  refine g5_ti (v := z2) y3 ?_
  have hg_4 : 0 ≤ z2.toInt ∧ z2.toInt ≤ 5 := by rw [i_1]; exact (e_pk k_r.toInt (by omega) (by omega)).2.1
  refine lv_istore (lv' := [(5, .int z2), (0, .ref a_k), (2, .ref a_p), (3, .int k_r), (4, .int k_n)]) hx hb dX5_meetGlass_90 hl (by decide) rfl (fun ls hl => ?_)
  refine lv_aload_n hx hb dX5_meetGlass_92 rfl (lv_at hl 1 rfl) ?_
  refine lv_dup hx hb dX5_meetGlass_93 rfl ?_
  refine va_get (D := G.1) (ci := 5) (v := .int e_me) (C := RX5) (T := TX5) (N := 13) hx hb hts inG_X5 hown hK hP 0 rfl rfl 8 (by decide) (hts _ fl_X5_95) (fun _ h9 => h9) rfl dX5_meetGlass_94 ?_
  refine lv_iconst (v := 1) hx hb dX5_meetGlass_97 (by decide) ?_
  refine lv_iload hx hb dX5_meetGlass_98 (lv_at hl 4 rfl) ?_
  refine lv_ishl hx hb dX5_meetGlass_100 ?_
  refine lv_ior hx hb dX5_meetGlass_101 ?_
  refine va_put (D := G.1) (ci := 5) (v := .int (e_me ||| (1 <<< (k_n &&& 31)))) (ty := .int) (C := RX5) (T := TX5) (N := 13) hx hb hts inG_X5 tyX5 tyX5_ok nmX5 hown hK hP hD hS 0 rfl rfl 8 (by decide) (hts _ fl_X5_95) (fun _ h9 => h9) rfl (by decide +kernel) rfl rfl (Nat.le_of_ble_eq_true rfl) dX5_meetGlass_102 (fun H locs hP hD hS => ?_)
  have hP : va_P G.1 vwCl [(a_k, .inr (5, [.ref a_h, .ref a_j, .ref a_pt, .int e_ln, .int e_se, .int e_lh, .int e_br, .int e_we, .int (e_me ||| (1 <<< (k_n &&& 31))), .int e_ce, .int e_wy, .int e_ho, .int e_ov])), (a_h, .inr (1, [.long e_wa, .int e_le, .int e_st, .int e_fo, .int e_lc, .ref a_l, .ref a_g, .ref a_b, .ref a_s, .ref a_p, .ref a_w, .long e_gb, .ref a_bb])), (a_g, .inr (6, [.int 6, .int 5, .ref a_gn, .int e_g])), (a_gn, .inl (G.2 0, 30, .inl f_g)), (a_j, .inr (2, [.ref a_as, .ref a_sk])), (a_as, .inl (G.2 0, 8, .inl f_as)), (a_sk, .inl (G.2 1, 50, .inr (.inl f_sk))), (a_l, .inl (G.2 4, 6, .inr (.inr (.inr (.inr f_l))))), (a_lo, .inr (3, [.int e_cl, .ref a_hd, .ref a_sr, .ref a_cd])), (a_sr, .inl (G.2 0, n_sr, .inl f_sr)), (a_cd, .inl (G.2 0, n_cd, .inl f_cd)), (a_hd, .inl (G.2 0, n_hd, .inl f_hd)), (a_p, .inr (6, [.int 8, .int 5, .ref a_pn, .int e_p])), (a_pn, .inl (G.2 0, 40, .inl f_p))] H := hP
  have hD : va_D A [(a_k, .inr (5, [.ref a_h, .ref a_j, .ref a_pt, .int e_ln, .int e_se, .int e_lh, .int e_br, .int e_we, .int (e_me ||| (1 <<< (k_n &&& 31))), .int e_ce, .int e_wy, .int e_ho, .int e_ov])), (a_h, .inr (1, [.long e_wa, .int e_le, .int e_st, .int e_fo, .int e_lc, .ref a_l, .ref a_g, .ref a_b, .ref a_s, .ref a_p, .ref a_w, .long e_gb, .ref a_bb])), (a_g, .inr (6, [.int 6, .int 5, .ref a_gn, .int e_g])), (a_gn, .inl (G.2 0, 30, .inl f_g)), (a_j, .inr (2, [.ref a_as, .ref a_sk])), (a_as, .inl (G.2 0, 8, .inl f_as)), (a_sk, .inl (G.2 1, 50, .inr (.inl f_sk))), (a_l, .inl (G.2 4, 6, .inr (.inr (.inr (.inr f_l))))), (a_lo, .inr (3, [.int e_cl, .ref a_hd, .ref a_sr, .ref a_cd])), (a_sr, .inl (G.2 0, n_sr, .inl f_sr)), (a_cd, .inl (G.2 0, n_cd, .inl f_cd)), (a_hd, .inl (G.2 0, n_hd, .inl f_hd)), (a_p, .inr (6, [.int 8, .int 5, .ref a_pn, .int e_p])), (a_pn, .inl (G.2 0, 40, .inl f_p))] := hD
  refine lv_aload_n hx hb dX5_meetGlass_105 rfl (lv_at hl 1 rfl) ?_
  refine va_get (D := G.1) (ci := 5) (v := .ref a_h) (C := RX5) (T := TX5) (N := 13) hx hb hts inG_X5 hown hK hP 0 rfl rfl 0 (by decide) (hts _ fl_X5_22) (fun _ h9 => h9) rfl dX5_meetGlass_106 ?_
  have hPc := hP.sub (ws' := [(a_h, .inr (1, [.long e_wa, .int e_le, .int e_st, .int e_fo, .int e_lc, .ref a_l, .ref a_g, .ref a_b, .ref a_s, .ref a_p, .ref a_w, .long e_gb, .ref a_bb])), (a_l, .inl (G.2 4, 6, .inr (.inr (.inr (.inr f_l)))))]) [1, 7] rfl
  have hDc := hD.sub (ws' := [(a_h, .inr (1, [.long e_wa, .int e_le, .int e_st, .int e_fo, .int e_lc, .ref a_l, .ref a_g, .ref a_b, .ref a_s, .ref a_p, .ref a_w, .long e_gb, .ref a_bb])), (a_l, .inl (G.2 4, 6, .inr (.inr (.inr (.inr f_l)))))]) [1, 7] (by decide) rfl
  have hFc := va_free (wc := [(a_h, .inr (1, [.long e_wa, .int e_le, .int e_st, .int e_fo, .int e_lc, .ref a_l, .ref a_g, .ref a_b, .ref a_s, .ref a_p, .ref a_w, .long e_gb, .ref a_bb])), (a_l, .inl (G.2 4, 6, .inr (.inr (.inr (.inr f_l)))))]) hD hS hA [1, 7] rfl
  refine va_callq (va_runV (As := []) (rest := []) ⟨hx, hb, hml, hown, hts⟩ (h_lawL l G a_h a_l a_g a_b a_s a_p a_w a_bb a_lo H.size e_le e_st e_fo e_lc e_wa e_gb f_l (e_f) (e_a)) (cwV 0 hts gV_X5_113 rfl rfl rfl hv_X1_lawInForce ⟨Nat.le_of_ble_eq_true rfl, Nat.le_of_ble_eq_true rfl⟩) (g5_preV hPc hK hDc hN hT hS hFc (ci := 1) (q0 := 0) rfl rfl) rfl rfl hl.1 rfl (lv_room (Nat.le_of_ble_eq_true rfl)) dX5_meetGlass_109 ⟨Nat.le_of_ble_eq_true rfl, Nat.le_of_ble_eq_true rfl⟩) hS (fun q _ h => hFc q h) hFc (fun r u t H1 locs ht hvm hw hB hz1 hk1 hS => ?_)
  obtain ⟨hP1, hD1⟩ := hB
  rw [ht] at hP1
  obtain ⟨rfl, rfl⟩ := hw
  obtain ⟨hP, hD⟩ := va_join (wr := [(a_k, .inr (5, [.ref a_h, .ref a_j, .ref a_pt, .int e_ln, .int e_se, .int e_lh, .int e_br, .int e_we, .int (e_me ||| (1 <<< (k_n &&& 31))), .int e_ce, .int e_wy, .int e_ho, .int e_ov])), (a_g, .inr (6, [.int 6, .int 5, .ref a_gn, .int e_g])), (a_gn, .inl (G.2 0, 30, .inl f_g)), (a_j, .inr (2, [.ref a_as, .ref a_sk])), (a_as, .inl (G.2 0, 8, .inl f_as)), (a_sk, .inl (G.2 1, 50, .inr (.inl f_sk))), (a_lo, .inr (3, [.int e_cl, .ref a_hd, .ref a_sr, .ref a_cd])), (a_sr, .inl (G.2 0, n_sr, .inl f_sr)), (a_cd, .inl (G.2 0, n_cd, .inl f_cd)), (a_hd, .inl (G.2 0, n_hd, .inl f_hd)), (a_p, .inr (6, [.int 8, .int 5, .ref a_pn, .int e_p])), (a_pn, .inl (G.2 0, 40, .inl f_p))]) (w1 := [(a_h, .inr (1, [.long e_wa, .int e_le, .int e_st, .int e_fo, .int e_lc, .ref a_l, .ref a_g, .ref a_b, .ref a_s, .ref a_p, .ref a_w, .long e_gb, .ref a_bb])), (a_l, .inl (G.2 4, 6, .inr (.inr (.inr (.inr f_l)))))]) hP hD [1, 7] [0, 2, 3, 4, 5, 6, 8, 9, 10, 11, 12, 13] rfl rfl (by decide) (by decide) hk1 hFc hP1 hD1
  generalize H1 = H at hP hS ⊢
  have hP : va_P G.1 vwCl [(a_k, .inr (5, [.ref a_h, .ref a_j, .ref a_pt, .int e_ln, .int e_se, .int e_lh, .int e_br, .int e_we, .int (e_me ||| (1 <<< (k_n &&& 31))), .int e_ce, .int e_wy, .int e_ho, .int e_ov])), (a_g, .inr (6, [.int 6, .int 5, .ref a_gn, .int e_g])), (a_gn, .inl (G.2 0, 30, .inl f_g)), (a_j, .inr (2, [.ref a_as, .ref a_sk])), (a_as, .inl (G.2 0, 8, .inl f_as)), (a_sk, .inl (G.2 1, 50, .inr (.inl f_sk))), (a_lo, .inr (3, [.int e_cl, .ref a_hd, .ref a_sr, .ref a_cd])), (a_sr, .inl (G.2 0, n_sr, .inl f_sr)), (a_cd, .inl (G.2 0, n_cd, .inl f_cd)), (a_hd, .inl (G.2 0, n_hd, .inl f_hd)), (a_p, .inr (6, [.int 8, .int 5, .ref a_pn, .int e_p])), (a_pn, .inl (G.2 0, 40, .inl f_p)), (a_h, .inr (1, [.long e_wa, .int e_le, .int e_st, .int e_fo, .int e_lc, .ref a_l, .ref a_g, .ref a_b, .ref a_s, .ref a_p, .ref a_w, .long e_gb, .ref a_bb])), (a_l, .inl (G.2 4, 6, .inr (.inr (.inr (.inr f_l)))))] H := hP
  have hD : va_D A [(a_k, .inr (5, [.ref a_h, .ref a_j, .ref a_pt, .int e_ln, .int e_se, .int e_lh, .int e_br, .int e_we, .int (e_me ||| (1 <<< (k_n &&& 31))), .int e_ce, .int e_wy, .int e_ho, .int e_ov])), (a_g, .inr (6, [.int 6, .int 5, .ref a_gn, .int e_g])), (a_gn, .inl (G.2 0, 30, .inl f_g)), (a_j, .inr (2, [.ref a_as, .ref a_sk])), (a_as, .inl (G.2 0, 8, .inl f_as)), (a_sk, .inl (G.2 1, 50, .inr (.inl f_sk))), (a_lo, .inr (3, [.int e_cl, .ref a_hd, .ref a_sr, .ref a_cd])), (a_sr, .inl (G.2 0, n_sr, .inl f_sr)), (a_cd, .inl (G.2 0, n_cd, .inl f_cd)), (a_hd, .inl (G.2 0, n_hd, .inl f_hd)), (a_p, .inr (6, [.int 8, .int 5, .ref a_pn, .int e_p])), (a_pn, .inl (G.2 0, 40, .inl f_p)), (a_h, .inr (1, [.long e_wa, .int e_le, .int e_st, .int e_fo, .int e_lc, .ref a_l, .ref a_g, .ref a_b, .ref a_s, .ref a_p, .ref a_w, .long e_gb, .ref a_bb])), (a_l, .inl (G.2 4, 6, .inr (.inr (.inr (.inr f_l)))))] := hD
  refine g5_tv (v := .ref a_lo) rfl ?_
  refine lv_astore (lv' := [(6, .ref a_lo), (5, .int z2), (0, .ref a_k), (2, .ref a_p), (3, .int k_r), (4, .int k_n)]) hx hb dX5_meetGlass_112 hl (by decide) rfl (fun ls hl => ?_)
  refine lv_aload_n hx hb dX5_meetGlass_114 rfl (lv_at hl 2 rfl) ?_
  refine lv_iload hx hb dX5_meetGlass_115 (lv_at hl 5 rfl) ?_
  refine lv_iconst (v := (-1)) hx hb dX5_meetGlass_117 (by decide) ?_
  have hPc := hP.sub (ws' := [(a_k, .inr (5, [.ref a_h, .ref a_j, .ref a_pt, .int e_ln, .int e_se, .int e_lh, .int e_br, .int e_we, .int (e_me ||| (1 <<< (k_n &&& 31))), .int e_ce, .int e_wy, .int e_ho, .int e_ov])), (a_j, .inr (2, [.ref a_as, .ref a_sk])), (a_as, .inl (G.2 0, 8, .inl f_as))]) [0, 3, 4] rfl
  have hDc := hD.sub (ws' := [(a_k, .inr (5, [.ref a_h, .ref a_j, .ref a_pt, .int e_ln, .int e_se, .int e_lh, .int e_br, .int e_we, .int (e_me ||| (1 <<< (k_n &&& 31))), .int e_ce, .int e_wy, .int e_ho, .int e_ov])), (a_j, .inr (2, [.ref a_as, .ref a_sk])), (a_as, .inl (G.2 0, 8, .inl f_as))]) [0, 3, 4] (by decide) rfl
  have hFc := va_free (wc := [(a_k, .inr (5, [.ref a_h, .ref a_j, .ref a_pt, .int e_ln, .int e_se, .int e_lh, .int e_br, .int e_we, .int (e_me ||| (1 <<< (k_n &&& 31))), .int e_ce, .int e_wy, .int e_ho, .int e_ov])), (a_j, .inr (2, [.ref a_as, .ref a_sk])), (a_as, .inl (G.2 0, 8, .inl f_as))]) hD hS hA [0, 3, 4] rfl
  refine va_callv (va_runV (As := [.int k_n, .int (-1)]) (rest := []) ⟨hx, hb, hml, hown, hts⟩ (k_ask l G a_k a_j a_as a_h a_pt a_sk H.size e_ln e_se e_lh e_br e_we (e_me ||| (1 <<< (k_n &&& 31))) e_ce e_wy e_ho e_ov k_n (-1) f_as ⟨by omega, by omega⟩ ⟨by omega, by omega⟩ ⟨by omega, by omega⟩ ⟨by omega, by omega⟩ ⟨by omega, by omega⟩) (cwV 2 hts gV_X5_120 rfl rfl rfl hv_X5_ask ⟨Nat.le_of_ble_eq_true rfl, Nat.le_of_ble_eq_true rfl⟩) (g5_preV hPc hK hDc hN hT hS hFc (ci := 5) (q0 := 0) rfl rfl) rfl rfl hl.1 rfl (lv_room (Nat.le_of_ble_eq_true rfl)) dX5_meetGlass_118 ⟨Nat.le_of_ble_eq_true rfl, Nat.le_of_ble_eq_true rfl⟩) hS (fun q _ h => hFc q h) hFc (fun u t H1 locs ht hvm hw hB hz1 hk1 hS => ?_)
  obtain ⟨hP1, hD1⟩ := hB
  rw [ht] at hP1
  obtain ⟨z5, rfl⟩ := hw
  obtain ⟨hP, hD⟩ := va_join (wr := [(a_g, .inr (6, [.int 6, .int 5, .ref a_gn, .int e_g])), (a_gn, .inl (G.2 0, 30, .inl f_g)), (a_sk, .inl (G.2 1, 50, .inr (.inl f_sk))), (a_lo, .inr (3, [.int e_cl, .ref a_hd, .ref a_sr, .ref a_cd])), (a_sr, .inl (G.2 0, n_sr, .inl f_sr)), (a_cd, .inl (G.2 0, n_cd, .inl f_cd)), (a_hd, .inl (G.2 0, n_hd, .inl f_hd)), (a_p, .inr (6, [.int 8, .int 5, .ref a_pn, .int e_p])), (a_pn, .inl (G.2 0, 40, .inl f_p)), (a_h, .inr (1, [.long e_wa, .int e_le, .int e_st, .int e_fo, .int e_lc, .ref a_l, .ref a_g, .ref a_b, .ref a_s, .ref a_p, .ref a_w, .long e_gb, .ref a_bb])), (a_l, .inl (G.2 4, 6, .inr (.inr (.inr (.inr f_l)))))]) (w1 := [(a_k, .inr (5, [.ref a_h, .ref a_j, .ref a_pt, .int e_ln, .int e_se, .int e_lh, .int e_br, .int e_we, .int (e_me ||| (1 <<< (k_n &&& 31))), .int e_ce, .int e_wy, .int e_ho, .int e_ov])), (a_j, .inr (2, [.ref a_as, .ref a_sk])), (a_as, .inl (G.2 0, 8, .inl z5))]) hP hD [0, 3, 4] [1, 2, 5, 6, 7, 8, 9, 10, 11, 12, 13] rfl rfl (by decide) (by decide) hk1 hFc hP1 hD1
  generalize H1 = H at hP hS ⊢
  have hP : va_P G.1 vwCl [(a_g, .inr (6, [.int 6, .int 5, .ref a_gn, .int e_g])), (a_gn, .inl (G.2 0, 30, .inl f_g)), (a_sk, .inl (G.2 1, 50, .inr (.inl f_sk))), (a_lo, .inr (3, [.int e_cl, .ref a_hd, .ref a_sr, .ref a_cd])), (a_sr, .inl (G.2 0, n_sr, .inl f_sr)), (a_cd, .inl (G.2 0, n_cd, .inl f_cd)), (a_hd, .inl (G.2 0, n_hd, .inl f_hd)), (a_p, .inr (6, [.int 8, .int 5, .ref a_pn, .int e_p])), (a_pn, .inl (G.2 0, 40, .inl f_p)), (a_h, .inr (1, [.long e_wa, .int e_le, .int e_st, .int e_fo, .int e_lc, .ref a_l, .ref a_g, .ref a_b, .ref a_s, .ref a_p, .ref a_w, .long e_gb, .ref a_bb])), (a_l, .inl (G.2 4, 6, .inr (.inr (.inr (.inr f_l))))), (a_k, .inr (5, [.ref a_h, .ref a_j, .ref a_pt, .int e_ln, .int e_se, .int e_lh, .int e_br, .int e_we, .int (e_me ||| (1 <<< (k_n &&& 31))), .int e_ce, .int e_wy, .int e_ho, .int e_ov])), (a_j, .inr (2, [.ref a_as, .ref a_sk])), (a_as, .inl (G.2 0, 8, .inl z5))] H := hP
  have hD : va_D A [(a_g, .inr (6, [.int 6, .int 5, .ref a_gn, .int e_g])), (a_gn, .inl (G.2 0, 30, .inl f_g)), (a_sk, .inl (G.2 1, 50, .inr (.inl f_sk))), (a_lo, .inr (3, [.int e_cl, .ref a_hd, .ref a_sr, .ref a_cd])), (a_sr, .inl (G.2 0, n_sr, .inl f_sr)), (a_cd, .inl (G.2 0, n_cd, .inl f_cd)), (a_hd, .inl (G.2 0, n_hd, .inl f_hd)), (a_p, .inr (6, [.int 8, .int 5, .ref a_pn, .int e_p])), (a_pn, .inl (G.2 0, 40, .inl f_p)), (a_h, .inr (1, [.long e_wa, .int e_le, .int e_st, .int e_fo, .int e_lc, .ref a_l, .ref a_g, .ref a_b, .ref a_s, .ref a_p, .ref a_w, .long e_gb, .ref a_bb])), (a_l, .inl (G.2 4, 6, .inr (.inr (.inr (.inr f_l))))), (a_k, .inr (5, [.ref a_h, .ref a_j, .ref a_pt, .int e_ln, .int e_se, .int e_lh, .int e_br, .int e_we, .int (e_me ||| (1 <<< (k_n &&& 31))), .int e_ce, .int e_wy, .int e_ho, .int e_ov])), (a_j, .inr (2, [.ref a_as, .ref a_sk])), (a_as, .inl (G.2 0, 8, .inl z5))] := hD
  refine lv_aload_n hx hb dX5_meetGlass_121 rfl (lv_at hl 3 rfl) ?_
  refine lv_iload_n hx hb dX5_meetGlass_122 rfl (lv_at hl 4 rfl) ?_
  refine lv_iconst (v := 4) hx hb dX5_meetGlass_123 (by decide) ?_
  have hPc := hP.sub (ws' := [(a_p, .inr (6, [.int 8, .int 5, .ref a_pn, .int e_p])), (a_pn, .inl (G.2 0, 40, .inl f_p))]) [7, 8] rfl
  have hDc := hD.sub (ws' := [(a_p, .inr (6, [.int 8, .int 5, .ref a_pn, .int e_p])), (a_pn, .inl (G.2 0, 40, .inl f_p))]) [7, 8] (by decide) rfl
  have hFc := va_free (wc := [(a_p, .inr (6, [.int 8, .int 5, .ref a_pn, .int e_p])), (a_pn, .inl (G.2 0, 40, .inl f_p))]) hD hS hA [7, 8] rfl
  refine va_calli (va_runV (As := [.int k_r, .int 4]) (rest := []) ⟨hx, hb, hml, hown, hts⟩ (t_get_P l G a_p a_pn H.size e_p k_r 4 f_p ⟨by omega, by omega⟩) (cwV 2 hts gV_X5_107 rfl rfl rfl hv_X6_get ⟨Nat.le_of_ble_eq_true rfl, Nat.le_of_ble_eq_true rfl⟩) (g5_preV hPc hK hDc hN hT hS hFc (ci := 6) (q0 := 0) rfl rfl) rfl rfl hl.1 rfl (lv_room (Nat.le_of_ble_eq_true rfl)) dX5_meetGlass_124 ⟨Nat.le_of_ble_eq_true rfl, Nat.le_of_ble_eq_true rfl⟩) hS (fun q _ h => hFc q h) hFc (fun r u t H1 locs ht hvm hw hB hz1 hk1 hS => ?_)
  obtain ⟨hP1, hD1⟩ := hB
  rw [ht] at hP1
  obtain ⟨z7, i_6, y8, rfl⟩ := hw
  have i_6 : z7 = tget f_p e_p.toInt 5 k_r.toInt (4 : Int32).toInt := i_6
  obtain ⟨hP, hD⟩ := va_join (wr := [(a_g, .inr (6, [.int 6, .int 5, .ref a_gn, .int e_g])), (a_gn, .inl (G.2 0, 30, .inl f_g)), (a_sk, .inl (G.2 1, 50, .inr (.inl f_sk))), (a_lo, .inr (3, [.int e_cl, .ref a_hd, .ref a_sr, .ref a_cd])), (a_sr, .inl (G.2 0, n_sr, .inl f_sr)), (a_cd, .inl (G.2 0, n_cd, .inl f_cd)), (a_hd, .inl (G.2 0, n_hd, .inl f_hd)), (a_h, .inr (1, [.long e_wa, .int e_le, .int e_st, .int e_fo, .int e_lc, .ref a_l, .ref a_g, .ref a_b, .ref a_s, .ref a_p, .ref a_w, .long e_gb, .ref a_bb])), (a_l, .inl (G.2 4, 6, .inr (.inr (.inr (.inr f_l))))), (a_k, .inr (5, [.ref a_h, .ref a_j, .ref a_pt, .int e_ln, .int e_se, .int e_lh, .int e_br, .int e_we, .int (e_me ||| (1 <<< (k_n &&& 31))), .int e_ce, .int e_wy, .int e_ho, .int e_ov])), (a_j, .inr (2, [.ref a_as, .ref a_sk])), (a_as, .inl (G.2 0, 8, .inl z5))]) (w1 := [(a_p, .inr (6, [.int 8, .int 5, .ref a_pn, .int e_p])), (a_pn, .inl (G.2 0, 40, .inl f_p))]) hP hD [7, 8] [0, 1, 2, 3, 4, 5, 6, 9, 10, 11, 12, 13] rfl rfl (by decide) (by decide) hk1 hFc hP1 hD1
  generalize H1 = H at hP hS ⊢
  have hP : va_P G.1 vwCl [(a_g, .inr (6, [.int 6, .int 5, .ref a_gn, .int e_g])), (a_gn, .inl (G.2 0, 30, .inl f_g)), (a_sk, .inl (G.2 1, 50, .inr (.inl f_sk))), (a_lo, .inr (3, [.int e_cl, .ref a_hd, .ref a_sr, .ref a_cd])), (a_sr, .inl (G.2 0, n_sr, .inl f_sr)), (a_cd, .inl (G.2 0, n_cd, .inl f_cd)), (a_hd, .inl (G.2 0, n_hd, .inl f_hd)), (a_h, .inr (1, [.long e_wa, .int e_le, .int e_st, .int e_fo, .int e_lc, .ref a_l, .ref a_g, .ref a_b, .ref a_s, .ref a_p, .ref a_w, .long e_gb, .ref a_bb])), (a_l, .inl (G.2 4, 6, .inr (.inr (.inr (.inr f_l))))), (a_k, .inr (5, [.ref a_h, .ref a_j, .ref a_pt, .int e_ln, .int e_se, .int e_lh, .int e_br, .int e_we, .int (e_me ||| (1 <<< (k_n &&& 31))), .int e_ce, .int e_wy, .int e_ho, .int e_ov])), (a_j, .inr (2, [.ref a_as, .ref a_sk])), (a_as, .inl (G.2 0, 8, .inl z5)), (a_p, .inr (6, [.int 8, .int 5, .ref a_pn, .int e_p])), (a_pn, .inl (G.2 0, 40, .inl f_p))] H := hP
  have hD : va_D A [(a_g, .inr (6, [.int 6, .int 5, .ref a_gn, .int e_g])), (a_gn, .inl (G.2 0, 30, .inl f_g)), (a_sk, .inl (G.2 1, 50, .inr (.inl f_sk))), (a_lo, .inr (3, [.int e_cl, .ref a_hd, .ref a_sr, .ref a_cd])), (a_sr, .inl (G.2 0, n_sr, .inl f_sr)), (a_cd, .inl (G.2 0, n_cd, .inl f_cd)), (a_hd, .inl (G.2 0, n_hd, .inl f_hd)), (a_h, .inr (1, [.long e_wa, .int e_le, .int e_st, .int e_fo, .int e_lc, .ref a_l, .ref a_g, .ref a_b, .ref a_s, .ref a_p, .ref a_w, .long e_gb, .ref a_bb])), (a_l, .inl (G.2 4, 6, .inr (.inr (.inr (.inr f_l))))), (a_k, .inr (5, [.ref a_h, .ref a_j, .ref a_pt, .int e_ln, .int e_se, .int e_lh, .int e_br, .int e_we, .int (e_me ||| (1 <<< (k_n &&& 31))), .int e_ce, .int e_wy, .int e_ho, .int e_ov])), (a_j, .inr (2, [.ref a_as, .ref a_sk])), (a_as, .inl (G.2 0, 8, .inl z5)), (a_p, .inr (6, [.int 8, .int 5, .ref a_pn, .int e_p])), (a_pn, .inl (G.2 0, 40, .inl f_p))] := hD
  refine g5_ti (v := z7) y8 ?_
  refine lv_aload_n hx hb dX5_meetGlass_127 rfl (lv_at hl 2 rfl) ?_
  refine va_get (D := G.1) (ci := 5) (v := .int e_ho) (C := RX5) (T := TX5) (N := 13) hx hb hts inG_X5 hown hK hP 9 rfl rfl 11 (by decide) (hts _ fl_X5_33) (fun _ h9 => h9) rfl dX5_meetGlass_128 ?_
  refine lv_ishr hx hb dX5_meetGlass_131 ?_
  refine lv_iconst (v := 1) hx hb dX5_meetGlass_132 (by decide) ?_
  refine lv_iand hx hb dX5_meetGlass_133 ?_
  refine lv_if_ne (tgt := 169) hx hb dX5_meetGlass_134 (by decide) (fun c_9 => ?_) (fun c_9 => ?_)
  ·
    have n_9 : gNe (((z7 >>> (e_ho &&& 31)) &&& 1).toInt) (0) := by have z := g5_ne (a := ((z7 >>> (e_ho &&& 31)) &&& 1).toInt) (b := 0) (by rfl) (by decide) c_9; unfold gNe; omega
    exact kk 169 dX5_meetGlass_169 e_br e_we (e_me ||| (1 <<< (k_n &&& 31))) e_wy e_ho e_ov z5 f_sk ls H locs (hP.sub [9, 7, 0, 1, 12, 13, 10, 11, 2, 8, 3, 4, 5, 6] rfl) (hD.sub [9, 7, 0, 1, 12, 13, 10, 11, 2, 8, 3, 4, 5, 6] (by decide) rfl) hS (⟨by omega, by omega⟩) (⟨by omega, by omega⟩) (⟨by omega, by omega⟩) (⟨by omega, by omega⟩)
  ·
    have i_9 : ((z7 >>> (e_ho &&& 31)) &&& 1).toInt = 0 := by have z := g5_neN (a := ((z7 >>> (e_ho &&& 31)) &&& 1).toInt) (b := 0) (by rfl) (by decide) c_9; omega
    refine lv_aload_n hx hb dX5_meetGlass_137 rfl (lv_at hl 2 rfl) ?_
    refine va_get (D := G.1) (ci := 5) (v := .ref a_j) (C := RX5) (T := TX5) (N := 13) hx hb hts inG_X5 hown hK hP 9 rfl rfl 1 (by decide) (hts _ fl_X5_12) (fun _ h9 => h9) rfl dX5_meetGlass_138 ?_
    refine lv_aload hx hb dX5_meetGlass_141 (lv_at hl 0 rfl) ?_
    refine lv_iconst (v := 2) hx hb dX5_meetGlass_143 (by decide) ?_
    have hPc := hP.sub (ws' := [(a_j, .inr (2, [.ref a_as, .ref a_sk])), (a_as, .inl (G.2 0, 8, .inl z5)), (a_sk, .inl (G.2 1, 50, .inr (.inl f_sk))), (a_lo, .inr (3, [.int e_cl, .ref a_hd, .ref a_sr, .ref a_cd])), (a_sr, .inl (G.2 0, n_sr, .inl f_sr)), (a_cd, .inl (G.2 0, n_cd, .inl f_cd)), (a_hd, .inl (G.2 0, n_hd, .inl f_hd))]) [10, 11, 2, 3, 4, 5, 6] rfl
    have hDc := hD.sub (ws' := [(a_j, .inr (2, [.ref a_as, .ref a_sk])), (a_as, .inl (G.2 0, 8, .inl z5)), (a_sk, .inl (G.2 1, 50, .inr (.inl f_sk))), (a_lo, .inr (3, [.int e_cl, .ref a_hd, .ref a_sr, .ref a_cd])), (a_sr, .inl (G.2 0, n_sr, .inl f_sr)), (a_cd, .inl (G.2 0, n_cd, .inl f_cd)), (a_hd, .inl (G.2 0, n_hd, .inl f_hd))]) [10, 11, 2, 3, 4, 5, 6] (by decide) rfl
    have hFc := va_free (wc := [(a_j, .inr (2, [.ref a_as, .ref a_sk])), (a_as, .inl (G.2 0, 8, .inl z5)), (a_sk, .inl (G.2 1, 50, .inr (.inl f_sk))), (a_lo, .inr (3, [.int e_cl, .ref a_hd, .ref a_sr, .ref a_cd])), (a_sr, .inl (G.2 0, n_sr, .inl f_sr)), (a_cd, .inl (G.2 0, n_cd, .inl f_cd)), (a_hd, .inl (G.2 0, n_hd, .inl f_hd))]) hD hS hA [10, 11, 2, 3, 4, 5, 6] rfl
    refine va_calli (va_runV (As := [.ref a_lo, .int 2]) (rest := []) ⟨hx, hb, hml, hown, hts⟩ (j_isHeld l G a_j a_as a_sk a_lo a_sr a_cd a_hd H.size 2 e_cl z5 f_sk f_sr f_cd f_hd n_sr n_cd n_hd ⟨by omega, by omega⟩ (e_hn) (e_hs) (e_hk) (e_c)) (cwV 2 hts gV_X5_124 rfl rfl rfl hv_X2_isHeld ⟨Nat.le_of_ble_eq_true rfl, Nat.le_of_ble_eq_true rfl⟩) (g5_preV hPc hK hDc hN hT hS hFc (ci := 2) (q0 := 0) rfl rfl) rfl rfl hl.1 rfl (lv_room (Nat.le_of_ble_eq_true rfl)) dX5_meetGlass_144 ⟨Nat.le_of_ble_eq_true rfl, Nat.le_of_ble_eq_true rfl⟩) hS (fun q _ h => hFc q h) hFc (fun r u t H1 locs ht hvm hw hB hz1 hk1 hS => ?_)
    obtain ⟨hP1, hD1⟩ := hB
    rw [ht] at hP1
    obtain ⟨z11, z12, i_10, y13, rfl⟩ := hw
    have i_10 : 0 ≤ z11.toInt ∧ z11.toInt ≤ 1 := i_10
    obtain ⟨hP, hD⟩ := va_join (wr := [(a_g, .inr (6, [.int 6, .int 5, .ref a_gn, .int e_g])), (a_gn, .inl (G.2 0, 30, .inl f_g)), (a_h, .inr (1, [.long e_wa, .int e_le, .int e_st, .int e_fo, .int e_lc, .ref a_l, .ref a_g, .ref a_b, .ref a_s, .ref a_p, .ref a_w, .long e_gb, .ref a_bb])), (a_l, .inl (G.2 4, 6, .inr (.inr (.inr (.inr f_l))))), (a_k, .inr (5, [.ref a_h, .ref a_j, .ref a_pt, .int e_ln, .int e_se, .int e_lh, .int e_br, .int e_we, .int (e_me ||| (1 <<< (k_n &&& 31))), .int e_ce, .int e_wy, .int e_ho, .int e_ov])), (a_p, .inr (6, [.int 8, .int 5, .ref a_pn, .int e_p])), (a_pn, .inl (G.2 0, 40, .inl f_p))]) (w1 := [(a_j, .inr (2, [.ref a_as, .ref a_sk])), (a_as, .inl (G.2 0, 8, .inl z5)), (a_sk, .inl (G.2 1, 50, .inr (.inl z12))), (a_lo, .inr (3, [.int e_cl, .ref a_hd, .ref a_sr, .ref a_cd])), (a_sr, .inl (G.2 0, n_sr, .inl f_sr)), (a_cd, .inl (G.2 0, n_cd, .inl f_cd)), (a_hd, .inl (G.2 0, n_hd, .inl f_hd))]) hP hD [10, 11, 2, 3, 4, 5, 6] [0, 1, 7, 8, 9, 12, 13] rfl rfl (by decide) (by decide) hk1 hFc hP1 hD1
    generalize H1 = H at hP hS ⊢
    have hP : va_P G.1 vwCl [(a_g, .inr (6, [.int 6, .int 5, .ref a_gn, .int e_g])), (a_gn, .inl (G.2 0, 30, .inl f_g)), (a_h, .inr (1, [.long e_wa, .int e_le, .int e_st, .int e_fo, .int e_lc, .ref a_l, .ref a_g, .ref a_b, .ref a_s, .ref a_p, .ref a_w, .long e_gb, .ref a_bb])), (a_l, .inl (G.2 4, 6, .inr (.inr (.inr (.inr f_l))))), (a_k, .inr (5, [.ref a_h, .ref a_j, .ref a_pt, .int e_ln, .int e_se, .int e_lh, .int e_br, .int e_we, .int (e_me ||| (1 <<< (k_n &&& 31))), .int e_ce, .int e_wy, .int e_ho, .int e_ov])), (a_p, .inr (6, [.int 8, .int 5, .ref a_pn, .int e_p])), (a_pn, .inl (G.2 0, 40, .inl f_p)), (a_j, .inr (2, [.ref a_as, .ref a_sk])), (a_as, .inl (G.2 0, 8, .inl z5)), (a_sk, .inl (G.2 1, 50, .inr (.inl z12))), (a_lo, .inr (3, [.int e_cl, .ref a_hd, .ref a_sr, .ref a_cd])), (a_sr, .inl (G.2 0, n_sr, .inl f_sr)), (a_cd, .inl (G.2 0, n_cd, .inl f_cd)), (a_hd, .inl (G.2 0, n_hd, .inl f_hd))] H := hP
    have hD : va_D A [(a_g, .inr (6, [.int 6, .int 5, .ref a_gn, .int e_g])), (a_gn, .inl (G.2 0, 30, .inl f_g)), (a_h, .inr (1, [.long e_wa, .int e_le, .int e_st, .int e_fo, .int e_lc, .ref a_l, .ref a_g, .ref a_b, .ref a_s, .ref a_p, .ref a_w, .long e_gb, .ref a_bb])), (a_l, .inl (G.2 4, 6, .inr (.inr (.inr (.inr f_l))))), (a_k, .inr (5, [.ref a_h, .ref a_j, .ref a_pt, .int e_ln, .int e_se, .int e_lh, .int e_br, .int e_we, .int (e_me ||| (1 <<< (k_n &&& 31))), .int e_ce, .int e_wy, .int e_ho, .int e_ov])), (a_p, .inr (6, [.int 8, .int 5, .ref a_pn, .int e_p])), (a_pn, .inl (G.2 0, 40, .inl f_p)), (a_j, .inr (2, [.ref a_as, .ref a_sk])), (a_as, .inl (G.2 0, 8, .inl z5)), (a_sk, .inl (G.2 1, 50, .inr (.inl z12))), (a_lo, .inr (3, [.int e_cl, .ref a_hd, .ref a_sr, .ref a_cd])), (a_sr, .inl (G.2 0, n_sr, .inl f_sr)), (a_cd, .inl (G.2 0, n_cd, .inl f_cd)), (a_hd, .inl (G.2 0, n_hd, .inl f_hd))] := hD
    refine g5_ti (v := z11) y13 ?_
    refine lv_if_ne (tgt := 169) hx hb dX5_meetGlass_147 (by decide) (fun c_14 => ?_) (fun c_14 => ?_)
    ·
      have n_14 : gNe (z11.toInt) (0) := by have z := g5_ne (a := z11.toInt) (b := 0) (by rfl) (by decide) c_14; unfold gNe; omega
      have i_14 : z11.toInt ≥ 1 := by have z := g5_ne (a := z11.toInt) (b := 0) (by rfl) (by decide) c_14; omega
      exact kk 169 dX5_meetGlass_169 e_br e_we (e_me ||| (1 <<< (k_n &&& 31))) e_wy e_ho e_ov z5 z12 ls H locs (hP.sub [4, 2, 0, 1, 5, 6, 7, 8, 9, 3, 10, 11, 12, 13] rfl) (hD.sub [4, 2, 0, 1, 5, 6, 7, 8, 9, 3, 10, 11, 12, 13] (by decide) rfl) hS (⟨by omega, by omega⟩) (⟨by omega, by omega⟩) (⟨by omega, by omega⟩) (⟨by omega, by omega⟩)
    ·
      have i_14 : z11.toInt = 0 := by have z := g5_neN (a := z11.toInt) (b := 0) (by rfl) (by decide) c_14; omega
      refine lv_iload hx hb dX5_meetGlass_150 (lv_at hl 1 rfl) ?_
      refine lv_iconst (v := 2) hx hb dX5_meetGlass_152 (by decide) ?_
      refine lv_icmp_lt (tgt := 170) hx hb dX5_meetGlass_153 (by decide) (fun c_15 => ?_) (fun c_15 => ?_)
      ·
        have i_15 : z2.toInt < 2 := by have z := g5_lt (a := z2.toInt) (b := 2) (by rfl) (by decide) c_15; omega
        exact k_mgpL2 G a_k a_h a_g a_gn a_p a_pn a_j a_as a_sk a_l a_lo a_sr a_cd a_hd a_pt a_b a_s a_w a_bb n_sr n_cd n_hd e_ln e_se e_lh e_br e_we (e_me ||| (1 <<< (k_n &&& 31))) e_ce e_wy e_ho e_ov e_le e_st e_fo e_lc e_wa e_gb e_g f_g e_p f_p z5 z12 f_l e_cl f_sr f_cd f_hd k_r k_n z2 hx hb hml hown hts hK hN hT hA (hP.sub [4, 2, 0, 1, 5, 6, 7, 8, 9, 3, 10, 11, 12, 13] rfl) (hD.sub [4, 2, 0, 1, 5, 6, 7, 8, 9, 3, 10, 11, 12, 13] (by decide) rfl) hS (lv_sub hl [2, 3, 4, 5, 1, 0] rfl) ⟨by omega, by omega⟩ ⟨by omega, by omega⟩ ⟨by omega, by omega⟩ ⟨by omega, by omega⟩ ⟨by omega, by omega⟩ ⟨by omega, by omega⟩ ⟨by omega, by omega⟩ ⟨by omega, by omega⟩ ⟨by omega, by omega⟩ ⟨by omega, by omega⟩ (e_gk) (e_pk) (e_f) (e_a) (e_hn) (e_hs) (e_hk) (e_c) (e_r) kk
      ·
        have i_15 : z2.toInt ≥ 2 := by have z := g5_ltN (a := z2.toInt) (b := 2) (by rfl) (by decide) c_15; omega
        refine lv_iload hx hb dX5_meetGlass_156 (lv_at hl 1 rfl) ?_
        refine lv_iconst (v := 2) hx hb dX5_meetGlass_158 (by decide) ?_
        refine lv_isub hx hb dX5_meetGlass_159 ?_
        have t_16 : (z2 - 2).toInt = z2.toInt - 2 := g5_isub (a := z2.toInt) (b := 2) (by rfl) (by decide) (by omega) (by omega)
        refine lv_aload_n hx hb dX5_meetGlass_160 rfl (lv_at hl 2 rfl) ?_
        refine va_get (D := G.1) (ci := 5) (v := .int e_wy) (C := RX5) (T := TX5) (N := 13) hx hb hts inG_X5 hown hK hP 4 rfl rfl 10 (by decide) (hts _ fl_X5_30) (fun _ h9 => h9) rfl dX5_meetGlass_161 ?_
        refine lv_iconst (v := 2) hx hb dX5_meetGlass_164 (by decide) ?_
        refine lv_ixor hx hb dX5_meetGlass_165 ?_
        have hx_17 := (g_xor (w := e_wy) (by omega) (by omega)).2
        refine lv_icmp_eq (tgt := 170) hx hb dX5_meetGlass_166 (by decide) (fun c_18 => ?_) (fun c_18 => ?_)
        ·
          have i_18 : (z2.toInt - 2) = (e_wy ^^^ 2).toInt := by have z := g5_eq (a := (z2 - 2).toInt) (b := (e_wy ^^^ 2).toInt) (by rfl) (by rfl) c_18; omega
          exact k_mgpL2 G a_k a_h a_g a_gn a_p a_pn a_j a_as a_sk a_l a_lo a_sr a_cd a_hd a_pt a_b a_s a_w a_bb n_sr n_cd n_hd e_ln e_se e_lh e_br e_we (e_me ||| (1 <<< (k_n &&& 31))) e_ce e_wy e_ho e_ov e_le e_st e_fo e_lc e_wa e_gb e_g f_g e_p f_p z5 z12 f_l e_cl f_sr f_cd f_hd k_r k_n z2 hx hb hml hown hts hK hN hT hA (hP.sub [4, 2, 0, 1, 5, 6, 7, 8, 9, 3, 10, 11, 12, 13] rfl) (hD.sub [4, 2, 0, 1, 5, 6, 7, 8, 9, 3, 10, 11, 12, 13] (by decide) rfl) hS (lv_sub hl [2, 3, 4, 5, 1, 0] rfl) ⟨by omega, by omega⟩ ⟨by omega, by omega⟩ ⟨by omega, by omega⟩ ⟨by omega, by omega⟩ ⟨by omega, by omega⟩ ⟨by omega, by omega⟩ ⟨by omega, by omega⟩ ⟨by omega, by omega⟩ ⟨by omega, by omega⟩ ⟨by omega, by omega⟩ (e_gk) (e_pk) (e_f) (e_a) (e_hn) (e_hs) (e_hk) (e_c) (e_r) kk
        ·
          have n_18 : gNe ((z2.toInt - 2)) ((e_wy ^^^ 2).toInt) := by have z := g5_eqN (a := (z2 - 2).toInt) (b := (e_wy ^^^ 2).toInt) (by rfl) (by rfl) c_18; unfold gNe; omega
          exact kk 169 dX5_meetGlass_169 e_br e_we (e_me ||| (1 <<< (k_n &&& 31))) e_wy e_ho e_ov z5 z12 ls H locs (hP.sub [4, 2, 0, 1, 5, 6, 7, 8, 9, 3, 10, 11, 12, 13] rfl) (hD.sub [4, 2, 0, 1, 5, 6, 7, 8, 9, 3, 10, 11, 12, 13] (by decide) rfl) hS (⟨by omega, by omega⟩) (⟨by omega, by omega⟩) (⟨by omega, by omega⟩) (⟨by omega, by omega⟩)
set_option maxHeartbeats 4000000 in
set_option maxRecDepth 100000 in
theorem k_meetGlassL (l : Launch) (G : g5_G) (a_k a_h a_g a_gn a_p a_pn a_j a_as a_sk a_l a_lo a_sr a_cd a_hd a_pt a_b a_s a_w a_bb : Nat) (sz : Nat) (e_ln : Int32) (e_se : Int32) (e_lh : Int32) (e_br : Int32) (e_we : Int32) (e_me : Int32) (e_ce : Int32) (e_wy : Int32) (e_ho : Int32) (e_ov : Int32) (e_le : Int32) (e_st : Int32) (e_fo : Int32) (e_lc : Int32) (e_g : Int32) (e_p : Int32) (e_cl : Int32) (e_wa : Int64) (e_gb : Int64) (f_g : Nat → Int32) (f_p : Nat → Int32) (f_as : Nat → Int32) (f_sk : Nat → Int64) (f_l : Nat → Option Nat) (f_sr : Nat → Int32) (f_cd : Nat → Int32) (f_hd : Nat → Int32) (n_sr : Nat) (n_cd : Nat) (n_hd : Nat) (h_e_br : 0 ≤ e_br.toInt ∧ e_br.toInt ≤ 1000000) (h_e_ce : 0 ≤ e_ce.toInt ∧ e_ce.toInt ≤ 63) (h_e_wy : 0 ≤ e_wy.toInt ∧ e_wy.toInt ≤ 3) (h_e_ho : 0 ≤ e_ho.toInt ∧ e_ho.toInt ≤ 23) (h_e_ov : 0 ≤ e_ov.toInt ∧ e_ov.toInt ≤ 1) (h_e_g : 0 ≤ e_g.toInt ∧ e_g.toInt ≤ 6) (h_e_p : 0 ≤ e_p.toInt ∧ e_p.toInt ≤ 8) (h_e_cl : 0 ≤ e_cl.toInt ∧ e_cl.toInt ≤ 12) (e_gk : gOK f_g e_g.toInt) (e_pk : gOK f_p e_p.toInt) (e_in : inR f_g e_g.toInt e_ce.toInt ∨ inR f_p e_p.toInt e_ce.toInt) (e_f : 0 ≤ e_fo.toInt ∧ e_fo.toInt < e_lc.toInt ∧ e_lc.toInt ≤ 6) (e_a : f_l e_fo.toNatClampNeg = some a_lo) (e_hn : n_cd ≤ 400) (e_hs : ∀ j : Nat, j < n_sr → 0 ≤ (f_sr j).toInt ∧ (f_sr j).toInt ≤ (n_cd : Int)) (e_hk : ∀ j : Nat, j < n_cd → (f_cd j >>> (12 &&& 31)).toInt = 1 → (f_cd j &&& 4095).toInt < 8) (e_c : (e_cl.toInt : Int) ≤ (n_hd : Int) ∧ (e_cl.toInt + 1 : Int) ≤ (n_sr : Int)) : Met l yX5_meetGlass (wsG yX5_meetGlass cX5_meetGlass 9 none) ({ frames := 12, cells := 0, slots := 0, locals := 500 }) (va_Pc [.ref a_k] (g5_P G [(a_k, .inr (5, [.ref a_h, .ref a_j, .ref a_pt, .int e_ln, .int e_se, .int e_lh, .int e_br, .int e_we, .int e_me, .int e_ce, .int e_wy, .int e_ho, .int e_ov])), (a_h, .inr (1, [.long e_wa, .int e_le, .int e_st, .int e_fo, .int e_lc, .ref a_l, .ref a_g, .ref a_b, .ref a_s, .ref a_p, .ref a_w, .long e_gb, .ref a_bb])), (a_g, .inr (6, [.int 6, .int 5, .ref a_gn, .int e_g])), (a_gn, .inl (G.2 0, 30, .inl f_g)), (a_p, .inr (6, [.int 8, .int 5, .ref a_pn, .int e_p])), (a_pn, .inl (G.2 0, 40, .inl f_p)), (a_j, .inr (2, [.ref a_as, .ref a_sk])), (a_as, .inl (G.2 0, 8, .inl f_as)), (a_sk, .inl (G.2 1, 50, .inr (.inl f_sk))), (a_l, .inl (G.2 4, 6, .inr (.inr (.inr (.inr f_l))))), (a_lo, .inr (3, [.int e_cl, .ref a_hd, .ref a_sr, .ref a_cd])), (a_sr, .inl (G.2 0, n_sr, .inl f_sr)), (a_cd, .inl (G.2 0, n_cd, .inl f_cd)), (a_hd, .inl (G.2 0, n_hd, .inl f_hd))] sz)) (va_Qv (fun (u : va_W) => (∃ (o_b : Int32) (o_w : Int32) (o_m : Int32) (o_y : Int32) (o_h : Int32) (o_v : Int32) (o_a : Nat → Int32) (o_k : Nat → Int64), (0 ≤ o_b.toInt ∧ o_b.toInt ≤ 1000000) ∧ (0 ≤ o_y.toInt ∧ o_y.toInt ≤ 3) ∧ (0 ≤ o_h.toInt ∧ o_h.toInt ≤ 23) ∧ (0 ≤ o_v.toInt ∧ o_v.toInt ≤ 1) ∧ (u = [(a_k, .inr (5, [.ref a_h, .ref a_j, .ref a_pt, .int e_ln, .int e_se, .int e_lh, .int o_b, .int o_w, .int o_m, .int e_ce, .int o_y, .int o_h, .int o_v])), (a_h, .inr (1, [.long e_wa, .int e_le, .int e_st, .int e_fo, .int e_lc, .ref a_l, .ref a_g, .ref a_b, .ref a_s, .ref a_p, .ref a_w, .long e_gb, .ref a_bb])), (a_g, .inr (6, [.int 6, .int 5, .ref a_gn, .int e_g])), (a_gn, .inl (G.2 0, 30, .inl f_g)), (a_p, .inr (6, [.int 8, .int 5, .ref a_pn, .int e_p])), (a_pn, .inl (G.2 0, 40, .inl f_p)), (a_j, .inr (2, [.ref a_as, .ref a_sk])), (a_as, .inl (G.2 0, 8, .inl o_a)), (a_sk, .inl (G.2 1, 50, .inr (.inl o_k))), (a_l, .inl (G.2 4, 6, .inr (.inr (.inr (.inr f_l))))), (a_lo, .inr (3, [.int e_cl, .ref a_hd, .ref a_sr, .ref a_cd])), (a_sr, .inl (G.2 0, n_sr, .inl f_sr)), (a_cd, .inl (G.2 0, n_cd, .inl f_cd)), (a_hd, .inl (G.2 0, n_hd, .inl f_hd))]))) (g5_B G (va_A [(a_k, .inr (5, [.ref a_h, .ref a_j, .ref a_pt, .int e_ln, .int e_se, .int e_lh, .int e_br, .int e_we, .int e_me, .int e_ce, .int e_wy, .int e_ho, .int e_ov])), (a_h, .inr (1, [.long e_wa, .int e_le, .int e_st, .int e_fo, .int e_lc, .ref a_l, .ref a_g, .ref a_b, .ref a_s, .ref a_p, .ref a_w, .long e_gb, .ref a_bb])), (a_g, .inr (6, [.int 6, .int 5, .ref a_gn, .int e_g])), (a_gn, .inl (G.2 0, 30, .inl f_g)), (a_p, .inr (6, [.int 8, .int 5, .ref a_pn, .int e_p])), (a_pn, .inl (G.2 0, 40, .inl f_p)), (a_j, .inr (2, [.ref a_as, .ref a_sk])), (a_as, .inl (G.2 0, 8, .inl f_as)), (a_sk, .inl (G.2 1, 50, .inr (.inl f_sk))), (a_l, .inl (G.2 4, 6, .inr (.inr (.inr (.inr f_l))))), (a_lo, .inr (3, [.int e_cl, .ref a_hd, .ref a_sr, .ref a_cd])), (a_sr, .inl (G.2 0, n_sr, .inl f_sr)), (a_cd, .inl (G.2 0, n_cd, .inl f_cd)), (a_hd, .inl (G.2 0, n_hd, .inl f_hd))] sz)) (va_A [(a_k, .inr (5, [.ref a_h, .ref a_j, .ref a_pt, .int e_ln, .int e_se, .int e_lh, .int e_br, .int e_we, .int e_me, .int e_ce, .int e_wy, .int e_ho, .int e_ov])), (a_h, .inr (1, [.long e_wa, .int e_le, .int e_st, .int e_fo, .int e_lc, .ref a_l, .ref a_g, .ref a_b, .ref a_s, .ref a_p, .ref a_w, .long e_gb, .ref a_bb])), (a_g, .inr (6, [.int 6, .int 5, .ref a_gn, .int e_g])), (a_gn, .inl (G.2 0, 30, .inl f_g)), (a_p, .inr (6, [.int 8, .int 5, .ref a_pn, .int e_p])), (a_pn, .inl (G.2 0, 40, .inl f_p)), (a_j, .inr (2, [.ref a_as, .ref a_sk])), (a_as, .inl (G.2 0, 8, .inl f_as)), (a_sk, .inl (G.2 1, 50, .inr (.inl f_sk))), (a_l, .inl (G.2 4, 6, .inr (.inr (.inr (.inr f_l))))), (a_lo, .inr (3, [.int e_cl, .ref a_hd, .ref a_sr, .ref a_cd])), (a_sr, .inl (G.2 0, n_sr, .inl f_sr)), (a_cd, .inl (G.2 0, n_cd, .inl f_cd)), (a_hd, .inl (G.2 0, n_hd, .inl f_hd))] sz)) 0 0 (va_A [(a_k, .inr (5, [.ref a_h, .ref a_j, .ref a_pt, .int e_ln, .int e_se, .int e_lh, .int e_br, .int e_we, .int e_me, .int e_ce, .int e_wy, .int e_ho, .int e_ov])), (a_h, .inr (1, [.long e_wa, .int e_le, .int e_st, .int e_fo, .int e_lc, .ref a_l, .ref a_g, .ref a_b, .ref a_s, .ref a_p, .ref a_w, .long e_gb, .ref a_bb])), (a_g, .inr (6, [.int 6, .int 5, .ref a_gn, .int e_g])), (a_gn, .inl (G.2 0, 30, .inl f_g)), (a_p, .inr (6, [.int 8, .int 5, .ref a_pn, .int e_p])), (a_pn, .inl (G.2 0, 40, .inl f_p)), (a_j, .inr (2, [.ref a_as, .ref a_sk])), (a_as, .inl (G.2 0, 8, .inl f_as)), (a_sk, .inl (G.2 1, 50, .inr (.inl f_sk))), (a_l, .inl (G.2 4, 6, .inr (.inr (.inr (.inr f_l))))), (a_lo, .inr (3, [.int e_cl, .ref a_hd, .ref a_sr, .ref a_cd])), (a_sr, .inl (G.2 0, n_sr, .inl f_sr)), (a_cd, .inl (G.2 0, n_cd, .inl f_cd)), (a_hd, .inl (G.2 0, n_hd, .inl f_hd))] sz) := by
  refine Met.ofW (cc := cX5_meetGlass) (maxL := 9) (ret := none) (by decide) rfl ?_
  intro p e s m args below meth c s₁ B hml hv
  obtain ⟨rfl, hsz, hP, hK, hD0, hN, hT⟩ := hv
  have hx := B.exec
  have hb := B.bytes
  have hr := B.returns
  have hts : ∀ w ∈ tblG, w.before _ s = true := fun w h => atoms_spec (ws := (wsG yX5_meetGlass cX5_meetGlass 9 none)) B.pre w (List.mem_cons_of_mem _ h)
  have hown : s.vm.findClass RX5 = some m.cls := findClass_of_methodNamed B.named
  have hlocks := B.notSynchronized
  subst hsz
  have hD := hD0.self (sz := s.heap.size)
  generalize hAe : va_A [(a_k, .inr (5, [.ref a_h, .ref a_j, .ref a_pt, .int e_ln, .int e_se, .int e_lh, .int e_br, .int e_we, .int e_me, .int e_ce, .int e_wy, .int e_ho, .int e_ov])), (a_h, .inr (1, [.long e_wa, .int e_le, .int e_st, .int e_fo, .int e_lc, .ref a_l, .ref a_g, .ref a_b, .ref a_s, .ref a_p, .ref a_w, .long e_gb, .ref a_bb])), (a_g, .inr (6, [.int 6, .int 5, .ref a_gn, .int e_g])), (a_gn, .inl (G.2 0, 30, .inl f_g)), (a_p, .inr (6, [.int 8, .int 5, .ref a_pn, .int e_p])), (a_pn, .inl (G.2 0, 40, .inl f_p)), (a_j, .inr (2, [.ref a_as, .ref a_sk])), (a_as, .inl (G.2 0, 8, .inl f_as)), (a_sk, .inl (G.2 1, 50, .inr (.inl f_sk))), (a_l, .inl (G.2 4, 6, .inr (.inr (.inr (.inr f_l))))), (a_lo, .inr (3, [.int e_cl, .ref a_hd, .ref a_sr, .ref a_cd])), (a_sr, .inl (G.2 0, n_sr, .inl f_sr)), (a_cd, .inl (G.2 0, n_cd, .inl f_cd)), (a_hd, .inl (G.2 0, n_hd, .inl f_hd))] s.heap.size = A at hD hT ⊢
  have hA : ∀ q : Nat, s.heap.size ≤ q → A q := fun q h => by rw [← hAe]; exact Or.inr h
  have hS : va_S A s.heap s.heap [] := va_S.rf
  have hP : va_P G.1 vwCl [(a_k, .inr (5, [.ref a_h, .ref a_j, .ref a_pt, .int e_ln, .int e_se, .int e_lh, .int e_br, .int e_we, .int e_me, .int e_ce, .int e_wy, .int e_ho, .int e_ov])), (a_h, .inr (1, [.long e_wa, .int e_le, .int e_st, .int e_fo, .int e_lc, .ref a_l, .ref a_g, .ref a_b, .ref a_s, .ref a_p, .ref a_w, .long e_gb, .ref a_bb])), (a_g, .inr (6, [.int 6, .int 5, .ref a_gn, .int e_g])), (a_gn, .inl (G.2 0, 30, .inl f_g)), (a_p, .inr (6, [.int 8, .int 5, .ref a_pn, .int e_p])), (a_pn, .inl (G.2 0, 40, .inl f_p)), (a_j, .inr (2, [.ref a_as, .ref a_sk])), (a_as, .inl (G.2 0, 8, .inl f_as)), (a_sk, .inl (G.2 1, 50, .inr (.inl f_sk))), (a_l, .inl (G.2 4, 6, .inr (.inr (.inr (.inr f_l))))), (a_lo, .inr (3, [.int e_cl, .ref a_hd, .ref a_sr, .ref a_cd])), (a_sr, .inl (G.2 0, n_sr, .inl f_sr)), (a_cd, .inl (G.2 0, n_cd, .inl f_cd)), (a_hd, .inl (G.2 0, n_hd, .inl f_hd))] s.heap := hP
  have hl := lv_entry ([.ref a_k]) (n := 9) (Nat.le_of_ble_eq_true rfl)
  rw [lg_entry_eq]
  generalize (lg_sl ([.ref a_k]) ++ List.replicate (9 - (lg_sl ([.ref a_k])).length) Slot.unset).toArray = ls at hl ⊢
  have hl : lv_has ls 9 [(0, .ref a_k)] := hl
  refine lv_aload_n hx hb dX5_meetGlass_0 rfl (lv_at hl 0 rfl) ?_
  refine lv_iconst (v := 1) hx hb dX5_meetGlass_1 (by decide) ?_
  refine va_put (D := G.1) (ci := 5) (v := .int 1) (ty := .boolean) (C := RX5) (T := TX5) (N := 13) hx hb hts inG_X5 tyX5 tyX5_ok nmX5 hown hK hP hD hS 0 rfl rfl 12 (by decide) (hts _ fl_X5_56) (fun _ h9 => h9) rfl (by decide +kernel) rfl rfl (Nat.le_of_ble_eq_true rfl) dX5_meetGlass_2 (fun H locs hP hD hS => ?_)
  have hP : va_P G.1 vwCl [(a_k, .inr (5, [.ref a_h, .ref a_j, .ref a_pt, .int e_ln, .int e_se, .int e_lh, .int e_br, .int e_we, .int e_me, .int e_ce, .int e_wy, .int e_ho, .int 1])), (a_h, .inr (1, [.long e_wa, .int e_le, .int e_st, .int e_fo, .int e_lc, .ref a_l, .ref a_g, .ref a_b, .ref a_s, .ref a_p, .ref a_w, .long e_gb, .ref a_bb])), (a_g, .inr (6, [.int 6, .int 5, .ref a_gn, .int e_g])), (a_gn, .inl (G.2 0, 30, .inl f_g)), (a_p, .inr (6, [.int 8, .int 5, .ref a_pn, .int e_p])), (a_pn, .inl (G.2 0, 40, .inl f_p)), (a_j, .inr (2, [.ref a_as, .ref a_sk])), (a_as, .inl (G.2 0, 8, .inl f_as)), (a_sk, .inl (G.2 1, 50, .inr (.inl f_sk))), (a_l, .inl (G.2 4, 6, .inr (.inr (.inr (.inr f_l))))), (a_lo, .inr (3, [.int e_cl, .ref a_hd, .ref a_sr, .ref a_cd])), (a_sr, .inl (G.2 0, n_sr, .inl f_sr)), (a_cd, .inl (G.2 0, n_cd, .inl f_cd)), (a_hd, .inl (G.2 0, n_hd, .inl f_hd))] H := hP
  have hD : va_D A [(a_k, .inr (5, [.ref a_h, .ref a_j, .ref a_pt, .int e_ln, .int e_se, .int e_lh, .int e_br, .int e_we, .int e_me, .int e_ce, .int e_wy, .int e_ho, .int 1])), (a_h, .inr (1, [.long e_wa, .int e_le, .int e_st, .int e_fo, .int e_lc, .ref a_l, .ref a_g, .ref a_b, .ref a_s, .ref a_p, .ref a_w, .long e_gb, .ref a_bb])), (a_g, .inr (6, [.int 6, .int 5, .ref a_gn, .int e_g])), (a_gn, .inl (G.2 0, 30, .inl f_g)), (a_p, .inr (6, [.int 8, .int 5, .ref a_pn, .int e_p])), (a_pn, .inl (G.2 0, 40, .inl f_p)), (a_j, .inr (2, [.ref a_as, .ref a_sk])), (a_as, .inl (G.2 0, 8, .inl f_as)), (a_sk, .inl (G.2 1, 50, .inr (.inl f_sk))), (a_l, .inl (G.2 4, 6, .inr (.inr (.inr (.inr f_l))))), (a_lo, .inr (3, [.int e_cl, .ref a_hd, .ref a_sr, .ref a_cd])), (a_sr, .inl (G.2 0, n_sr, .inl f_sr)), (a_cd, .inl (G.2 0, n_cd, .inl f_cd)), (a_hd, .inl (G.2 0, n_hd, .inl f_hd))] := hD
  refine lv_aload_n hx hb dX5_meetGlass_5 rfl (lv_at hl 0 rfl) ?_
  refine va_get (D := G.1) (ci := 5) (v := .ref a_h) (C := RX5) (T := TX5) (N := 13) hx hb hts inG_X5 hown hK hP 0 rfl rfl 0 (by decide) (hts _ fl_X5_22) (fun _ h9 => h9) rfl dX5_meetGlass_6 ?_
  refine va_get (D := G.1) (ci := 1) (v := .ref a_g) (C := RX1) (T := TX1) (N := 13) hx hb hts inG_X1 hown hK hP 1 rfl rfl 6 (by decide) (hts _ fl_X5_128) (fun _ h9 => h9) rfl dX5_meetGlass_9 ?_
  refine lv_iconst (v := 0) hx hb dX5_meetGlass_12 (by decide) ?_
  refine lv_aload_n hx hb dX5_meetGlass_13 rfl (lv_at hl 0 rfl) ?_
  refine va_get (D := G.1) (ci := 5) (v := .int e_ce) (C := RX5) (T := TX5) (N := 13) hx hb hts inG_X5 hown hK hP 0 rfl rfl 9 (by decide) (hts _ fl_X5_26) (fun _ h9 => h9) rfl dX5_meetGlass_14 ?_
  have hPc := hP.sub (ws' := [(a_g, .inr (6, [.int 6, .int 5, .ref a_gn, .int e_g])), (a_gn, .inl (G.2 0, 30, .inl f_g))]) [2, 3] rfl
  have hDc := hD.sub (ws' := [(a_g, .inr (6, [.int 6, .int 5, .ref a_gn, .int e_g])), (a_gn, .inl (G.2 0, 30, .inl f_g))]) [2, 3] (by decide) rfl
  have hFc := va_free (wc := [(a_g, .inr (6, [.int 6, .int 5, .ref a_gn, .int e_g])), (a_gn, .inl (G.2 0, 30, .inl f_g))]) hD hS hA [2, 3] rfl
  refine va_calli (va_runV (As := [.int 0, .int e_ce]) (rest := []) ⟨hx, hb, hml, hown, hts⟩ (t_find_G l G a_g a_gn H.size e_g 0 e_ce f_g ⟨by omega, by omega⟩) (cwV 2 hts gV_X5_131 rfl rfl rfl hv_X6_find ⟨Nat.le_of_ble_eq_true rfl, Nat.le_of_ble_eq_true rfl⟩) (g5_preV hPc hK hDc hN hT hS hFc (ci := 6) (q0 := 0) rfl rfl) rfl rfl hl.1 rfl (lv_room (Nat.le_of_ble_eq_true rfl)) dX5_meetGlass_17 ⟨Nat.le_of_ble_eq_true rfl, Nat.le_of_ble_eq_true rfl⟩) hS (fun q _ h => hFc q h) hFc (fun r u t H1 locs ht hvm hw hB hz1 hk1 hS => ?_)
  obtain ⟨hP1, hD1⟩ := hB
  rw [ht] at hP1
  rcases hw with ⟨i_1, rfl, rfl⟩ | ⟨z4, i_2, i_3, y5, rfl⟩
  ·
    have i_1 : ∀ r : Int, 0 ≤ r → r < e_g.toInt → tget f_g e_g.toInt 5 r (0 : Int32).toInt ≠ e_ce := i_1
    obtain ⟨hP, hD⟩ := va_join (wr := [(a_k, .inr (5, [.ref a_h, .ref a_j, .ref a_pt, .int e_ln, .int e_se, .int e_lh, .int e_br, .int e_we, .int e_me, .int e_ce, .int e_wy, .int e_ho, .int 1])), (a_h, .inr (1, [.long e_wa, .int e_le, .int e_st, .int e_fo, .int e_lc, .ref a_l, .ref a_g, .ref a_b, .ref a_s, .ref a_p, .ref a_w, .long e_gb, .ref a_bb])), (a_p, .inr (6, [.int 8, .int 5, .ref a_pn, .int e_p])), (a_pn, .inl (G.2 0, 40, .inl f_p)), (a_j, .inr (2, [.ref a_as, .ref a_sk])), (a_as, .inl (G.2 0, 8, .inl f_as)), (a_sk, .inl (G.2 1, 50, .inr (.inl f_sk))), (a_l, .inl (G.2 4, 6, .inr (.inr (.inr (.inr f_l))))), (a_lo, .inr (3, [.int e_cl, .ref a_hd, .ref a_sr, .ref a_cd])), (a_sr, .inl (G.2 0, n_sr, .inl f_sr)), (a_cd, .inl (G.2 0, n_cd, .inl f_cd)), (a_hd, .inl (G.2 0, n_hd, .inl f_hd))]) (w1 := [(a_g, .inr (6, [.int 6, .int 5, .ref a_gn, .int e_g])), (a_gn, .inl (G.2 0, 30, .inl f_g))]) hP hD [2, 3] [0, 1, 4, 5, 6, 7, 8, 9, 10, 11, 12, 13] rfl rfl (by decide) (by decide) hk1 hFc hP1 hD1
    generalize H1 = H at hP hS ⊢
    have hP : va_P G.1 vwCl [(a_k, .inr (5, [.ref a_h, .ref a_j, .ref a_pt, .int e_ln, .int e_se, .int e_lh, .int e_br, .int e_we, .int e_me, .int e_ce, .int e_wy, .int e_ho, .int 1])), (a_h, .inr (1, [.long e_wa, .int e_le, .int e_st, .int e_fo, .int e_lc, .ref a_l, .ref a_g, .ref a_b, .ref a_s, .ref a_p, .ref a_w, .long e_gb, .ref a_bb])), (a_p, .inr (6, [.int 8, .int 5, .ref a_pn, .int e_p])), (a_pn, .inl (G.2 0, 40, .inl f_p)), (a_j, .inr (2, [.ref a_as, .ref a_sk])), (a_as, .inl (G.2 0, 8, .inl f_as)), (a_sk, .inl (G.2 1, 50, .inr (.inl f_sk))), (a_l, .inl (G.2 4, 6, .inr (.inr (.inr (.inr f_l))))), (a_lo, .inr (3, [.int e_cl, .ref a_hd, .ref a_sr, .ref a_cd])), (a_sr, .inl (G.2 0, n_sr, .inl f_sr)), (a_cd, .inl (G.2 0, n_cd, .inl f_cd)), (a_hd, .inl (G.2 0, n_hd, .inl f_hd)), (a_g, .inr (6, [.int 6, .int 5, .ref a_gn, .int e_g])), (a_gn, .inl (G.2 0, 30, .inl f_g))] H := hP
    have hD : va_D A [(a_k, .inr (5, [.ref a_h, .ref a_j, .ref a_pt, .int e_ln, .int e_se, .int e_lh, .int e_br, .int e_we, .int e_me, .int e_ce, .int e_wy, .int e_ho, .int 1])), (a_h, .inr (1, [.long e_wa, .int e_le, .int e_st, .int e_fo, .int e_lc, .ref a_l, .ref a_g, .ref a_b, .ref a_s, .ref a_p, .ref a_w, .long e_gb, .ref a_bb])), (a_p, .inr (6, [.int 8, .int 5, .ref a_pn, .int e_p])), (a_pn, .inl (G.2 0, 40, .inl f_p)), (a_j, .inr (2, [.ref a_as, .ref a_sk])), (a_as, .inl (G.2 0, 8, .inl f_as)), (a_sk, .inl (G.2 1, 50, .inr (.inl f_sk))), (a_l, .inl (G.2 4, 6, .inr (.inr (.inr (.inr f_l))))), (a_lo, .inr (3, [.int e_cl, .ref a_hd, .ref a_sr, .ref a_cd])), (a_sr, .inl (G.2 0, n_sr, .inl f_sr)), (a_cd, .inl (G.2 0, n_cd, .inl f_cd)), (a_hd, .inl (G.2 0, n_hd, .inl f_hd)), (a_g, .inr (6, [.int 6, .int 5, .ref a_gn, .int e_g])), (a_gn, .inl (G.2 0, 30, .inl f_g))] := hD
    refine lv_istore_n (lv' := [(1, .int (-1)), (0, .ref a_k)]) hx hb dX5_meetGlass_20 rfl hl (by decide) rfl (fun ls hl => ?_)
    refine lv_iload_n hx hb dX5_meetGlass_21 rfl (lv_at hl 0 rfl) ?_
    refine lv_iconst (v := (-1)) hx hb dX5_meetGlass_22 (by decide) ?_
    refine lv_icmp_ne (tgt := 36) hx hb dX5_meetGlass_23 (by decide) (fun c_6 => ?_) (fun c_6 => ?_)
    ·
      exact absurd c_6 (by decide)
    ·
      refine lv_aload_n hx hb dX5_meetGlass_26 rfl (lv_at hl 1 rfl) ?_
      refine va_get (D := G.1) (ci := 5) (v := .ref a_h) (C := RX5) (T := TX5) (N := 13) hx hb hts inG_X5 hown hK hP 0 rfl rfl 0 (by decide) (hts _ fl_X5_22) (fun _ h9 => h9) rfl dX5_meetGlass_27 ?_
      refine va_get (D := G.1) (ci := 1) (v := .ref a_p) (C := RX1) (T := TX1) (N := 13) hx hb hts inG_X1 hown hK hP 1 rfl rfl 9 (by decide) (hts _ fl_X5_98) (fun _ h9 => h9) rfl dX5_meetGlass_30 ?_
      refine lv_goto (tgt := 43) hx hb dX5_meetGlass_33 (by decide) ?_
      refine lv_astore_n (lv' := [(2, .ref a_p), (1, .int (-1)), (0, .ref a_k)]) hx hb dX5_meetGlass_43 rfl hl (by decide) rfl (fun ls hl => ?_)
      refine lv_iload_n hx hb dX5_meetGlass_44 rfl (lv_at hl 1 rfl) ?_
      refine lv_iconst (v := (-1)) hx hb dX5_meetGlass_45 (by decide) ?_
      refine lv_icmp_ne (tgt := 67) hx hb dX5_meetGlass_46 (by decide) (fun c_7 => ?_) (fun c_7 => ?_)
      ·
        exact absurd c_7 (by decide)
      ·
        refine lv_aload_n hx hb dX5_meetGlass_49 rfl (lv_at hl 2 rfl) ?_
        refine va_get (D := G.1) (ci := 5) (v := .ref a_h) (C := RX5) (T := TX5) (N := 13) hx hb hts inG_X5 hown hK hP 0 rfl rfl 0 (by decide) (hts _ fl_X5_22) (fun _ h9 => h9) rfl dX5_meetGlass_50 ?_
        refine va_get (D := G.1) (ci := 1) (v := .ref a_p) (C := RX1) (T := TX1) (N := 13) hx hb hts inG_X1 hown hK hP 1 rfl rfl 9 (by decide) (hts _ fl_X5_98) (fun _ h9 => h9) rfl dX5_meetGlass_53 ?_
        refine lv_iconst (v := 0) hx hb dX5_meetGlass_56 (by decide) ?_
        refine lv_aload_n hx hb dX5_meetGlass_57 rfl (lv_at hl 2 rfl) ?_
        refine va_get (D := G.1) (ci := 5) (v := .int e_ce) (C := RX5) (T := TX5) (N := 13) hx hb hts inG_X5 hown hK hP 0 rfl rfl 9 (by decide) (hts _ fl_X5_26) (fun _ h9 => h9) rfl dX5_meetGlass_58 ?_
        have hPc := hP.sub (ws' := [(a_p, .inr (6, [.int 8, .int 5, .ref a_pn, .int e_p])), (a_pn, .inl (G.2 0, 40, .inl f_p))]) [2, 3] rfl
        have hDc := hD.sub (ws' := [(a_p, .inr (6, [.int 8, .int 5, .ref a_pn, .int e_p])), (a_pn, .inl (G.2 0, 40, .inl f_p))]) [2, 3] (by decide) rfl
        have hFc := va_free (wc := [(a_p, .inr (6, [.int 8, .int 5, .ref a_pn, .int e_p])), (a_pn, .inl (G.2 0, 40, .inl f_p))]) hD hS hA [2, 3] rfl
        refine va_calli (va_runV (As := [.int 0, .int e_ce]) (rest := []) ⟨hx, hb, hml, hown, hts⟩ (t_find_P l G a_p a_pn H.size e_p 0 e_ce f_p ⟨by omega, by omega⟩) (cwV 2 hts gV_X5_131 rfl rfl rfl hv_X6_find ⟨Nat.le_of_ble_eq_true rfl, Nat.le_of_ble_eq_true rfl⟩) (g5_preV hPc hK hDc hN hT hS hFc (ci := 6) (q0 := 0) rfl rfl) rfl rfl hl.1 rfl (lv_room (Nat.le_of_ble_eq_true rfl)) dX5_meetGlass_61 ⟨Nat.le_of_ble_eq_true rfl, Nat.le_of_ble_eq_true rfl⟩) hS (fun q _ h => hFc q h) hFc (fun r u t H1 locs ht hvm hw hB hz1 hk1 hS => ?_)
        obtain ⟨hP1, hD1⟩ := hB
        rw [ht] at hP1
        rcases hw with ⟨i_8, rfl, rfl⟩ | ⟨z11, i_9, i_10, y12, rfl⟩
        ·
          have i_8 : ∀ r : Int, 0 ≤ r → r < e_p.toInt → tget f_p e_p.toInt 5 r (0 : Int32).toInt ≠ e_ce := i_8
          obtain ⟨hP, hD⟩ := va_join (wr := [(a_k, .inr (5, [.ref a_h, .ref a_j, .ref a_pt, .int e_ln, .int e_se, .int e_lh, .int e_br, .int e_we, .int e_me, .int e_ce, .int e_wy, .int e_ho, .int 1])), (a_h, .inr (1, [.long e_wa, .int e_le, .int e_st, .int e_fo, .int e_lc, .ref a_l, .ref a_g, .ref a_b, .ref a_s, .ref a_p, .ref a_w, .long e_gb, .ref a_bb])), (a_j, .inr (2, [.ref a_as, .ref a_sk])), (a_as, .inl (G.2 0, 8, .inl f_as)), (a_sk, .inl (G.2 1, 50, .inr (.inl f_sk))), (a_l, .inl (G.2 4, 6, .inr (.inr (.inr (.inr f_l))))), (a_lo, .inr (3, [.int e_cl, .ref a_hd, .ref a_sr, .ref a_cd])), (a_sr, .inl (G.2 0, n_sr, .inl f_sr)), (a_cd, .inl (G.2 0, n_cd, .inl f_cd)), (a_hd, .inl (G.2 0, n_hd, .inl f_hd)), (a_g, .inr (6, [.int 6, .int 5, .ref a_gn, .int e_g])), (a_gn, .inl (G.2 0, 30, .inl f_g))]) (w1 := [(a_p, .inr (6, [.int 8, .int 5, .ref a_pn, .int e_p])), (a_pn, .inl (G.2 0, 40, .inl f_p))]) hP hD [2, 3] [0, 1, 4, 5, 6, 7, 8, 9, 10, 11, 12, 13] rfl rfl (by decide) (by decide) hk1 hFc hP1 hD1
          generalize H1 = H at hP hS ⊢
          have hP : va_P G.1 vwCl [(a_k, .inr (5, [.ref a_h, .ref a_j, .ref a_pt, .int e_ln, .int e_se, .int e_lh, .int e_br, .int e_we, .int e_me, .int e_ce, .int e_wy, .int e_ho, .int 1])), (a_h, .inr (1, [.long e_wa, .int e_le, .int e_st, .int e_fo, .int e_lc, .ref a_l, .ref a_g, .ref a_b, .ref a_s, .ref a_p, .ref a_w, .long e_gb, .ref a_bb])), (a_j, .inr (2, [.ref a_as, .ref a_sk])), (a_as, .inl (G.2 0, 8, .inl f_as)), (a_sk, .inl (G.2 1, 50, .inr (.inl f_sk))), (a_l, .inl (G.2 4, 6, .inr (.inr (.inr (.inr f_l))))), (a_lo, .inr (3, [.int e_cl, .ref a_hd, .ref a_sr, .ref a_cd])), (a_sr, .inl (G.2 0, n_sr, .inl f_sr)), (a_cd, .inl (G.2 0, n_cd, .inl f_cd)), (a_hd, .inl (G.2 0, n_hd, .inl f_hd)), (a_g, .inr (6, [.int 6, .int 5, .ref a_gn, .int e_g])), (a_gn, .inl (G.2 0, 30, .inl f_g)), (a_p, .inr (6, [.int 8, .int 5, .ref a_pn, .int e_p])), (a_pn, .inl (G.2 0, 40, .inl f_p))] H := hP
          have hD : va_D A [(a_k, .inr (5, [.ref a_h, .ref a_j, .ref a_pt, .int e_ln, .int e_se, .int e_lh, .int e_br, .int e_we, .int e_me, .int e_ce, .int e_wy, .int e_ho, .int 1])), (a_h, .inr (1, [.long e_wa, .int e_le, .int e_st, .int e_fo, .int e_lc, .ref a_l, .ref a_g, .ref a_b, .ref a_s, .ref a_p, .ref a_w, .long e_gb, .ref a_bb])), (a_j, .inr (2, [.ref a_as, .ref a_sk])), (a_as, .inl (G.2 0, 8, .inl f_as)), (a_sk, .inl (G.2 1, 50, .inr (.inl f_sk))), (a_l, .inl (G.2 4, 6, .inr (.inr (.inr (.inr f_l))))), (a_lo, .inr (3, [.int e_cl, .ref a_hd, .ref a_sr, .ref a_cd])), (a_sr, .inl (G.2 0, n_sr, .inl f_sr)), (a_cd, .inl (G.2 0, n_cd, .inl f_cd)), (a_hd, .inl (G.2 0, n_hd, .inl f_hd)), (a_g, .inr (6, [.int 6, .int 5, .ref a_gn, .int e_g])), (a_gn, .inl (G.2 0, 30, .inl f_g)), (a_p, .inr (6, [.int 8, .int 5, .ref a_pn, .int e_p])), (a_pn, .inl (G.2 0, 40, .inl f_p))] := hD
          refine lv_goto (tgt := 68) hx hb dX5_meetGlass_64 (by decide) ?_
          rcases e_in with e_in | e_in
          · exact absurd e_in (g_notin i_1)
          · exact absurd e_in (g_notin i_8)
        ·
          have i_9 : 0 ≤ z11.toInt ∧ z11.toInt < e_p.toInt := i_9
          have i_10 : tget f_p e_p.toInt 5 z11.toInt (0 : Int32).toInt = e_ce := i_10
          obtain ⟨hP, hD⟩ := va_join (wr := [(a_k, .inr (5, [.ref a_h, .ref a_j, .ref a_pt, .int e_ln, .int e_se, .int e_lh, .int e_br, .int e_we, .int e_me, .int e_ce, .int e_wy, .int e_ho, .int 1])), (a_h, .inr (1, [.long e_wa, .int e_le, .int e_st, .int e_fo, .int e_lc, .ref a_l, .ref a_g, .ref a_b, .ref a_s, .ref a_p, .ref a_w, .long e_gb, .ref a_bb])), (a_j, .inr (2, [.ref a_as, .ref a_sk])), (a_as, .inl (G.2 0, 8, .inl f_as)), (a_sk, .inl (G.2 1, 50, .inr (.inl f_sk))), (a_l, .inl (G.2 4, 6, .inr (.inr (.inr (.inr f_l))))), (a_lo, .inr (3, [.int e_cl, .ref a_hd, .ref a_sr, .ref a_cd])), (a_sr, .inl (G.2 0, n_sr, .inl f_sr)), (a_cd, .inl (G.2 0, n_cd, .inl f_cd)), (a_hd, .inl (G.2 0, n_hd, .inl f_hd)), (a_g, .inr (6, [.int 6, .int 5, .ref a_gn, .int e_g])), (a_gn, .inl (G.2 0, 30, .inl f_g))]) (w1 := [(a_p, .inr (6, [.int 8, .int 5, .ref a_pn, .int e_p])), (a_pn, .inl (G.2 0, 40, .inl f_p))]) hP hD [2, 3] [0, 1, 4, 5, 6, 7, 8, 9, 10, 11, 12, 13] rfl rfl (by decide) (by decide) hk1 hFc hP1 hD1
          generalize H1 = H at hP hS ⊢
          have hP : va_P G.1 vwCl [(a_k, .inr (5, [.ref a_h, .ref a_j, .ref a_pt, .int e_ln, .int e_se, .int e_lh, .int e_br, .int e_we, .int e_me, .int e_ce, .int e_wy, .int e_ho, .int 1])), (a_h, .inr (1, [.long e_wa, .int e_le, .int e_st, .int e_fo, .int e_lc, .ref a_l, .ref a_g, .ref a_b, .ref a_s, .ref a_p, .ref a_w, .long e_gb, .ref a_bb])), (a_j, .inr (2, [.ref a_as, .ref a_sk])), (a_as, .inl (G.2 0, 8, .inl f_as)), (a_sk, .inl (G.2 1, 50, .inr (.inl f_sk))), (a_l, .inl (G.2 4, 6, .inr (.inr (.inr (.inr f_l))))), (a_lo, .inr (3, [.int e_cl, .ref a_hd, .ref a_sr, .ref a_cd])), (a_sr, .inl (G.2 0, n_sr, .inl f_sr)), (a_cd, .inl (G.2 0, n_cd, .inl f_cd)), (a_hd, .inl (G.2 0, n_hd, .inl f_hd)), (a_g, .inr (6, [.int 6, .int 5, .ref a_gn, .int e_g])), (a_gn, .inl (G.2 0, 30, .inl f_g)), (a_p, .inr (6, [.int 8, .int 5, .ref a_pn, .int e_p])), (a_pn, .inl (G.2 0, 40, .inl f_p))] H := hP
          have hD : va_D A [(a_k, .inr (5, [.ref a_h, .ref a_j, .ref a_pt, .int e_ln, .int e_se, .int e_lh, .int e_br, .int e_we, .int e_me, .int e_ce, .int e_wy, .int e_ho, .int 1])), (a_h, .inr (1, [.long e_wa, .int e_le, .int e_st, .int e_fo, .int e_lc, .ref a_l, .ref a_g, .ref a_b, .ref a_s, .ref a_p, .ref a_w, .long e_gb, .ref a_bb])), (a_j, .inr (2, [.ref a_as, .ref a_sk])), (a_as, .inl (G.2 0, 8, .inl f_as)), (a_sk, .inl (G.2 1, 50, .inr (.inl f_sk))), (a_l, .inl (G.2 4, 6, .inr (.inr (.inr (.inr f_l))))), (a_lo, .inr (3, [.int e_cl, .ref a_hd, .ref a_sr, .ref a_cd])), (a_sr, .inl (G.2 0, n_sr, .inl f_sr)), (a_cd, .inl (G.2 0, n_cd, .inl f_cd)), (a_hd, .inl (G.2 0, n_hd, .inl f_hd)), (a_g, .inr (6, [.int 6, .int 5, .ref a_gn, .int e_g])), (a_gn, .inl (G.2 0, 30, .inl f_g)), (a_p, .inr (6, [.int 8, .int 5, .ref a_pn, .int e_p])), (a_pn, .inl (G.2 0, 40, .inl f_p))] := hD
          refine g5_ti (v := z11) y12 ?_
          refine lv_goto (tgt := 68) hx hb dX5_meetGlass_64 (by decide) ?_
          refine lv_istore_n (lv' := [(3, .int z11), (2, .ref a_p), (1, .int (-1)), (0, .ref a_k)]) hx hb dX5_meetGlass_68 rfl hl (by decide) rfl (fun ls hl => ?_)
          refine lv_iload_n hx hb dX5_meetGlass_69 rfl (lv_at hl 2 rfl) ?_
          refine lv_iconst (v := (-1)) hx hb dX5_meetGlass_70 (by decide) ?_
          refine lv_icmp_ne (tgt := 81) hx hb dX5_meetGlass_71 (by decide) (fun c_13 => ?_) (fun c_13 => ?_)
          ·
            exact absurd c_13 (by decide)
          ·
            refine lv_bipush (v := 6) hx hb dX5_meetGlass_74 (by decide) ?_
            refine lv_iload_n hx hb dX5_meetGlass_76 rfl (lv_at hl 0 rfl) ?_
            refine lv_iadd hx hb dX5_meetGlass_77 ?_
            have t_14 : (6 + z11).toInt = 6 + z11.toInt := g5_iadd (a := 6) (b := z11.toInt) (by decide) (by rfl) (by omega) (by omega)
            refine lv_goto (tgt := 82) hx hb dX5_meetGlass_78 (by decide) ?_
            refine lv_istore (lv' := [(4, .int (6 + z11)), (3, .int z11), (2, .ref a_p), (1, .int (-1)), (0, .ref a_k)]) hx hb dX5_meetGlass_82 hl (by decide) rfl (fun ls hl => ?_)
            refine k_mgpL1 G a_k a_h a_g a_gn a_p a_pn a_j a_as a_sk a_l a_lo a_sr a_cd a_hd a_pt a_b a_s a_w a_bb n_sr n_cd n_hd e_ln e_se e_lh e_br e_we e_me e_ce e_wy e_ho 1 e_le e_st e_fo e_lc e_wa e_gb e_g f_g e_p f_p f_as f_sk f_l e_cl f_sr f_cd f_hd z11 (6 + z11) hx hb hml hown hts hK hN hT hA (hP.sub [0, 1, 10, 11, 12, 13, 2, 3, 4, 5, 6, 7, 8, 9] rfl) (hD.sub [0, 1, 10, 11, 12, 13, 2, 3, 4, 5, 6, 7, 8, 9] (by decide) rfl) hS (lv_sub hl [4, 2, 1, 0] rfl) ⟨by omega, by omega⟩ ⟨by omega, by omega⟩ ⟨by omega, by omega⟩ ⟨by omega, by omega⟩ ⟨by decide, by decide⟩ ⟨by omega, by omega⟩ ⟨by omega, by omega⟩ ⟨by omega, by omega⟩ ⟨by omega, by omega⟩ (e_gk) (e_pk) (e_f) (e_a) (e_hn) (e_hs) (e_hk) (e_c) (by omega) (fun pc1 hd o_b o_w o_m o_y o_h o_v o_a o_k ls H locs hP hD hS i_b i_y i_h i_v => ?_)
            have hP : va_P G.1 vwCl [(a_k, .inr (5, [.ref a_h, .ref a_j, .ref a_pt, .int e_ln, .int e_se, .int e_lh, .int o_b, .int o_w, .int o_m, .int e_ce, .int o_y, .int o_h, .int o_v])), (a_h, .inr (1, [.long e_wa, .int e_le, .int e_st, .int e_fo, .int e_lc, .ref a_l, .ref a_g, .ref a_b, .ref a_s, .ref a_p, .ref a_w, .long e_gb, .ref a_bb])), (a_g, .inr (6, [.int 6, .int 5, .ref a_gn, .int e_g])), (a_gn, .inl (G.2 0, 30, .inl f_g)), (a_p, .inr (6, [.int 8, .int 5, .ref a_pn, .int e_p])), (a_pn, .inl (G.2 0, 40, .inl f_p)), (a_j, .inr (2, [.ref a_as, .ref a_sk])), (a_as, .inl (G.2 0, 8, .inl o_a)), (a_sk, .inl (G.2 1, 50, .inr (.inl o_k))), (a_l, .inl (G.2 4, 6, .inr (.inr (.inr (.inr f_l))))), (a_lo, .inr (3, [.int e_cl, .ref a_hd, .ref a_sr, .ref a_cd])), (a_sr, .inl (G.2 0, n_sr, .inl f_sr)), (a_cd, .inl (G.2 0, n_cd, .inl f_cd)), (a_hd, .inl (G.2 0, n_hd, .inl f_hd))] H := hP
            have hD : va_D A [(a_k, .inr (5, [.ref a_h, .ref a_j, .ref a_pt, .int e_ln, .int e_se, .int e_lh, .int o_b, .int o_w, .int o_m, .int e_ce, .int o_y, .int o_h, .int o_v])), (a_h, .inr (1, [.long e_wa, .int e_le, .int e_st, .int e_fo, .int e_lc, .ref a_l, .ref a_g, .ref a_b, .ref a_s, .ref a_p, .ref a_w, .long e_gb, .ref a_bb])), (a_g, .inr (6, [.int 6, .int 5, .ref a_gn, .int e_g])), (a_gn, .inl (G.2 0, 30, .inl f_g)), (a_p, .inr (6, [.int 8, .int 5, .ref a_pn, .int e_p])), (a_pn, .inl (G.2 0, 40, .inl f_p)), (a_j, .inr (2, [.ref a_as, .ref a_sk])), (a_as, .inl (G.2 0, 8, .inl o_a)), (a_sk, .inl (G.2 1, 50, .inr (.inl o_k))), (a_l, .inl (G.2 4, 6, .inr (.inr (.inr (.inr f_l))))), (a_lo, .inr (3, [.int e_cl, .ref a_hd, .ref a_sr, .ref a_cd])), (a_sr, .inl (G.2 0, n_sr, .inl f_sr)), (a_cd, .inl (G.2 0, n_cd, .inl f_cd)), (a_hd, .inl (G.2 0, n_hd, .inl f_hd))] := hD
            have i_b : 0 ≤ o_b.toInt ∧ o_b.toInt ≤ 1000000 := i_b
            have i_y : 0 ≤ o_y.toInt ∧ o_y.toInt ≤ 3 := i_y
            have i_h : 0 ≤ o_h.toInt ∧ o_h.toInt ≤ 23 := i_h
            have i_v : 0 ≤ o_v.toInt ∧ o_v.toInt ≤ 1 := i_v
            exact W.vret hx hb hr (fun t ht hW => ⟨⟨[(a_k, .inr (5, [.ref a_h, .ref a_j, .ref a_pt, .int e_ln, .int e_se, .int e_lh, .int o_b, .int o_w, .int o_m, .int e_ce, .int o_y, .int o_h, .int o_v])), (a_h, .inr (1, [.long e_wa, .int e_le, .int e_st, .int e_fo, .int e_lc, .ref a_l, .ref a_g, .ref a_b, .ref a_s, .ref a_p, .ref a_w, .long e_gb, .ref a_bb])), (a_g, .inr (6, [.int 6, .int 5, .ref a_gn, .int e_g])), (a_gn, .inl (G.2 0, 30, .inl f_g)), (a_p, .inr (6, [.int 8, .int 5, .ref a_pn, .int e_p])), (a_pn, .inl (G.2 0, 40, .inl f_p)), (a_j, .inr (2, [.ref a_as, .ref a_sk])), (a_as, .inl (G.2 0, 8, .inl o_a)), (a_sk, .inl (G.2 1, 50, .inr (.inl o_k))), (a_l, .inl (G.2 4, 6, .inr (.inr (.inr (.inr f_l))))), (a_lo, .inr (3, [.int e_cl, .ref a_hd, .ref a_sr, .ref a_cd])), (a_sr, .inl (G.2 0, n_sr, .inl f_sr)), (a_cd, .inl (G.2 0, n_cd, .inl f_cd)), (a_hd, .inl (G.2 0, n_hd, .inl f_hd))], rfl, ⟨o_b, o_w, o_m, o_y, o_h, o_v, o_a, o_k, ⟨by omega, by omega⟩, ⟨by omega, by omega⟩, ⟨by omega, by omega⟩, ⟨by omega, by omega⟩, rfl⟩, by rw [ht]; exact hP.sub [0, 1, 2, 3, 4, 5, 6, 7, 8, 9, 10, 11, 12, 13] rfl, hD.sub [0, 1, 2, 3, 4, 5, 6, 7, 8, 9, 10, 11, 12, 13] (by decide) rfl⟩, hS.F ht⟩) hS.2.2 hd
  ·
    have i_2 : 0 ≤ z4.toInt ∧ z4.toInt < e_g.toInt := i_2
    have i_3 : tget f_g e_g.toInt 5 z4.toInt (0 : Int32).toInt = e_ce := i_3
    obtain ⟨hP, hD⟩ := va_join (wr := [(a_k, .inr (5, [.ref a_h, .ref a_j, .ref a_pt, .int e_ln, .int e_se, .int e_lh, .int e_br, .int e_we, .int e_me, .int e_ce, .int e_wy, .int e_ho, .int 1])), (a_h, .inr (1, [.long e_wa, .int e_le, .int e_st, .int e_fo, .int e_lc, .ref a_l, .ref a_g, .ref a_b, .ref a_s, .ref a_p, .ref a_w, .long e_gb, .ref a_bb])), (a_p, .inr (6, [.int 8, .int 5, .ref a_pn, .int e_p])), (a_pn, .inl (G.2 0, 40, .inl f_p)), (a_j, .inr (2, [.ref a_as, .ref a_sk])), (a_as, .inl (G.2 0, 8, .inl f_as)), (a_sk, .inl (G.2 1, 50, .inr (.inl f_sk))), (a_l, .inl (G.2 4, 6, .inr (.inr (.inr (.inr f_l))))), (a_lo, .inr (3, [.int e_cl, .ref a_hd, .ref a_sr, .ref a_cd])), (a_sr, .inl (G.2 0, n_sr, .inl f_sr)), (a_cd, .inl (G.2 0, n_cd, .inl f_cd)), (a_hd, .inl (G.2 0, n_hd, .inl f_hd))]) (w1 := [(a_g, .inr (6, [.int 6, .int 5, .ref a_gn, .int e_g])), (a_gn, .inl (G.2 0, 30, .inl f_g))]) hP hD [2, 3] [0, 1, 4, 5, 6, 7, 8, 9, 10, 11, 12, 13] rfl rfl (by decide) (by decide) hk1 hFc hP1 hD1
    generalize H1 = H at hP hS ⊢
    have hP : va_P G.1 vwCl [(a_k, .inr (5, [.ref a_h, .ref a_j, .ref a_pt, .int e_ln, .int e_se, .int e_lh, .int e_br, .int e_we, .int e_me, .int e_ce, .int e_wy, .int e_ho, .int 1])), (a_h, .inr (1, [.long e_wa, .int e_le, .int e_st, .int e_fo, .int e_lc, .ref a_l, .ref a_g, .ref a_b, .ref a_s, .ref a_p, .ref a_w, .long e_gb, .ref a_bb])), (a_p, .inr (6, [.int 8, .int 5, .ref a_pn, .int e_p])), (a_pn, .inl (G.2 0, 40, .inl f_p)), (a_j, .inr (2, [.ref a_as, .ref a_sk])), (a_as, .inl (G.2 0, 8, .inl f_as)), (a_sk, .inl (G.2 1, 50, .inr (.inl f_sk))), (a_l, .inl (G.2 4, 6, .inr (.inr (.inr (.inr f_l))))), (a_lo, .inr (3, [.int e_cl, .ref a_hd, .ref a_sr, .ref a_cd])), (a_sr, .inl (G.2 0, n_sr, .inl f_sr)), (a_cd, .inl (G.2 0, n_cd, .inl f_cd)), (a_hd, .inl (G.2 0, n_hd, .inl f_hd)), (a_g, .inr (6, [.int 6, .int 5, .ref a_gn, .int e_g])), (a_gn, .inl (G.2 0, 30, .inl f_g))] H := hP
    have hD : va_D A [(a_k, .inr (5, [.ref a_h, .ref a_j, .ref a_pt, .int e_ln, .int e_se, .int e_lh, .int e_br, .int e_we, .int e_me, .int e_ce, .int e_wy, .int e_ho, .int 1])), (a_h, .inr (1, [.long e_wa, .int e_le, .int e_st, .int e_fo, .int e_lc, .ref a_l, .ref a_g, .ref a_b, .ref a_s, .ref a_p, .ref a_w, .long e_gb, .ref a_bb])), (a_p, .inr (6, [.int 8, .int 5, .ref a_pn, .int e_p])), (a_pn, .inl (G.2 0, 40, .inl f_p)), (a_j, .inr (2, [.ref a_as, .ref a_sk])), (a_as, .inl (G.2 0, 8, .inl f_as)), (a_sk, .inl (G.2 1, 50, .inr (.inl f_sk))), (a_l, .inl (G.2 4, 6, .inr (.inr (.inr (.inr f_l))))), (a_lo, .inr (3, [.int e_cl, .ref a_hd, .ref a_sr, .ref a_cd])), (a_sr, .inl (G.2 0, n_sr, .inl f_sr)), (a_cd, .inl (G.2 0, n_cd, .inl f_cd)), (a_hd, .inl (G.2 0, n_hd, .inl f_hd)), (a_g, .inr (6, [.int 6, .int 5, .ref a_gn, .int e_g])), (a_gn, .inl (G.2 0, 30, .inl f_g))] := hD
    refine g5_ti (v := z4) y5 ?_
    refine lv_istore_n (lv' := [(1, .int z4), (0, .ref a_k)]) hx hb dX5_meetGlass_20 rfl hl (by decide) rfl (fun ls hl => ?_)
    refine lv_iload_n hx hb dX5_meetGlass_21 rfl (lv_at hl 0 rfl) ?_
    refine lv_iconst (v := (-1)) hx hb dX5_meetGlass_22 (by decide) ?_
    refine lv_icmp_ne (tgt := 36) hx hb dX5_meetGlass_23 (by decide) (fun c_15 => ?_) (fun c_15 => ?_)
    ·
      have n_15 : gNe (z4.toInt) ((-1)) := by have z := g5_ne (a := z4.toInt) (b := (-1)) (by rfl) (by decide) c_15; unfold gNe; omega
      refine lv_aload_n hx hb dX5_meetGlass_36 rfl (lv_at hl 1 rfl) ?_
      refine va_get (D := G.1) (ci := 5) (v := .ref a_h) (C := RX5) (T := TX5) (N := 13) hx hb hts inG_X5 hown hK hP 0 rfl rfl 0 (by decide) (hts _ fl_X5_22) (fun _ h9 => h9) rfl dX5_meetGlass_37 ?_
      refine va_get (D := G.1) (ci := 1) (v := .ref a_g) (C := RX1) (T := TX1) (N := 13) hx hb hts inG_X1 hown hK hP 1 rfl rfl 6 (by decide) (hts _ fl_X5_128) (fun _ h9 => h9) rfl dX5_meetGlass_40 ?_
      refine lv_astore_n (lv' := [(2, .ref a_g), (1, .int z4), (0, .ref a_k)]) hx hb dX5_meetGlass_43 rfl hl (by decide) rfl (fun ls hl => ?_)
      refine lv_iload_n hx hb dX5_meetGlass_44 rfl (lv_at hl 1 rfl) ?_
      refine lv_iconst (v := (-1)) hx hb dX5_meetGlass_45 (by decide) ?_
      refine lv_icmp_ne (tgt := 67) hx hb dX5_meetGlass_46 (by decide) (fun c_16 => ?_) (fun c_16 => ?_)
      ·
        have n_16 : gNe (z4.toInt) ((-1)) := by have z := g5_ne (a := z4.toInt) (b := (-1)) (by rfl) (by decide) c_16; unfold gNe; omega
        refine lv_iload_n hx hb dX5_meetGlass_67 rfl (lv_at hl 1 rfl) ?_
        refine lv_istore_n (lv' := [(3, .int z4), (2, .ref a_g), (1, .int z4), (0, .ref a_k)]) hx hb dX5_meetGlass_68 rfl hl (by decide) rfl (fun ls hl => ?_)
        refine lv_iload_n hx hb dX5_meetGlass_69 rfl (lv_at hl 2 rfl) ?_
        refine lv_iconst (v := (-1)) hx hb dX5_meetGlass_70 (by decide) ?_
        refine lv_icmp_ne (tgt := 81) hx hb dX5_meetGlass_71 (by decide) (fun c_17 => ?_) (fun c_17 => ?_)
        ·
          have n_17 : gNe (z4.toInt) ((-1)) := by have z := g5_ne (a := z4.toInt) (b := (-1)) (by rfl) (by decide) c_17; unfold gNe; omega
          refine lv_iload_n hx hb dX5_meetGlass_81 rfl (lv_at hl 2 rfl) ?_
          refine lv_istore (lv' := [(4, .int z4), (3, .int z4), (2, .ref a_g), (1, .int z4), (0, .ref a_k)]) hx hb dX5_meetGlass_82 hl (by decide) rfl (fun ls hl => ?_)
          refine k_mggL1 G a_k a_h a_g a_gn a_p a_pn a_j a_as a_sk a_l a_lo a_sr a_cd a_hd a_pt a_b a_s a_w a_bb n_sr n_cd n_hd e_ln e_se e_lh e_br e_we e_me e_ce e_wy e_ho 1 e_le e_st e_fo e_lc e_wa e_gb e_g f_g e_p f_p f_as f_sk f_l e_cl f_sr f_cd f_hd z4 z4 hx hb hml hown hts hK hN hT hA (hP.sub [0, 1, 12, 13, 2, 3, 4, 5, 6, 7, 8, 9, 10, 11] rfl) (hD.sub [0, 1, 12, 13, 2, 3, 4, 5, 6, 7, 8, 9, 10, 11] (by decide) rfl) hS (lv_sub hl [4, 2, 1, 0] rfl) ⟨by omega, by omega⟩ ⟨by omega, by omega⟩ ⟨by omega, by omega⟩ ⟨by omega, by omega⟩ ⟨by decide, by decide⟩ ⟨by omega, by omega⟩ ⟨by omega, by omega⟩ ⟨by omega, by omega⟩ ⟨by omega, by omega⟩ (e_gk) (e_pk) (e_f) (e_a) (e_hn) (e_hs) (e_hk) (e_c) (by omega) (fun pc1 hd o_b o_w o_m o_y o_h o_v o_a o_k ls H locs hP hD hS i_b i_y i_h i_v => ?_)
          have hP : va_P G.1 vwCl [(a_k, .inr (5, [.ref a_h, .ref a_j, .ref a_pt, .int e_ln, .int e_se, .int e_lh, .int o_b, .int o_w, .int o_m, .int e_ce, .int o_y, .int o_h, .int o_v])), (a_h, .inr (1, [.long e_wa, .int e_le, .int e_st, .int e_fo, .int e_lc, .ref a_l, .ref a_g, .ref a_b, .ref a_s, .ref a_p, .ref a_w, .long e_gb, .ref a_bb])), (a_g, .inr (6, [.int 6, .int 5, .ref a_gn, .int e_g])), (a_gn, .inl (G.2 0, 30, .inl f_g)), (a_p, .inr (6, [.int 8, .int 5, .ref a_pn, .int e_p])), (a_pn, .inl (G.2 0, 40, .inl f_p)), (a_j, .inr (2, [.ref a_as, .ref a_sk])), (a_as, .inl (G.2 0, 8, .inl o_a)), (a_sk, .inl (G.2 1, 50, .inr (.inl o_k))), (a_l, .inl (G.2 4, 6, .inr (.inr (.inr (.inr f_l))))), (a_lo, .inr (3, [.int e_cl, .ref a_hd, .ref a_sr, .ref a_cd])), (a_sr, .inl (G.2 0, n_sr, .inl f_sr)), (a_cd, .inl (G.2 0, n_cd, .inl f_cd)), (a_hd, .inl (G.2 0, n_hd, .inl f_hd))] H := hP
          have hD : va_D A [(a_k, .inr (5, [.ref a_h, .ref a_j, .ref a_pt, .int e_ln, .int e_se, .int e_lh, .int o_b, .int o_w, .int o_m, .int e_ce, .int o_y, .int o_h, .int o_v])), (a_h, .inr (1, [.long e_wa, .int e_le, .int e_st, .int e_fo, .int e_lc, .ref a_l, .ref a_g, .ref a_b, .ref a_s, .ref a_p, .ref a_w, .long e_gb, .ref a_bb])), (a_g, .inr (6, [.int 6, .int 5, .ref a_gn, .int e_g])), (a_gn, .inl (G.2 0, 30, .inl f_g)), (a_p, .inr (6, [.int 8, .int 5, .ref a_pn, .int e_p])), (a_pn, .inl (G.2 0, 40, .inl f_p)), (a_j, .inr (2, [.ref a_as, .ref a_sk])), (a_as, .inl (G.2 0, 8, .inl o_a)), (a_sk, .inl (G.2 1, 50, .inr (.inl o_k))), (a_l, .inl (G.2 4, 6, .inr (.inr (.inr (.inr f_l))))), (a_lo, .inr (3, [.int e_cl, .ref a_hd, .ref a_sr, .ref a_cd])), (a_sr, .inl (G.2 0, n_sr, .inl f_sr)), (a_cd, .inl (G.2 0, n_cd, .inl f_cd)), (a_hd, .inl (G.2 0, n_hd, .inl f_hd))] := hD
          have i_b : 0 ≤ o_b.toInt ∧ o_b.toInt ≤ 1000000 := i_b
          have i_y : 0 ≤ o_y.toInt ∧ o_y.toInt ≤ 3 := i_y
          have i_h : 0 ≤ o_h.toInt ∧ o_h.toInt ≤ 23 := i_h
          have i_v : 0 ≤ o_v.toInt ∧ o_v.toInt ≤ 1 := i_v
          exact W.vret hx hb hr (fun t ht hW => ⟨⟨[(a_k, .inr (5, [.ref a_h, .ref a_j, .ref a_pt, .int e_ln, .int e_se, .int e_lh, .int o_b, .int o_w, .int o_m, .int e_ce, .int o_y, .int o_h, .int o_v])), (a_h, .inr (1, [.long e_wa, .int e_le, .int e_st, .int e_fo, .int e_lc, .ref a_l, .ref a_g, .ref a_b, .ref a_s, .ref a_p, .ref a_w, .long e_gb, .ref a_bb])), (a_g, .inr (6, [.int 6, .int 5, .ref a_gn, .int e_g])), (a_gn, .inl (G.2 0, 30, .inl f_g)), (a_p, .inr (6, [.int 8, .int 5, .ref a_pn, .int e_p])), (a_pn, .inl (G.2 0, 40, .inl f_p)), (a_j, .inr (2, [.ref a_as, .ref a_sk])), (a_as, .inl (G.2 0, 8, .inl o_a)), (a_sk, .inl (G.2 1, 50, .inr (.inl o_k))), (a_l, .inl (G.2 4, 6, .inr (.inr (.inr (.inr f_l))))), (a_lo, .inr (3, [.int e_cl, .ref a_hd, .ref a_sr, .ref a_cd])), (a_sr, .inl (G.2 0, n_sr, .inl f_sr)), (a_cd, .inl (G.2 0, n_cd, .inl f_cd)), (a_hd, .inl (G.2 0, n_hd, .inl f_hd))], rfl, ⟨o_b, o_w, o_m, o_y, o_h, o_v, o_a, o_k, ⟨by omega, by omega⟩, ⟨by omega, by omega⟩, ⟨by omega, by omega⟩, ⟨by omega, by omega⟩, rfl⟩, by rw [ht]; exact hP.sub [0, 1, 2, 3, 4, 5, 6, 7, 8, 9, 10, 11, 12, 13] rfl, hD.sub [0, 1, 2, 3, 4, 5, 6, 7, 8, 9, 10, 11, 12, 13] (by decide) rfl⟩, hS.F ht⟩) hS.2.2 hd
        ·
          have i_17 : z4.toInt = (-1) := by have z := g5_neN (a := z4.toInt) (b := (-1)) (by rfl) (by decide) c_17; omega
          omega
      ·
        have i_16 : z4.toInt = (-1) := by have z := g5_neN (a := z4.toInt) (b := (-1)) (by rfl) (by decide) c_16; omega
        omega
    ·
      have i_15 : z4.toInt = (-1) := by have z := g5_neN (a := z4.toInt) (b := (-1)) (by rfl) (by decide) c_15; omega
      omega
theorem dX11_beside_0 : decode cX11_beside 0 = .ok (.iload_n 1, 1) := by decide +kernel
theorem dX11_beside_1 : decode cX11_beside 1 = .ok (.tableswitch 93 0 3 #[31, 46, 63, 78], 31) := by decide +kernel
theorem dX11_beside_32 : decode cX11_beside 32 = .ok (.iload_n 0, 1) := by decide +kernel
theorem dX11_beside_33 : decode cX11_beside 33 = .ok (.bipush 8, 2) := by decide +kernel
theorem dX11_beside_35 : decode cX11_beside 35 = .ok (.if_icmp .lt 10, 3) := by decide +kernel
theorem dX11_beside_38 : decode cX11_beside 38 = .ok (.iload_n 0, 1) := by decide +kernel
theorem dX11_beside_39 : decode cX11_beside 39 = .ok (.bipush 8, 2) := by decide +kernel
theorem dX11_beside_41 : decode cX11_beside 41 = .ok (.isub, 1) := by decide +kernel
theorem dX11_beside_42 : decode cX11_beside 42 = .ok (.goto 4, 3) := by decide +kernel
theorem dX11_beside_45 : decode cX11_beside 45 = .ok (.iconst (-1), 1) := by decide +kernel
theorem dX11_beside_46 : decode cX11_beside 46 = .ok (.ireturn, 1) := by decide +kernel
theorem dX11_beside_47 : decode cX11_beside 47 = .ok (.iload_n 0, 1) := by decide +kernel
theorem dX11_beside_48 : decode cX11_beside 48 = .ok (.bipush 7, 2) := by decide +kernel
theorem dX11_beside_50 : decode cX11_beside 50 = .ok (.iand, 1) := by decide +kernel
theorem dX11_beside_51 : decode cX11_beside 51 = .ok (.bipush 7, 2) := by decide +kernel
theorem dX11_beside_53 : decode cX11_beside 53 = .ok (.if_icmp .ge 9, 3) := by decide +kernel
theorem dX11_beside_56 : decode cX11_beside 56 = .ok (.iload_n 0, 1) := by decide +kernel
theorem dX11_beside_57 : decode cX11_beside 57 = .ok (.iconst 1, 1) := by decide +kernel
theorem dX11_beside_58 : decode cX11_beside 58 = .ok (.iadd, 1) := by decide +kernel
theorem dX11_beside_59 : decode cX11_beside 59 = .ok (.goto 4, 3) := by decide +kernel
theorem dX11_beside_62 : decode cX11_beside 62 = .ok (.iconst (-1), 1) := by decide +kernel
theorem dX11_beside_63 : decode cX11_beside 63 = .ok (.ireturn, 1) := by decide +kernel
theorem dX11_beside_64 : decode cX11_beside 64 = .ok (.iload_n 0, 1) := by decide +kernel
theorem dX11_beside_65 : decode cX11_beside 65 = .ok (.bipush 56, 2) := by decide +kernel
theorem dX11_beside_67 : decode cX11_beside 67 = .ok (.if_icmp .ge 10, 3) := by decide +kernel
theorem dX11_beside_70 : decode cX11_beside 70 = .ok (.iload_n 0, 1) := by decide +kernel
theorem dX11_beside_71 : decode cX11_beside 71 = .ok (.bipush 8, 2) := by decide +kernel
theorem dX11_beside_73 : decode cX11_beside 73 = .ok (.iadd, 1) := by decide +kernel
theorem dX11_beside_74 : decode cX11_beside 74 = .ok (.goto 4, 3) := by decide +kernel
theorem dX11_beside_77 : decode cX11_beside 77 = .ok (.iconst (-1), 1) := by decide +kernel
theorem dX11_beside_78 : decode cX11_beside 78 = .ok (.ireturn, 1) := by decide +kernel
theorem dX11_beside_79 : decode cX11_beside 79 = .ok (.iload_n 0, 1) := by decide +kernel
theorem dX11_beside_80 : decode cX11_beside 80 = .ok (.bipush 7, 2) := by decide +kernel
theorem dX11_beside_82 : decode cX11_beside 82 = .ok (.iand, 1) := by decide +kernel
theorem dX11_beside_83 : decode cX11_beside 83 = .ok (.ifCond .le 9, 3) := by decide +kernel
theorem dX11_beside_86 : decode cX11_beside 86 = .ok (.iload_n 0, 1) := by decide +kernel
theorem dX11_beside_87 : decode cX11_beside 87 = .ok (.iconst 1, 1) := by decide +kernel
theorem dX11_beside_88 : decode cX11_beside 88 = .ok (.isub, 1) := by decide +kernel
theorem dX11_beside_89 : decode cX11_beside 89 = .ok (.goto 4, 3) := by decide +kernel
theorem dX11_beside_92 : decode cX11_beside 92 = .ok (.iconst (-1), 1) := by decide +kernel
theorem dX11_beside_93 : decode cX11_beside 93 = .ok (.ireturn, 1) := by decide +kernel
theorem dX11_beside_94 : decode cX11_beside 94 = .ok (.iload_n 0, 1) := by decide +kernel
theorem dX11_beside_95 : decode cX11_beside 95 = .ok (.ireturn, 1) := by decide +kernel
set_option maxHeartbeats 4000000 in
set_option maxRecDepth 100000 in
theorem k_beside (l : Launch) (G : g5_G) (sz : Nat) (p_c : Int32) (p_w : Int32) (h_p_c : 0 ≤ p_c.toInt ∧ p_c.toInt ≤ 63) : Met l yX11_beside (wsG yX11_beside cX11_beside 2 (some .int)) ({ frames := 0, cells := 0, slots := 0, locals := 0 }) (va_Pc [.int p_c, .int p_w] (g5_P G [] sz)) (va_Qi (fun (r : Int32) (u : va_W) => (∃ (o_r : Int32), (o_r.toInt = bs p_c.toInt p_w.toInt) ∧ (-1 ≤ o_r.toInt ∧ o_r.toInt ≤ 63) ∧ (r = o_r) ∧ (u = []))) (g5_B G (va_A [] sz)) (va_A [] sz)) 0 0 (va_A [] sz) := by
  refine Met.ofW (cc := cX11_beside) (maxL := 2) (ret := (some .int)) (by decide) rfl ?_
  intro p e s m args below meth c s₁ B hml hv
  obtain ⟨rfl, hsz, hP, hK, hD0, hN, hT⟩ := hv
  have hx := B.exec
  have hb := B.bytes
  have hr := B.returns
  have hts : ∀ w ∈ tblG, w.before _ s = true := fun w h => atoms_spec (ws := (wsG yX11_beside cX11_beside 2 (some .int))) B.pre w (List.mem_cons_of_mem _ h)
  have hown : s.vm.findClass RX11 = some m.cls := findClass_of_methodNamed B.named
  have hlocks := B.notSynchronized
  subst hsz
  have hD := hD0.self (sz := s.heap.size)
  generalize hAe : va_A [] s.heap.size = A at hD hT ⊢
  have hA : ∀ q : Nat, s.heap.size ≤ q → A q := fun q h => by rw [← hAe]; exact Or.inr h
  have hS : va_S A s.heap s.heap [] := va_S.rf
  have hP : va_P G.1 vwCl [] s.heap := hP
  have hl := lv_entry ([.int p_c, .int p_w]) (n := 2) (Nat.le_of_ble_eq_true rfl)
  rw [lg_entry_eq]
  generalize (lg_sl ([.int p_c, .int p_w]) ++ List.replicate (2 - (lg_sl ([.int p_c, .int p_w])).length) Slot.unset).toArray = ls at hl ⊢
  have hl : lv_has ls 2 [(0, .int p_c), (1, .int p_w)] := hl
  refine lv_iload_n hx hb dX11_beside_0 rfl (lv_at hl 1 rfl) ?_
  rcases (show p_w.toInt = 0 ∨ p_w.toInt = 1 ∨ p_w.toInt = 2 ∨ p_w.toInt = 3 ∨ p_w.toInt < 0 ∨ p_w.toInt > 3 by omega) with s_1 | s_1 | s_1 | s_1 | s_1 | s_1
  ·
    have i_1 : p_w.toInt = 0 := by omega
    refine lv_tableIn (tgt := 32) hx hb dX11_beside_1 (by omega) (by omega) (by rw [s_1]; rfl) (by decide) ?_
    refine lv_iload_n hx hb dX11_beside_32 rfl (lv_at hl 0 rfl) ?_
    refine lv_bipush (v := 8) hx hb dX11_beside_33 (by decide) ?_
    refine lv_icmp_lt (tgt := 45) hx hb dX11_beside_35 (by decide) (fun c_2 => ?_) (fun c_2 => ?_)
    ·
      have i_2 : p_c.toInt < 8 := by have z := g5_lt (a := p_c.toInt) (b := 8) (by rfl) (by decide) c_2; omega
      refine lv_iconst (v := (-1)) hx hb dX11_beside_45 (by decide) ?_
      exact W.iret (v := (-1)) hx hb hr (fun t ht hW => ⟨⟨(-1), [], rfl, ⟨(-1), by have zc_o_r : ((-1) : Int32).toInt = (-1) := (by decide); unfold bs; omega, ⟨by have zc_o_r : ((-1) : Int32).toInt = (-1) := (by decide); omega, by have zc_o_r : ((-1) : Int32).toInt = (-1) := (by decide); omega⟩, rfl, rfl⟩, by rw [ht]; exact hP.sub [] rfl, hD.sub [] (by decide) rfl⟩, hS.F ht⟩) hS.2.2 dX11_beside_46
    ·
      have i_2 : p_c.toInt ≥ 8 := by have z := g5_ltN (a := p_c.toInt) (b := 8) (by rfl) (by decide) c_2; omega
      refine lv_iload_n hx hb dX11_beside_38 rfl (lv_at hl 0 rfl) ?_
      refine lv_bipush (v := 8) hx hb dX11_beside_39 (by decide) ?_
      refine lv_isub hx hb dX11_beside_41 ?_
      have t_3 : (p_c - 8).toInt = p_c.toInt - 8 := g5_isub (a := p_c.toInt) (b := 8) (by rfl) (by decide) (by omega) (by omega)
      refine lv_goto (tgt := 46) hx hb dX11_beside_42 (by decide) ?_
      exact W.iret (v := (p_c - 8)) hx hb hr (fun t ht hW => ⟨⟨(p_c - 8), [], rfl, ⟨(p_c - 8), by unfold bs; omega, ⟨by omega, by omega⟩, rfl, rfl⟩, by rw [ht]; exact hP.sub [] rfl, hD.sub [] (by decide) rfl⟩, hS.F ht⟩) hS.2.2 dX11_beside_46
  ·
    have i_1 : p_w.toInt = 1 := by omega
    refine lv_tableIn (tgt := 47) hx hb dX11_beside_1 (by omega) (by omega) (by rw [s_1]; rfl) (by decide) ?_
    refine lv_iload_n hx hb dX11_beside_47 rfl (lv_at hl 0 rfl) ?_
    refine lv_bipush (v := 7) hx hb dX11_beside_48 (by decide) ?_
    refine lv_iand hx hb dX11_beside_50 ?_
    have t_4 : (p_c &&& 7).toInt = p_c.toInt % 8 := g5_and7 (a := p_c.toInt) rfl (by omega)
    refine lv_bipush (v := 7) hx hb dX11_beside_51 (by decide) ?_
    refine lv_icmp_ge (tgt := 62) hx hb dX11_beside_53 (by decide) (fun c_5 => ?_) (fun c_5 => ?_)
    ·
      have i_5 : (p_c.toInt % 8) ≥ 7 := by have z := g5_ge (a := (p_c &&& 7).toInt) (b := 7) (by rfl) (by decide) c_5; omega
      refine lv_iconst (v := (-1)) hx hb dX11_beside_62 (by decide) ?_
      exact W.iret (v := (-1)) hx hb hr (fun t ht hW => ⟨⟨(-1), [], rfl, ⟨(-1), by have zc_o_r : ((-1) : Int32).toInt = (-1) := (by decide); unfold bs; omega, ⟨by have zc_o_r : ((-1) : Int32).toInt = (-1) := (by decide); omega, by have zc_o_r : ((-1) : Int32).toInt = (-1) := (by decide); omega⟩, rfl, rfl⟩, by rw [ht]; exact hP.sub [] rfl, hD.sub [] (by decide) rfl⟩, hS.F ht⟩) hS.2.2 dX11_beside_63
    ·
      have i_5 : (p_c.toInt % 8) < 7 := by have z := g5_geN (a := (p_c &&& 7).toInt) (b := 7) (by rfl) (by decide) c_5; omega
      refine lv_iload_n hx hb dX11_beside_56 rfl (lv_at hl 0 rfl) ?_
      refine lv_iconst (v := 1) hx hb dX11_beside_57 (by decide) ?_
      refine lv_iadd hx hb dX11_beside_58 ?_
      have t_6 : (p_c + 1).toInt = p_c.toInt + 1 := g5_iadd (a := p_c.toInt) (b := 1) (by rfl) (by decide) (by omega) (by omega)
      refine lv_goto (tgt := 63) hx hb dX11_beside_59 (by decide) ?_
      exact W.iret (v := (p_c + 1)) hx hb hr (fun t ht hW => ⟨⟨(p_c + 1), [], rfl, ⟨(p_c + 1), by unfold bs; omega, ⟨by omega, by omega⟩, rfl, rfl⟩, by rw [ht]; exact hP.sub [] rfl, hD.sub [] (by decide) rfl⟩, hS.F ht⟩) hS.2.2 dX11_beside_63
  ·
    have i_1 : p_w.toInt = 2 := by omega
    refine lv_tableIn (tgt := 64) hx hb dX11_beside_1 (by omega) (by omega) (by rw [s_1]; rfl) (by decide) ?_
    refine lv_iload_n hx hb dX11_beside_64 rfl (lv_at hl 0 rfl) ?_
    refine lv_bipush (v := 56) hx hb dX11_beside_65 (by decide) ?_
    refine lv_icmp_ge (tgt := 77) hx hb dX11_beside_67 (by decide) (fun c_7 => ?_) (fun c_7 => ?_)
    ·
      have i_7 : p_c.toInt ≥ 56 := by have z := g5_ge (a := p_c.toInt) (b := 56) (by rfl) (by decide) c_7; omega
      refine lv_iconst (v := (-1)) hx hb dX11_beside_77 (by decide) ?_
      exact W.iret (v := (-1)) hx hb hr (fun t ht hW => ⟨⟨(-1), [], rfl, ⟨(-1), by have zc_o_r : ((-1) : Int32).toInt = (-1) := (by decide); unfold bs; omega, ⟨by have zc_o_r : ((-1) : Int32).toInt = (-1) := (by decide); omega, by have zc_o_r : ((-1) : Int32).toInt = (-1) := (by decide); omega⟩, rfl, rfl⟩, by rw [ht]; exact hP.sub [] rfl, hD.sub [] (by decide) rfl⟩, hS.F ht⟩) hS.2.2 dX11_beside_78
    ·
      have i_7 : p_c.toInt < 56 := by have z := g5_geN (a := p_c.toInt) (b := 56) (by rfl) (by decide) c_7; omega
      refine lv_iload_n hx hb dX11_beside_70 rfl (lv_at hl 0 rfl) ?_
      refine lv_bipush (v := 8) hx hb dX11_beside_71 (by decide) ?_
      refine lv_iadd hx hb dX11_beside_73 ?_
      have t_8 : (p_c + 8).toInt = p_c.toInt + 8 := g5_iadd (a := p_c.toInt) (b := 8) (by rfl) (by decide) (by omega) (by omega)
      refine lv_goto (tgt := 78) hx hb dX11_beside_74 (by decide) ?_
      exact W.iret (v := (p_c + 8)) hx hb hr (fun t ht hW => ⟨⟨(p_c + 8), [], rfl, ⟨(p_c + 8), by unfold bs; omega, ⟨by omega, by omega⟩, rfl, rfl⟩, by rw [ht]; exact hP.sub [] rfl, hD.sub [] (by decide) rfl⟩, hS.F ht⟩) hS.2.2 dX11_beside_78
  ·
    have i_1 : p_w.toInt = 3 := by omega
    refine lv_tableIn (tgt := 79) hx hb dX11_beside_1 (by omega) (by omega) (by rw [s_1]; rfl) (by decide) ?_
    refine lv_iload_n hx hb dX11_beside_79 rfl (lv_at hl 0 rfl) ?_
    refine lv_bipush (v := 7) hx hb dX11_beside_80 (by decide) ?_
    refine lv_iand hx hb dX11_beside_82 ?_
    have t_9 : (p_c &&& 7).toInt = p_c.toInt % 8 := g5_and7 (a := p_c.toInt) rfl (by omega)
    refine lv_if_le (tgt := 92) hx hb dX11_beside_83 (by decide) (fun c_10 => ?_) (fun c_10 => ?_)
    ·
      have i_10 : (p_c.toInt % 8) ≤ 0 := by have z := g5_le (a := (p_c &&& 7).toInt) (b := 0) (by rfl) (by decide) c_10; omega
      refine lv_iconst (v := (-1)) hx hb dX11_beside_92 (by decide) ?_
      exact W.iret (v := (-1)) hx hb hr (fun t ht hW => ⟨⟨(-1), [], rfl, ⟨(-1), by have zc_o_r : ((-1) : Int32).toInt = (-1) := (by decide); unfold bs; omega, ⟨by have zc_o_r : ((-1) : Int32).toInt = (-1) := (by decide); omega, by have zc_o_r : ((-1) : Int32).toInt = (-1) := (by decide); omega⟩, rfl, rfl⟩, by rw [ht]; exact hP.sub [] rfl, hD.sub [] (by decide) rfl⟩, hS.F ht⟩) hS.2.2 dX11_beside_93
    ·
      have i_10 : (p_c.toInt % 8) > 0 := by have z := g5_leN (a := (p_c &&& 7).toInt) (b := 0) (by rfl) (by decide) c_10; omega
      refine lv_iload_n hx hb dX11_beside_86 rfl (lv_at hl 0 rfl) ?_
      refine lv_iconst (v := 1) hx hb dX11_beside_87 (by decide) ?_
      refine lv_isub hx hb dX11_beside_88 ?_
      have t_11 : (p_c - 1).toInt = p_c.toInt - 1 := g5_isub (a := p_c.toInt) (b := 1) (by rfl) (by decide) (by omega) (by omega)
      refine lv_goto (tgt := 93) hx hb dX11_beside_89 (by decide) ?_
      exact W.iret (v := (p_c - 1)) hx hb hr (fun t ht hW => ⟨⟨(p_c - 1), [], rfl, ⟨(p_c - 1), by unfold bs; omega, ⟨by omega, by omega⟩, rfl, rfl⟩, by rw [ht]; exact hP.sub [] rfl, hD.sub [] (by decide) rfl⟩, hS.F ht⟩) hS.2.2 dX11_beside_93
  ·
    have i_1 : p_w.toInt < 0 := by omega
    refine lv_tableOut (tgt := 94) hx hb dX11_beside_1 (by omega) (by decide) ?_
    refine lv_iload_n hx hb dX11_beside_94 rfl (lv_at hl 0 rfl) ?_
    exact W.iret (v := p_c) hx hb hr (fun t ht hW => ⟨⟨p_c, [], rfl, ⟨p_c, by unfold bs; omega, ⟨by omega, by omega⟩, rfl, rfl⟩, by rw [ht]; exact hP.sub [] rfl, hD.sub [] (by decide) rfl⟩, hS.F ht⟩) hS.2.2 dX11_beside_95
  ·
    have i_1 : p_w.toInt > 3 := by omega
    refine lv_tableOut (tgt := 94) hx hb dX11_beside_1 (by omega) (by decide) ?_
    refine lv_iload_n hx hb dX11_beside_94 rfl (lv_at hl 0 rfl) ?_
    exact W.iret (v := p_c) hx hb hr (fun t ht hW => ⟨⟨p_c, [], rfl, ⟨p_c, by unfold bs; omega, ⟨by omega, by omega⟩, rfl, rfl⟩, by rw [ht]; exact hP.sub [] rfl, hD.sub [] (by decide) rfl⟩, hS.F ht⟩) hS.2.2 dX11_beside_95
theorem dX11_isLook_0 : decode cX11_isLook 0 = .ok (.iload_n 0, 1) := by decide +kernel
theorem dX11_isLook_1 : decode cX11_isLook 1 = .ok (.invokestatic 97, 3) := by decide +kernel
theorem dX11_isLook_4 : decode cX11_isLook 4 = .ok (.ifCond .eq 23, 3) := by decide +kernel
theorem dX11_isLook_7 : decode cX11_isLook 7 = .ok (.iload_n 1, 1) := by decide +kernel
theorem dX11_isLook_8 : decode cX11_isLook 8 = .ok (.ifCond .lt 19, 3) := by decide +kernel
theorem dX11_isLook_11 : decode cX11_isLook 11 = .ok (.iload_n 1, 1) := by decide +kernel
theorem dX11_isLook_12 : decode cX11_isLook 12 = .ok (.iconst 4, 1) := by decide +kernel
theorem dX11_isLook_13 : decode cX11_isLook 13 = .ok (.if_icmp .ge 14, 3) := by decide +kernel
theorem dX11_isLook_16 : decode cX11_isLook 16 = .ok (.iload_n 2, 1) := by decide +kernel
theorem dX11_isLook_17 : decode cX11_isLook 17 = .ok (.invokestatic 127, 3) := by decide +kernel
theorem dX11_isLook_20 : decode cX11_isLook 20 = .ok (.ifCond .eq 7, 3) := by decide +kernel
theorem dX11_isLook_23 : decode cX11_isLook 23 = .ok (.iconst 1, 1) := by decide +kernel
theorem dX11_isLook_24 : decode cX11_isLook 24 = .ok (.goto 4, 3) := by decide +kernel
theorem dX11_isLook_27 : decode cX11_isLook 27 = .ok (.iconst 0, 1) := by decide +kernel
theorem dX11_isLook_28 : decode cX11_isLook 28 = .ok (.ireturn, 1) := by decide +kernel
theorem dX11_isCell_0 : decode cX11_isCell 0 = .ok (.iload_n 0, 1) := by decide +kernel
theorem dX11_isCell_1 : decode cX11_isCell 1 = .ok (.ifCond .lt 13, 3) := by decide +kernel
theorem dX11_isCell_4 : decode cX11_isCell 4 = .ok (.iload_n 0, 1) := by decide +kernel
theorem dX11_isCell_5 : decode cX11_isCell 5 = .ok (.bipush 64, 2) := by decide +kernel
theorem dX11_isCell_7 : decode cX11_isCell 7 = .ok (.if_icmp .ge 7, 3) := by decide +kernel
theorem dX11_isCell_10 : decode cX11_isCell 10 = .ok (.iconst 1, 1) := by decide +kernel
theorem dX11_isCell_11 : decode cX11_isCell 11 = .ok (.goto 4, 3) := by decide +kernel
theorem dX11_isCell_14 : decode cX11_isCell 14 = .ok (.iconst 0, 1) := by decide +kernel
theorem dX11_isCell_15 : decode cX11_isCell 15 = .ok (.ireturn, 1) := by decide +kernel
set_option maxHeartbeats 4000000 in
set_option maxRecDepth 100000 in
theorem kX11_isCell (l : Launch) (G : g5_G) (sz : Nat) (n0 : Int32) : Met l yX11_isCell (wsG yX11_isCell cX11_isCell 1 (some .boolean)) ({ frames := 0, cells := 0, slots := 0, locals := 0 }) (va_Pc [.int n0] (g5_P G [] sz)) (va_Qi (fun (r : Int32) (u : va_W) => ((n0.toInt < 0) ∧ (r = 0) ∧ (u = [])) ∨ ((n0.toInt ≥ 0) ∧ (n0.toInt ≥ 64) ∧ (r = 0) ∧ (u = [])) ∨ ((n0.toInt ≥ 0) ∧ (n0.toInt < 64) ∧ (r = 1) ∧ (u = []))) (g5_B G (va_A [] sz)) (va_A [] sz)) 0 0 (va_A [] sz) := by
  refine Met.ofW (cc := cX11_isCell) (maxL := 1) (ret := (some .boolean)) (by decide) rfl ?_
  intro p e s m args below meth c s₁ B hml hv
  obtain ⟨rfl, hsz, hP, hK, hD0, hN, hT⟩ := hv
  have hx := B.exec
  have hb := B.bytes
  have hr := B.returns
  have hts : ∀ w ∈ tblG, w.before _ s = true := fun w h => atoms_spec (ws := (wsG yX11_isCell cX11_isCell 1 (some .boolean))) B.pre w (List.mem_cons_of_mem _ h)
  have hown : s.vm.findClass RX11 = some m.cls := findClass_of_methodNamed B.named
  have hlocks := B.notSynchronized
  subst hsz
  have hD := hD0.self (sz := s.heap.size)
  generalize hAe : va_A [] s.heap.size = A at hD hT ⊢
  have hA : ∀ q : Nat, s.heap.size ≤ q → A q := fun q h => by rw [← hAe]; exact Or.inr h
  have hS : va_S A s.heap s.heap [] := va_S.rf
  have hP : va_P G.1 vwCl [] s.heap := hP
  have hl := lv_entry ([.int n0]) (n := 1) (Nat.le_of_ble_eq_true rfl)
  rw [lg_entry_eq]
  generalize (lg_sl ([.int n0]) ++ List.replicate (1 - (lg_sl ([.int n0])).length) Slot.unset).toArray = ls at hl ⊢
  have hl : lv_has ls 1 [(0, .int n0)] := hl
  refine lv_iload_n hx hb dX11_isCell_0 rfl (lv_at hl 0 rfl) ?_
  refine lv_if_lt (tgt := 14) hx hb dX11_isCell_1 (by decide) (fun c_1 => ?_) (fun c_1 => ?_)
  ·
    have i_1 : n0.toInt < 0 := by have z := g5_lt (a := n0.toInt) (b := 0) (by rfl) (by decide) c_1; omega
    refine lv_iconst (v := 0) hx hb dX11_isCell_14 (by decide) ?_
    exact W.zret (v := 0) hx hb hr rfl (fun t ht hW => ⟨⟨0, [], rfl, Or.inl (⟨i_1, rfl, rfl⟩), by rw [ht]; exact hP, hD⟩, hS.F ht⟩) hS.2.2 dX11_isCell_15
  ·
    have i_1 : n0.toInt ≥ 0 := by have z := g5_ltN (a := n0.toInt) (b := 0) (by rfl) (by decide) c_1; omega
    refine lv_iload_n hx hb dX11_isCell_4 rfl (lv_at hl 0 rfl) ?_
    refine lv_bipush (v := 64) hx hb dX11_isCell_5 (by decide) ?_
    refine lv_icmp_ge (tgt := 14) hx hb dX11_isCell_7 (by decide) (fun c_2 => ?_) (fun c_2 => ?_)
    ·
      have i_2 : n0.toInt ≥ 64 := by have z := g5_ge (a := n0.toInt) (b := 64) (by rfl) (by decide) c_2; omega
      refine lv_iconst (v := 0) hx hb dX11_isCell_14 (by decide) ?_
      exact W.zret (v := 0) hx hb hr rfl (fun t ht hW => ⟨⟨0, [], rfl, Or.inr (Or.inl (⟨i_1, i_2, rfl, rfl⟩)), by rw [ht]; exact hP, hD⟩, hS.F ht⟩) hS.2.2 dX11_isCell_15
    ·
      have i_2 : n0.toInt < 64 := by have z := g5_geN (a := n0.toInt) (b := 64) (by rfl) (by decide) c_2; omega
      refine lv_iconst (v := 1) hx hb dX11_isCell_10 (by decide) ?_
      refine lv_goto (tgt := 15) hx hb dX11_isCell_11 (by decide) ?_
      exact W.zret (v := 1) hx hb hr rfl (fun t ht hW => ⟨⟨1, [], rfl, Or.inr (Or.inr (⟨i_1, i_2, rfl, rfl⟩)), by rw [ht]; exact hP, hD⟩, hS.F ht⟩) hS.2.2 dX11_isCell_15
theorem ml_X11_97 : Cond.methodLink RX11 97 yX11_isCell ∈ tblG := tg 500 (by decide +kernel) (by decide +kernel)
theorem st_X11_isCell : Cond.static yX11_isCell ∈ tblG := tg 501 (by decide +kernel) (by decide +kernel)
theorem cd_X11_isCell : Cond.code yX11_isCell cX11_isCell 1 (some .boolean) ∈ tblG := tg 502 (by decide +kernel) (by decide +kernel)
theorem gW_X11_isCell : GoodIn tblG (wsG yX11_isCell cX11_isCell 1 (some .boolean)) := tgi cd_X11_isCell
theorem gS_X11_97 : GoodIn tblG (va_wsS RX11 97 yX11_isCell (wsG yX11_isCell cX11_isCell 1 (some .boolean))) := tgS ml_X11_97 st_X11_isCell ini_X11 gW_X11_isCell
theorem hs_X11_isCell : yX11_isCell.cls ≠ "java/lang/invoke/MethodHandle" ∧ yX11_isCell.cls ≠ "java/lang/invoke/VarHandle" ∧ (parseMethodDescriptor yX11_isCell.desc).map (fun d => d.parameters.length) = some 1 := by decide +kernel
theorem dX11_isHour_0 : decode cX11_isHour 0 = .ok (.iload_n 0, 1) := by decide +kernel
theorem dX11_isHour_1 : decode cX11_isHour 1 = .ok (.ifCond .lt 13, 3) := by decide +kernel
theorem dX11_isHour_4 : decode cX11_isHour 4 = .ok (.iload_n 0, 1) := by decide +kernel
theorem dX11_isHour_5 : decode cX11_isHour 5 = .ok (.bipush 24, 2) := by decide +kernel
theorem dX11_isHour_7 : decode cX11_isHour 7 = .ok (.if_icmp .ge 7, 3) := by decide +kernel
theorem dX11_isHour_10 : decode cX11_isHour 10 = .ok (.iconst 1, 1) := by decide +kernel
theorem dX11_isHour_11 : decode cX11_isHour 11 = .ok (.goto 4, 3) := by decide +kernel
theorem dX11_isHour_14 : decode cX11_isHour 14 = .ok (.iconst 0, 1) := by decide +kernel
theorem dX11_isHour_15 : decode cX11_isHour 15 = .ok (.ireturn, 1) := by decide +kernel
set_option maxHeartbeats 4000000 in
set_option maxRecDepth 100000 in
theorem kX11_isHour (l : Launch) (G : g5_G) (sz : Nat) (n0 : Int32) : Met l yX11_isHour (wsG yX11_isHour cX11_isHour 1 (some .boolean)) ({ frames := 0, cells := 0, slots := 0, locals := 0 }) (va_Pc [.int n0] (g5_P G [] sz)) (va_Qi (fun (r : Int32) (u : va_W) => ((n0.toInt < 0) ∧ (r = 0) ∧ (u = [])) ∨ ((n0.toInt ≥ 0) ∧ (n0.toInt ≥ 24) ∧ (r = 0) ∧ (u = [])) ∨ ((n0.toInt ≥ 0) ∧ (n0.toInt < 24) ∧ (r = 1) ∧ (u = []))) (g5_B G (va_A [] sz)) (va_A [] sz)) 0 0 (va_A [] sz) := by
  refine Met.ofW (cc := cX11_isHour) (maxL := 1) (ret := (some .boolean)) (by decide) rfl ?_
  intro p e s m args below meth c s₁ B hml hv
  obtain ⟨rfl, hsz, hP, hK, hD0, hN, hT⟩ := hv
  have hx := B.exec
  have hb := B.bytes
  have hr := B.returns
  have hts : ∀ w ∈ tblG, w.before _ s = true := fun w h => atoms_spec (ws := (wsG yX11_isHour cX11_isHour 1 (some .boolean))) B.pre w (List.mem_cons_of_mem _ h)
  have hown : s.vm.findClass RX11 = some m.cls := findClass_of_methodNamed B.named
  have hlocks := B.notSynchronized
  subst hsz
  have hD := hD0.self (sz := s.heap.size)
  generalize hAe : va_A [] s.heap.size = A at hD hT ⊢
  have hA : ∀ q : Nat, s.heap.size ≤ q → A q := fun q h => by rw [← hAe]; exact Or.inr h
  have hS : va_S A s.heap s.heap [] := va_S.rf
  have hP : va_P G.1 vwCl [] s.heap := hP
  have hl := lv_entry ([.int n0]) (n := 1) (Nat.le_of_ble_eq_true rfl)
  rw [lg_entry_eq]
  generalize (lg_sl ([.int n0]) ++ List.replicate (1 - (lg_sl ([.int n0])).length) Slot.unset).toArray = ls at hl ⊢
  have hl : lv_has ls 1 [(0, .int n0)] := hl
  refine lv_iload_n hx hb dX11_isHour_0 rfl (lv_at hl 0 rfl) ?_
  refine lv_if_lt (tgt := 14) hx hb dX11_isHour_1 (by decide) (fun c_1 => ?_) (fun c_1 => ?_)
  ·
    have i_1 : n0.toInt < 0 := by have z := g5_lt (a := n0.toInt) (b := 0) (by rfl) (by decide) c_1; omega
    refine lv_iconst (v := 0) hx hb dX11_isHour_14 (by decide) ?_
    exact W.zret (v := 0) hx hb hr rfl (fun t ht hW => ⟨⟨0, [], rfl, Or.inl (⟨i_1, rfl, rfl⟩), by rw [ht]; exact hP, hD⟩, hS.F ht⟩) hS.2.2 dX11_isHour_15
  ·
    have i_1 : n0.toInt ≥ 0 := by have z := g5_ltN (a := n0.toInt) (b := 0) (by rfl) (by decide) c_1; omega
    refine lv_iload_n hx hb dX11_isHour_4 rfl (lv_at hl 0 rfl) ?_
    refine lv_bipush (v := 24) hx hb dX11_isHour_5 (by decide) ?_
    refine lv_icmp_ge (tgt := 14) hx hb dX11_isHour_7 (by decide) (fun c_2 => ?_) (fun c_2 => ?_)
    ·
      have i_2 : n0.toInt ≥ 24 := by have z := g5_ge (a := n0.toInt) (b := 24) (by rfl) (by decide) c_2; omega
      refine lv_iconst (v := 0) hx hb dX11_isHour_14 (by decide) ?_
      exact W.zret (v := 0) hx hb hr rfl (fun t ht hW => ⟨⟨0, [], rfl, Or.inr (Or.inl (⟨i_1, i_2, rfl, rfl⟩)), by rw [ht]; exact hP, hD⟩, hS.F ht⟩) hS.2.2 dX11_isHour_15
    ·
      have i_2 : n0.toInt < 24 := by have z := g5_geN (a := n0.toInt) (b := 24) (by rfl) (by decide) c_2; omega
      refine lv_iconst (v := 1) hx hb dX11_isHour_10 (by decide) ?_
      refine lv_goto (tgt := 15) hx hb dX11_isHour_11 (by decide) ?_
      exact W.zret (v := 1) hx hb hr rfl (fun t ht hW => ⟨⟨1, [], rfl, Or.inr (Or.inr (⟨i_1, i_2, rfl, rfl⟩)), by rw [ht]; exact hP, hD⟩, hS.F ht⟩) hS.2.2 dX11_isHour_15
theorem ml_X11_127 : Cond.methodLink RX11 127 yX11_isHour ∈ tblG := tg 538 (by decide +kernel) (by decide +kernel)
theorem st_X11_isHour : Cond.static yX11_isHour ∈ tblG := tg 539 (by decide +kernel) (by decide +kernel)
theorem cd_X11_isHour : Cond.code yX11_isHour cX11_isHour 1 (some .boolean) ∈ tblG := tg 540 (by decide +kernel) (by decide +kernel)
theorem gW_X11_isHour : GoodIn tblG (wsG yX11_isHour cX11_isHour 1 (some .boolean)) := tgi cd_X11_isHour
theorem gS_X11_127 : GoodIn tblG (va_wsS RX11 127 yX11_isHour (wsG yX11_isHour cX11_isHour 1 (some .boolean))) := tgS ml_X11_127 st_X11_isHour ini_X11 gW_X11_isHour
theorem hs_X11_isHour : yX11_isHour.cls ≠ "java/lang/invoke/MethodHandle" ∧ yX11_isHour.cls ≠ "java/lang/invoke/VarHandle" ∧ (parseMethodDescriptor yX11_isHour.desc).map (fun d => d.parameters.length) = some 1 := by decide +kernel
