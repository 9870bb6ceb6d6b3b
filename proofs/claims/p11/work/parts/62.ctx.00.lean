theorem pflat_split {G : g5_G} {pre post : List LR} {r : LR} : pflat G (pre ++ r :: post) = pflat G pre ++ (lcell G r ++ pflat G post) := by
  unfold pflat; rw [List.flatMap_append, List.flatMap_cons]
theorem pflat_cons {G : g5_G} {L : List LR} {r : LR} : pflat G (r :: L) = lcell G r ++ pflat G L := by
  unfold pflat; rw [List.flatMap_cons]
set_option maxHeartbeats 4000000 in
set_option maxRecDepth 100000 in
def XBO (G : g5_G) (Lw : List LR) (a_o a_h a_im a_ke a_k a_wa a_th a_ha a_wk a_r : Nat) (e_tl : Int32) (w : va_W) : Prop := ∃ (a_rf : Nat) (a_x : Nat) (a_wd : Nat) (e_fd : Int32) (e_fpl : Int32) (e_wn : Int32) (e_lr : Int32) (f_rf : Nat → Int32) (f_x : Nat → Int32) (f_wd : Nat → Int32), w = [(a_o, .inr (11, [.ref a_h, .ref a_im, .ref a_ke, .ref a_k, .ref a_wa, .ref a_th, .ref a_ha, .ref a_wk, .ref a_r, .ref a_x, .int e_tl, .int e_fd, .int e_fpl, .ref a_wd, .int e_wn, .ref a_rf, .int e_lr])), (a_rf, .inl (G.2 0, 5, .inl f_rf)), (a_x, .inl (G.2 0, 400, .inl f_x)), (a_wd, .inl (G.2 0, 24, .inl f_wd))] ∧ (0 ≤ e_tl.toInt ∧ e_tl.toInt ≤ 400) ∧ (0 ≤ e_wn.toInt ∧ e_wn.toInt ≤ 1)
set_option maxHeartbeats 4000000 in
set_option maxRecDepth 100000 in
def XBH (G : g5_G) (Lw : List LR) (a_h : Nat) (w : va_W) : Prop := ∃ (a_p : Nat) (a_pn : Nat) (a_bb : Nat) (a_l : Nat) (a_g : Nat) (a_b : Nat) (a_s : Nat) (a_w : Nat) (e_le : Int32) (e_st : Int32) (e_fo : Int32) (e_lc : Int32) (e_wa : Int64) (e_gb : Int64) (e_p : Int32) (f_p : Nat → Int32) (f_bb : Nat → Int64) (a_gn : Nat) (e_g : Int32) (f_g : Nat → Int32) (a_bn : Nat) (e_b : Int32) (f_b : Nat → Int32) (f_l : Nat → Option Nat) (a_sn : Nat) (e_s : Int32) (f_s : Nat → Int32) (a_wn : Nat) (e_w : Int32) (f_w : Nat → Int32), w = [(a_h, .inr (1, [.long e_wa, .int e_le, .int e_st, .int e_fo, .int e_lc, .ref a_l, .ref a_g, .ref a_b, .ref a_s, .ref a_p, .ref a_w, .long e_gb, .ref a_bb])), (a_l, .inl (G.2 4, 6, .inr (.inr (.inr (.inr f_l))))), (a_g, .inr (6, [.int 6, .int 5, .ref a_gn, .int e_g])), (a_gn, .inl (G.2 0, 30, .inl f_g)), (a_b, .inr (6, [.int 5, .int 24, .ref a_bn, .int e_b])), (a_bn, .inl (G.2 0, 120, .inl f_b)), (a_s, .inr (6, [.int 10, .int 4, .ref a_sn, .int e_s])), (a_sn, .inl (G.2 0, 40, .inl f_s)), (a_p, .inr (6, [.int 8, .int 5, .ref a_pn, .int e_p])), (a_pn, .inl (G.2 0, 40, .inl f_p)), (a_w, .inr (6, [.int 6, .int 6, .ref a_wn, .int e_w])), (a_wn, .inl (G.2 0, 36, .inl f_w)), (a_bb, .inl (G.2 1, 24, .inr (.inl f_bb)))] ∧ (0 ≤ e_p.toInt ∧ e_p.toInt ≤ 8) ∧ (0 ≤ e_g.toInt ∧ e_g.toInt ≤ 6) ∧ (0 ≤ e_b.toInt ∧ e_b.toInt ≤ 5) ∧ (0 ≤ e_s.toInt ∧ e_s.toInt ≤ 10) ∧ (0 ≤ e_w.toInt ∧ e_w.toInt ≤ 6) ∧ (gOK f_g e_g.toInt) ∧ (gOK f_p e_p.toInt) ∧ (inT e_gb f_g e_g.toInt) ∧ (∀ r : Int, 0 ≤ r → r < e_s.toInt → 0 ≤ (tget f_s e_s.toInt 4 r (3 : Int32).toInt).toInt ∧ (tget f_s e_s.toInt 4 r (3 : Int32).toInt).toInt ≤ 1) ∧ (snS f_s e_s.toInt e_s.toInt.toNat ≤ 5) ∧ (LWS Lw f_l e_lc e_fo)
set_option maxHeartbeats 4000000 in
set_option maxRecDepth 100000 in
def XBI (G : g5_G) (Lw : List LR) (a_im a_ke : Nat) (w : va_W) : Prop := ∃ (a_h2 : Nat) (a_l2 : Nat) (a_g2 : Nat) (a_gn2 : Nat) (a_b2 : Nat) (a_bn2 : Nat) (a_s2 : Nat) (a_sn2 : Nat) (a_p2 : Nat) (a_pn2 : Nat) (a_w2 : Nat) (a_wn2 : Nat) (a_bb2 : Nat) (a_h3 : Nat) (f_ke : Nat → Int32) (e_le2 : Int32) (e_st2 : Int32) (e_fo2 : Int32) (e_lc2 : Int32) (e_wa2 : Int64) (e_gb2 : Int64) (f_l2 : Nat → Option Nat) (e_g2 : Int32) (f_g2 : Nat → Int32) (e_b2 : Int32) (f_b2 : Nat → Int32) (e_s2 : Int32) (f_s2 : Nat → Int32) (e_p2 : Int32) (f_p2 : Nat → Int32) (e_w2 : Int32) (f_w2 : Nat → Int32) (f_bb2 : Nat → Int64) (a_l3 : Nat) (a_g3 : Nat) (a_gn3 : Nat) (a_b3 : Nat) (a_bn3 : Nat) (a_s3 : Nat) (a_sn3 : Nat) (a_p3 : Nat) (a_pn3 : Nat) (a_w3 : Nat) (a_wn3 : Nat) (a_bb3 : Nat) (e_le3 : Int32) (e_st3 : Int32) (e_fo3 : Int32) (e_lc3 : Int32) (e_wa3 : Int64) (e_gb3 : Int64) (f_l3 : Nat → Option Nat) (e_g3 : Int32) (f_g3 : Nat → Int32) (e_b3 : Int32) (f_b3 : Nat → Int32) (e_s3 : Int32) (f_s3 : Nat → Int32) (e_p3 : Int32) (f_p3 : Nat → Int32) (e_w3 : Int32) (f_w3 : Nat → Int32) (f_bb3 : Nat → Int64), w = [(a_im, .inl (G.2 3, 2, .inr (.inr (.inr (.inr (va_up (va_up (fun _ => none) 0 (some a_h2)) 1 (some a_h3))))))), (a_ke, .inl (G.2 2, 2, .inl f_ke)), (a_h2, .inr (1, [.long e_wa2, .int e_le2, .int e_st2, .int e_fo2, .int e_lc2, .ref a_l2, .ref a_g2, .ref a_b2, .ref a_s2, .ref a_p2, .ref a_w2, .long e_gb2, .ref a_bb2])), (a_l2, .inl (G.2 4, 6, .inr (.inr (.inr (.inr f_l2))))), (a_g2, .inr (6, [.int 6, .int 5, .ref a_gn2, .int e_g2])), (a_gn2, .inl (G.2 0, 30, .inl f_g2)), (a_b2, .inr (6, [.int 5, .int 24, .ref a_bn2, .int e_b2])), (a_bn2, .inl (G.2 0, 120, .inl f_b2)), (a_s2, .inr (6, [.int 10, .int 4, .ref a_sn2, .int e_s2])), (a_sn2, .inl (G.2 0, 40, .inl f_s2)), (a_p2, .inr (6, [.int 8, .int 5, .ref a_pn2, .int e_p2])), (a_pn2, .inl (G.2 0, 40, .inl f_p2)), (a_w2, .inr (6, [.int 6, .int 6, .ref a_wn2, .int e_w2])), (a_wn2, .inl (G.2 0, 36, .inl f_w2)), (a_bb2, .inl (G.2 1, 24, .inr (.inl f_bb2))), (a_h3, .inr (1, [.long e_wa3, .int e_le3, .int e_st3, .int e_fo3, .int e_lc3, .ref a_l3, .ref a_g3, .ref a_b3, .ref a_s3, .ref a_p3, .ref a_w3, .long e_gb3, .ref a_bb3])), (a_l3, .inl (G.2 4, 6, .inr (.inr (.inr (.inr f_l3))))), (a_g3, .inr (6, [.int 6, .int 5, .ref a_gn3, .int e_g3])), (a_gn3, .inl (G.2 0, 30, .inl f_g3)), (a_b3, .inr (6, [.int 5, .int 24, .ref a_bn3, .int e_b3])), (a_bn3, .inl (G.2 0, 120, .inl f_b3)), (a_s3, .inr (6, [.int 10, .int 4, .ref a_sn3, .int e_s3])), (a_sn3, .inl (G.2 0, 40, .inl f_s3)), (a_p3, .inr (6, [.int 8, .int 5, .ref a_pn3, .int e_p3])), (a_pn3, .inl (G.2 0, 40, .inl f_p3)), (a_w3, .inr (6, [.int 6, .int 6, .ref a_wn3, .int e_w3])), (a_wn3, .inl (G.2 0, 36, .inl f_w3)), (a_bb3, .inl (G.2 1, 24, .inr (.inl f_bb3)))] ∧ (0 ≤ e_g2.toInt ∧ e_g2.toInt ≤ 6) ∧ (0 ≤ e_b2.toInt ∧ e_b2.toInt ≤ 5) ∧ (0 ≤ e_s2.toInt ∧ e_s2.toInt ≤ 10) ∧ (0 ≤ e_p2.toInt ∧ e_p2.toInt ≤ 8) ∧ (0 ≤ e_w2.toInt ∧ e_w2.toInt ≤ 6) ∧ (0 ≤ e_g3.toInt ∧ e_g3.toInt ≤ 6) ∧ (0 ≤ e_b3.toInt ∧ e_b3.toInt ≤ 5) ∧ (0 ≤ e_s3.toInt ∧ e_s3.toInt ≤ 10) ∧ (0 ≤ e_p3.toInt ∧ e_p3.toInt ≤ 8) ∧ (0 ≤ e_w3.toInt ∧ e_w3.toInt ≤ 6) ∧ (gOK f_g2 e_g2.toInt) ∧ (gOK f_p2 e_p2.toInt) ∧ (inT e_gb2 f_g2 e_g2.toInt) ∧ (∀ r : Int, 0 ≤ r → r < e_s2.toInt → 0 ≤ (tget f_s2 e_s2.toInt 4 r (3 : Int32).toInt).toInt ∧ (tget f_s2 e_s2.toInt 4 r (3 : Int32).toInt).toInt ≤ 1) ∧ (snS f_s2 e_s2.toInt e_s2.toInt.toNat ≤ 5) ∧ (LWS Lw f_l2 e_lc2 e_fo2) ∧ (gOK f_g3 e_g3.toInt) ∧ (gOK f_p3 e_p3.toInt) ∧ (inT e_gb3 f_g3 e_g3.toInt) ∧ (∀ r : Int, 0 ≤ r → r < e_s3.toInt → 0 ≤ (tget f_s3 e_s3.toInt 4 r (3 : Int32).toInt).toInt ∧ (tget f_s3 e_s3.toInt 4 r (3 : Int32).toInt).toInt ≤ 1) ∧ (snS f_s3 e_s3.toInt e_s3.toInt.toNat ≤ 5) ∧ (LWS Lw f_l3 e_lc3 e_fo3)
set_option maxHeartbeats 4000000 in
set_option maxRecDepth 100000 in
def XBK (G : g5_G) (Lw : List LR) (a_h a_k : Nat) (w : va_W) : Prop := ∃ (a_j : Nat) (a_as : Nat) (a_sk : Nat) (a_pt : Nat) (f_as : Nat → Int32) (f_sk : Nat → Int64) (e_ln : Int32) (e_se : Int32) (e_lh : Int32) (e_br : Int32) (e_we : Int32) (e_me : Int32) (e_ce : Int32) (e_wy : Int32) (e_ho : Int32) (e_ov : Int32) (f_pt : Nat → Int32), w = [(a_k, .inr (5, [.ref a_h, .ref a_j, .ref a_pt, .int e_ln, .int e_se, .int e_lh, .int e_br, .int e_we, .int e_me, .int e_ce, .int e_wy, .int e_ho, .int e_ov])), (a_j, .inr (2, [.ref a_as, .ref a_sk])), (a_as, .inl (G.2 0, 8, .inl f_as)), (a_sk, .inl (G.2 1, 50, .inr (.inl f_sk))), (a_pt, .inl (G.2 0, 200, .inl f_pt))] ∧ (0 ≤ e_ov.toInt ∧ e_ov.toInt ≤ 1)
set_option maxHeartbeats 4000000 in
set_option maxRecDepth 100000 in
def XBW (G : g5_G) (Lw : List LR) (a_h a_k a_wa : Nat) (w : va_W) : Prop := ∃ (a_bo : Nat) (f_bo : Nat → Int64), w = [(a_wa, .inr (10, [.ref a_h, .ref a_k, .ref a_bo])), (a_bo, .inl (G.2 1, 24, .inr (.inl f_bo)))]
set_option maxHeartbeats 4000000 in
set_option maxRecDepth 100000 in
def XBT (G : g5_G) (Lw : List LR) (a_h a_k a_th : Nat) (w : va_W) : Prop := ∃ (a_ba : Nat) (a_ad : Nat) (a_cn : Nat) (a_nx : Nat) (a_hp : Nat) (a_hl : Nat) (a_lv : Nat) (e_fu : Int32) (f_ba : Nat → Int64) (f_ad : Nat → Int32) (f_cn : Nat → Int64) (f_nx : Nat → Int64) (f_hp : Nat → Int32) (f_hl : Nat → Int32) (f_lv : Nat → Int32), w = [(a_th, .inr (7, [.ref a_h, .ref a_k, .ref a_ba, .ref a_ad, .int e_fu, .ref a_cn, .ref a_nx, .ref a_hp, .ref a_hl, .ref a_lv])), (a_ba, .inl (G.2 1, 24, .inr (.inl f_ba))), (a_ad, .inl (G.2 0, 1536, .inl f_ad)), (a_cn, .inl (G.2 1, 2048, .inr (.inl f_cn))), (a_nx, .inl (G.2 1, 2048, .inr (.inl f_nx))), (a_hp, .inl (G.2 0, 1536, .inl f_hp)), (a_hl, .inl (G.2 0, 64, .inl f_hl)), (a_lv, .inl (G.2 0, 64, .inl f_lv))]
set_option maxHeartbeats 4000000 in
set_option maxRecDepth 100000 in
def XBG (G : g5_G) (Lw : List LR) (a_h a_k a_ha : Nat) (w : va_W) : Prop := ∃ (e_f1 : Int32) (e_f2 : Int32) (e_f3 : Int32), w = [(a_ha, .inr (0, [.ref a_h, .ref a_k, .int e_f1, .int e_f2, .int e_f3]))]
set_option maxHeartbeats 4000000 in
set_option maxRecDepth 100000 in
def XBA (G : g5_G) (Lw : List LR) (a_h a_k a_wk : Nat) (w : va_W) : Prop := ∃ (a_go : Nat) (a_mt : Nat) (f_go : Nat → Int64) (f_mt : Nat → Int32), w = [(a_wk, .inr (9, [.ref a_h, .ref a_k, .ref a_go, .ref a_mt])), (a_go, .inl (G.2 1, 24, .inr (.inl f_go))), (a_mt, .inl (G.2 0, 1536, .inl f_mt))]
set_option maxHeartbeats 4000000 in
set_option maxRecDepth 100000 in
def XBR (G : g5_G) (Lw : List LR) (a_r : Nat) (w : va_W) : Prop := ∃ (a_tk : Nat) (a_kd : Nat) (a_nm : Nat) (a_pl : Nat) (a_rc : Nat) (a_rh : Nat) (a_rs : Nat) (e_rl : Int32) (e_pa : Int32) (e_at : Int32) (e_fp : Int32) (f_kd : Nat → Int32) (f_nm : Nat → Int32) (f_pl : Nat → Int32) (f_rc : Nat → Int32) (f_rh : Nat → Int32) (f_rs : Nat → Int32), w = [(a_r, .inr (4, [.ref a_tk, .ref a_rh, .ref a_rs, .ref a_rc, .int e_rl, .int e_pa, .int e_at, .int e_fp])), (a_tk, .inr (8, [.ref a_kd, .ref a_nm, .ref a_pl])), (a_kd, .inl (G.2 0, 401, .inl f_kd)), (a_nm, .inl (G.2 0, 401, .inl f_nm)), (a_pl, .inl (G.2 0, 401, .inl f_pl)), (a_rc, .inl (G.2 0, 400, .inl f_rc)), (a_rh, .inl (G.2 0, 12, .inl f_rh)), (a_rs, .inl (G.2 0, 13, .inl f_rs))] ∧ (0 ≤ e_rl.toInt ∧ e_rl.toInt ≤ 400) ∧ (0 ≤ e_pa.toInt ∧ e_pa.toInt ≤ 50) ∧ (0 ≤ e_at.toInt ∧ e_at.toInt ≤ 401) ∧ (TOKI f_kd f_nm)
set_option maxHeartbeats 4000000 in
set_option maxRecDepth 100000 in
def XW (G : g5_G) (Lw : List LR) (a_o : Nat) (e_tl : Int32) (w : va_W) : Prop := ∃ (a_h a_im a_ke a_k a_wa a_th a_ha a_wk a_r : Nat) (wO wH wI wK wW wT wG wA wR : va_W), w = wO ++ (wH ++ (wI ++ (wK ++ (wW ++ (wT ++ (wG ++ (wA ++ (wR)))))))) ∧ XBO G Lw a_o a_h a_im a_ke a_k a_wa a_th a_ha a_wk a_r e_tl wO ∧ XBH G Lw a_h wH ∧ XBI G Lw a_im a_ke wI ∧ XBK G Lw a_h a_k wK ∧ XBW G Lw a_h a_k a_wa wW ∧ XBT G Lw a_h a_k a_th wT ∧ XBG G Lw a_h a_k a_ha wG ∧ XBA G Lw a_h a_k a_wk wA ∧ XBR G Lw a_r wR
set_option maxHeartbeats 4000000 in
set_option maxRecDepth 100000 in
theorem xbO_up {G : g5_G} {Lw : List LR} {a_o a_h a_im a_ke a_k a_wa a_th a_ha a_wk a_r : Nat} {e_tl : Int32} {w : va_W} (q9 : LR) (h : XBO G Lw a_o a_h a_im a_ke a_k a_wa a_th a_ha a_wk a_r e_tl w) : XBO G (q9 :: Lw) a_o a_h a_im a_ke a_k a_wa a_th a_ha a_wk a_r e_tl w := h
set_option maxHeartbeats 4000000 in
set_option maxRecDepth 100000 in
theorem xbH_up {G : g5_G} {Lw : List LR} {a_h : Nat} {w : va_W} (q9 : LR) (h : XBH G Lw a_h w) : XBH G (q9 :: Lw) a_h w := by
  obtain ⟨a_p, a_pn, a_bb, a_l, a_g, a_b, a_s, a_w, e_le, e_st, e_fo, e_lc, e_wa, e_gb, e_p, f_p, f_bb, a_gn, e_g, f_g, a_bn, e_b, f_b, f_l, a_sn, e_s, f_s, a_wn, e_w, f_w, h9, h0, h1, h2, h3, h4, h5, h6, h7, h8, h9, h10⟩ := h
  exact ⟨a_p, a_pn, a_bb, a_l, a_g, a_b, a_s, a_w, e_le, e_st, e_fo, e_lc, e_wa, e_gb, e_p, f_p, f_bb, a_gn, e_g, f_g, a_bn, e_b, f_b, f_l, a_sn, e_s, f_s, a_wn, e_w, f_w, h9, h0, h1, h2, h3, h4, h5, h6, h7, h8, h9, lws_up h10⟩
set_option maxHeartbeats 4000000 in
set_option maxRecDepth 100000 in
theorem xbI_up {G : g5_G} {Lw : List LR} {a_im a_ke : Nat} {w : va_W} (q9 : LR) (h : XBI G Lw a_im a_ke w) : XBI G (q9 :: Lw) a_im a_ke w := by
  obtain ⟨a_h2, a_l2, a_g2, a_gn2, a_b2, a_bn2, a_s2, a_sn2, a_p2, a_pn2, a_w2, a_wn2, a_bb2, a_h3, f_ke, e_le2, e_st2, e_fo2, e_lc2, e_wa2, e_gb2, f_l2, e_g2, f_g2, e_b2, f_b2, e_s2, f_s2, e_p2, f_p2, e_w2, f_w2, f_bb2, a_l3, a_g3, a_gn3, a_b3, a_bn3, a_s3, a_sn3, a_p3, a_pn3, a_w3, a_wn3, a_bb3, e_le3, e_st3, e_fo3, e_lc3, e_wa3, e_gb3, f_l3, e_g3, f_g3, e_b3, f_b3, e_s3, f_s3, e_p3, f_p3, e_w3, f_w3, f_bb3, h9, h0, h1, h2, h3, h4, h5, h6, h7, h8, h9, h10, h11, h12, h13, h14, h15, h16, h17, h18, h19, h20, h21⟩ := h
  exact ⟨a_h2, a_l2, a_g2, a_gn2, a_b2, a_bn2, a_s2, a_sn2, a_p2, a_pn2, a_w2, a_wn2, a_bb2, a_h3, f_ke, e_le2, e_st2, e_fo2, e_lc2, e_wa2, e_gb2, f_l2, e_g2, f_g2, e_b2, f_b2, e_s2, f_s2, e_p2, f_p2, e_w2, f_w2, f_bb2, a_l3, a_g3, a_gn3, a_b3, a_bn3, a_s3, a_sn3, a_p3, a_pn3, a_w3, a_wn3, a_bb3, e_le3, e_st3, e_fo3, e_lc3, e_wa3, e_gb3, f_l3, e_g3, f_g3, e_b3, f_b3, e_s3, f_s3, e_p3, f_p3, e_w3, f_w3, f_bb3, h9, h0, h1, h2, h3, h4, h5, h6, h7, h8, h9, h10, h11, h12, h13, h14, lws_up h15, h16, h17, h18, h19, h20, lws_up h21⟩
set_option maxHeartbeats 4000000 in
set_option maxRecDepth 100000 in
theorem xbK_up {G : g5_G} {Lw : List LR} {a_h a_k : Nat} {w : va_W} (q9 : LR) (h : XBK G Lw a_h a_k w) : XBK G (q9 :: Lw) a_h a_k w := h
set_option maxHeartbeats 4000000 in
set_option maxRecDepth 100000 in
theorem xbW_up {G : g5_G} {Lw : List LR} {a_h a_k a_wa : Nat} {w : va_W} (q9 : LR) (h : XBW G Lw a_h a_k a_wa w) : XBW G (q9 :: Lw) a_h a_k a_wa w := h
set_option maxHeartbeats 4000000 in
set_option maxRecDepth 100000 in
theorem xbT_up {G : g5_G} {Lw : List LR} {a_h a_k a_th : Nat} {w : va_W} (q9 : LR) (h : XBT G Lw a_h a_k a_th w) : XBT G (q9 :: Lw) a_h a_k a_th w := h
set_option maxHeartbeats 4000000 in
set_option maxRecDepth 100000 in
theorem xbG_up {G : g5_G} {Lw : List LR} {a_h a_k a_ha : Nat} {w : va_W} (q9 : LR) (h : XBG G Lw a_h a_k a_ha w) : XBG G (q9 :: Lw) a_h a_k a_ha w := h
set_option maxHeartbeats 4000000 in
set_option maxRecDepth 100000 in
theorem xbA_up {G : g5_G} {Lw : List LR} {a_h a_k a_wk : Nat} {w : va_W} (q9 : LR) (h : XBA G Lw a_h a_k a_wk w) : XBA G (q9 :: Lw) a_h a_k a_wk w := h
set_option maxHeartbeats 4000000 in
set_option maxRecDepth 100000 in
theorem xbR_up {G : g5_G} {Lw : List LR} {a_r : Nat} {w : va_W} (q9 : LR) (h : XBR G Lw a_r w) : XBR G (q9 :: Lw) a_r w := h
set_option maxHeartbeats 4000000 in
set_option maxRecDepth 100000 in
def MW (G : g5_G) (b_o : Nat) (u_td : Int32) (w : va_W) : Prop := ∃ (b_rf : Nat) (b_ro : Nat) (b_im : Nat) (b_ke : Nat) (b_tp : Nat) (b_nl : Nat) (b_op : Nat) (b_ar : Nat) (b_pi : Nat) (b_pa : Nat) (b_ws : Nat) (b_hw : Nat) (b_se : Nat) (b_re : Nat) (b_pt : Nat) (b_ip : Nat) (b_ah : Nat) (b_be : Nat) (b_me : Nat) (b_tr : Nat) (b_ld : Nat) (b_wn : Nat) (u_th : Int32) (u_sa : Int32) (u_fd : Int32) (u_fr : Int32) (u_to : Int32) (u_so : Int32) (u_wo : Int64) (u_fa : Int32) (u_bd : Int32) (u_nc : Int32) (u_co : Int32) (u_le : Int32) (u_pd : Int32) (u_od : Int32) (u_la : Int32) (u_bk : Int32) (u_va : Int64) (u_su : Int64) (u_ce : Int32) (u_ho : Int32) (u_wy : Int32) (u_bt : Int32) (u_ps : Int32) (u_tg : Int32) (u_sn : Int32) (u_ic : Int32) (u_wd : Int32) (u_st : Int64) (u_id : Int32) (v_rf : Nat → Int32) (v_ro : Nat → Int32) (v_tp : Nat → Int32) (v_nl : Nat → Int32) (v_op : Nat → Int32) (v_ar : Nat → Int32) (v_pi : Nat → Int32) (v_pa : Nat → Int32) (v_ws : Nat → Int64) (v_hw : Nat → Int64) (v_se : Nat → Int64) (v_re : Nat → Int64) (v_pt : Nat → Int32) (v_ip : Nat → Int32) (v_ah : Nat → Int64) (v_be : Nat → Int64) (v_me : Nat → Int32) (v_tr : Nat → Int32) (v_ld : Nat → Int32) (v_wn : Nat → Int32) (v_im : Nat → Int32) (v_ke : Nat → Int32), w = [(b_o, .inr (12, [.int u_th, .int u_sa, .ref b_rf, .ref b_ro, .ref b_im, .ref b_ke, .int u_fd, .ref b_tp, .int u_td, .int u_fr, .int u_to, .int u_so, .long u_wo, .int u_fa, .int u_bd, .int u_nc, .ref b_nl, .int u_co, .ref b_op, .ref b_ar, .int u_le, .ref b_pi, .ref b_pa, .int u_pd, .int u_od, .ref b_ws, .ref b_hw, .int u_la, .ref b_se, .ref b_re, .int u_bk, .long u_va, .long u_su, .int u_ce, .int u_ho, .int u_wy, .int u_bt, .int u_ps, .ref b_pt, .int u_tg, .int u_sn, .ref b_ip, .int u_ic, .ref b_ah, .ref b_be, .ref b_me, .int u_wd, .ref b_tr, .ref b_ld, .long u_st, .ref b_wn, .int u_id])), (b_rf, .inl (G.2 0, 7, .inl v_rf)), (b_ro, .inl (G.2 0, 5740, .inl v_ro)), (b_tp, .inl (G.2 0, 400, .inl v_tp)), (b_nl, .inl (G.2 0, 96, .inl v_nl)), (b_op, .inl (G.2 0, 400, .inl v_op)), (b_ar, .inl (G.2 0, 400, .inl v_ar)), (b_pi, .inl (G.2 0, 400, .inl v_pi)), (b_pa, .inl (G.2 0, 400, .inl v_pa)), (b_ws, .inl (G.2 1, 8, .inr (.inl v_ws))), (b_hw, .inl (G.2 1, 4, .inr (.inl v_hw))), (b_se, .inl (G.2 1, 13, .inr (.inl v_se))), (b_re, .inl (G.2 1, 400, .inr (.inl v_re))), (b_pt, .inl (G.2 0, 200, .inl v_pt)), (b_ip, .inl (G.2 2, 1536, .inl v_ip)), (b_ah, .inl (G.2 1, 49152, .inr (.inl v_ah))), (b_be, .inl (G.2 1, 49152, .inr (.inl v_be))), (b_me, .inl (G.2 0, 1536, .inl v_me)), (b_tr, .inl (G.2 2, 1536, .inl v_tr)), (b_ld, .inl (G.2 2, 1536, .inl v_ld)), (b_wn, .inl (G.2 0, 24, .inl v_wn)), (b_im, .inl (G.2 0, 11480, .inl v_im)), (b_ke, .inl (G.2 2, 2, .inl v_ke))] ∧ (0 ≤ u_td.toInt ∧ u_td.toInt ≤ 400) ∧ (0 ≤ u_fr.toInt ∧ u_fr.toInt ≤ 400) ∧ (0 ≤ u_to.toInt ∧ u_to.toInt ≤ 400) ∧ (0 ≤ u_bd.toInt ∧ u_bd.toInt ≤ 1) ∧ (0 ≤ u_nc.toInt ∧ u_nc.toInt ≤ 12) ∧ (0 ≤ u_co.toInt ∧ u_co.toInt ≤ 400) ∧ (0 ≤ u_pd.toInt ∧ u_pd.toInt ≤ 400) ∧ (0 ≤ u_la.toInt ∧ u_la.toInt ≤ 4840) ∧ (0 ≤ u_bk.toInt ∧ u_bk.toInt ≤ 1) ∧ (0 ≤ u_ce.toInt ∧ u_ce.toInt ≤ 63) ∧ (0 ≤ u_ho.toInt ∧ u_ho.toInt ≤ 23) ∧ (0 ≤ u_wy.toInt ∧ u_wy.toInt ≤ 3) ∧ (0 ≤ u_bt.toInt ∧ u_bt.toInt ≤ 1000000) ∧ (0 ≤ u_ps.toInt ∧ u_ps.toInt ≤ 200) ∧ (0 ≤ u_ic.toInt ∧ u_ic.toInt ≤ 1) ∧ (0 ≤ u_id.toInt ∧ u_id.toInt ≤ 1) ∧ (MI v_ro) ∧ (TPI v_tp) ∧ (PTI v_pt) ∧ (MEI v_me) ∧ (WNI v_wn) ∧ (IMI v_im v_ke) ∧ (AH0 v_ah v_me)
def lwC (p : Program) (s : State) (m : MethodId) (meth : Method) (c : Code) (b Ls : Nat) (xs : Nat → Int32) (G : g5_G) : Prop := lw_At p s m meth c b Ls xs ∧ va_K G.1 vwCl (T5 G) s ∧ g5_N s
set_option maxHeartbeats 4000000 in
set_option maxRecDepth 100000 in
theorem lw_ctx {s : State} {b : Nat} (hts0 : ∀ w ∈ lw_tbl, w.before #[Value.ref b] s = true) (hgv : (Jvm.Cond.and given_1 narrow_1).before #[Value.ref b] s = true) : ∃ G : g5_G, va_K G.1 vwCl (T5 G) s ∧ g5_N s ∧ g5_S (fun q : Nat => s.heap.size ≤ q) s s.heap := by
  have hts : ∀ w ∈ tblG, w.before #[Value.ref b] s = true := fun w h => hts0 w (List.mem_filter.mp h).1
  obtain ⟨c0, i0, k0⟩ := u_known (C := RX0) (T := TX0) (N := 5) (n := 5) hts inG_X0 (hts _ isn_X0)
  obtain ⟨c1, i1, k1⟩ := u_known (C := RX1) (T := TX1) (N := 13) (n := 13) hts inG_X1 (hts _ isn_X1)
  obtain ⟨c2, i2, k2⟩ := u_known (C := RX2) (T := TX2) (N := 2) (n := 2) hts inG_X2 (hts _ isn_X2)
  obtain ⟨c3, i3, k3⟩ := u_known (C := RX3) (T := TX3) (N := 4) (n := 4) hts inG_X3 (hts _ isn_X3)
  obtain ⟨c4, i4, k4⟩ := u_known (C := RX4) (T := TX4) (N := 8) (n := 8) hts inG_X4 (hts _ isn_X4)
  obtain ⟨c5, i5, k5⟩ := u_known (C := RX5) (T := TX5) (N := 13) (n := 13) hts inG_X5 (hts _ isn_X5)
  obtain ⟨c6, i6, k6⟩ := u_known (C := RX6) (T := TX6) (N := 4) (n := 4) hts inG_X6 (hts _ isn_X6)
  obtain ⟨c7, i7, k7⟩ := u_known (C := RX7) (T := TX7) (N := 10) (n := 10) hts inG_X7 (hts _ isn_X7)
  obtain ⟨c8, i8, k8⟩ := u_known (C := RX8) (T := TX8) (N := 3) (n := 3) hts inG_X8 (hts _ isn_X8)
  obtain ⟨c9, i9, k9⟩ := u_known (C := RX9) (T := TX9) (N := 4) (n := 4) hts inG_X9 (hts _ isn_X9)
  obtain ⟨c10, i10, k10⟩ := u_known (C := RX10) (T := TX10) (N := 3) (n := 3) hts inG_X10 (hts _ isn_X10)
  obtain ⟨c11, i11, k11⟩ := u_known (C := RX11) (T := TX11) (N := 17) (n := 17) hts inG_X11 (hts _ isn_X11)
  obtain ⟨c12, i12, k12⟩ := u_known (C := RX12) (T := TX12) (N := 52) (n := 52) hts inG_X12 (hts _ isn_X12)
  obtain ⟨cI, kI, pI, fI, gI, hI⟩ := Cond.arrayClass_spec (hts _ acl_I)
  obtain ⟨cJ, kJ, pJ, fJ, gJ, hJ⟩ := Cond.arrayClass_spec (hts _ acl_J)
  obtain ⟨cZ, kZ, pZ, fZ, gZ, hZ⟩ := Cond.arrayClass_spec (hts _ acl_Z)
  obtain ⟨pH, cH, kH, eH, -, fH, gH, hH⟩ := Cond.arrayOver_spec (n := "LateGlass$House") (hts0 _ (List.mem_of_getElem? (i := 221) (by decide +kernel)))
  obtain ⟨pW, cW, kW, eW, -, fW, gW, hW⟩ := Cond.arrayOver_spec (n := "LateGlass$Law") (hts0 _ (List.mem_of_getElem? (i := 126) (by decide +kernel)))
  refine ⟨((fun k => if k = 0 then c0 else if k = 1 then c1 else if k = 2 then c2 else if k = 3 then c3 else if k = 4 then c4 else if k = 5 then c5 else if k = 6 then c6 else if k = 7 then c7 else if k = 8 then c8 else if k = 9 then c9 else if k = 10 then c10 else if k = 11 then c11 else c12, fun k => if k = 0 then i0 else if k = 1 then i1 else if k = 2 then i2 else if k = 3 then i3 else if k = 4 then i4 else if k = 5 then i5 else if k = 6 then i6 else if k = 7 then i7 else if k = 8 then i8 else if k = 9 then i9 else if k = 10 then i10 else if k = 11 then i11 else i12), fun k => if k = 0 then cI else if k = 1 then cJ else if k = 2 then cZ else if k = 3 then cH else cW), ⟨?_, ?_⟩, ⟨?_, ?_, ?_, ?_⟩, ?_⟩
  · intro k q hq
    match k, hq with
    | 0, hq => cases hq; exact k0
    | 1, hq => cases hq; exact k1
    | 2, hq => cases hq; exact k2
    | 3, hq => cases hq; exact k3
    | 4, hq => cases hq; exact k4
    | 5, hq => cases hq; exact k5
    | 6, hq => cases hq; exact k6
    | 7, hq => cases hq; exact k7
    | 8, hq => cases hq; exact k8
    | 9, hq => cases hq; exact k9
    | 10, hq => cases hq; exact k10
    | 11, hq => cases hq; exact k11
    | 12, hq => cases hq; exact k12
    | k + 13, hq => simp [vwCl] at hq
  · intro k q hq
    match k, hq with
    | 0, hq => cases hq; exact ⟨fun n z => ⟨fun k h => (by cases h), kI, gI, pI, hI⟩, fI⟩
    | 1, hq => cases hq; exact ⟨fun n z => ⟨fun k h => (by cases h), kJ, gJ, pJ, hJ⟩, fJ⟩
    | 2, hq => cases hq; exact ⟨fun n z => ⟨fun k h => (by cases h), kZ, gZ, pZ, hZ⟩, fZ⟩
    | 3, hq => cases hq; exact ⟨fun n z => ⟨fun k h => (by cases h), kH, fH, pH, gH⟩, kH, pH, fH, gH, eH, hH⟩
    | 4, hq => cases hq; exact ⟨fun n z => ⟨fun k h => (by cases h), kW, fW, pW, gW⟩, kW, pW, fW, gW, eW, hW⟩
    | k + 5, hq => simp [T5] at hq
  · intro w hw
    simp only [nw5, List.mem_cons, List.not_mem_nil, or_false] at hw
    rcases hw with rfl | rfl | rfl | rfl | rfl | rfl | rfl | rfl | rfl | rfl | rfl | rfl | rfl | rfl | rfl
    · exact va_Nw.of rfl (hts0 _ (List.mem_of_getElem? (i := 121) (by decide +kernel)))
    · exact va_Nw.of rfl (hts0 _ (List.mem_of_getElem? (i := 230) (by decide +kernel)))
    · exact va_Nw.of rfl (hts0 _ (List.mem_of_getElem? (i := 395) (by decide +kernel)))
    · exact va_Nw.of rfl (hts0 _ (List.mem_of_getElem? (i := 401) (by decide +kernel)))
    · exact va_Nw.of rfl (hts0 _ (List.mem_of_getElem? (i := 514) (by decide +kernel)))
    · exact va_Nw.of rfl (hts0 _ (List.mem_of_getElem? (i := 816) (by decide +kernel)))
    · exact va_Nw.of rfl (hts0 _ (List.mem_of_getElem? (i := 822) (by decide +kernel)))
    · exact va_Nw.of rfl (hts0 _ (List.mem_of_getElem? (i := 825) (by decide +kernel)))
    · exact va_Nw.of rfl (hts0 _ (List.mem_of_getElem? (i := 982) (by decide +kernel)))
    · exact va_Nw.of rfl (hts0 _ (List.mem_of_getElem? (i := 987) (by decide +kernel)))
    · exact va_Nw.of rfl (hts0 _ (List.mem_of_getElem? (i := 1007) (by decide +kernel)))
    · exact va_Nw.of rfl (hts0 _ (List.mem_of_getElem? (i := 1028) (by decide +kernel)))
    · exact va_Nw.of rfl (hts0 _ (List.mem_of_getElem? (i := 1110) (by decide +kernel)))
    · exact va_Nw.of rfl (hts0 _ (List.mem_of_getElem? (i := 1133) (by decide +kernel)))
    · exact va_Nw.of rfl (hts0 _ (List.mem_of_getElem? (i := 1134) (by decide +kernel)))
  · exact va_AO.of (hts0 _ (List.mem_of_getElem? (i := 221) (by decide +kernel)))
  · exact va_AO.of (hts0 _ (List.mem_of_getElem? (i := 126) (by decide +kernel)))
  · exact va_Nw.of rfl (hts0 _ (List.mem_of_getElem? (i := 766) (by decide +kernel)))
  · have hA : ∀ a : Nat, a < s.heap.size → ¬ (fun q : Nat => s.heap.size ≤ q) a := fun a h => Nat.not_le.mpr h
    have hF := flat_of_before _ hgv
    obtain ⟨tH, htH, hTH⟩ := va_Tof (tm := (.static "LateGlass" "HAVING" "[I")) (ty := .int) (N := 5) (f := g5_hav) (A := fun q : Nat => s.heap.size ≤ q) (by decide) (hF (.arrayOf (.static "LateGlass" "HAVING" "[I") .int) (by decide +kernel)) (va_eqt (hF (.eq (.length (.static "LateGlass" "HAVING" "[I")) (.int 5)) (by decide +kernel))) (fun j hj => by
      rcases (show j = 0 ∨ j = 1 ∨ j = 2 ∨ j = 3 ∨ j = 4 by omega) with rfl | rfl | rfl | rfl | rfl
      · exact va_eqt (hF (.eq (.elem (.static "LateGlass" "HAVING" "[I") (.int 0)) (.int (-1431655766))) (by decide +kernel))
      · exact va_eqt (hF (.eq (.elem (.static "LateGlass" "HAVING" "[I") (.int 1)) (.int (-858993460))) (by decide +kernel))
      · exact va_eqt (hF (.eq (.elem (.static "LateGlass" "HAVING" "[I") (.int 2)) (.int (-252645136))) (by decide +kernel))
      · exact va_eqt (hF (.eq (.elem (.static "LateGlass" "HAVING" "[I") (.int 3)) (.int (-16711936))) (by decide +kernel))
      · exact va_eqt (hF (.eq (.elem (.static "LateGlass" "HAVING" "[I") (.int 4)) (.int (-65536))) (by decide +kernel)))  hA
    obtain ⟨tL, htL, hTL⟩ := va_Tof (tm := (.static "LateGlass" "LOWEST_FIRST" "[I")) (ty := .int) (N := 5) (f := g5_low) (A := fun q : Nat => s.heap.size ≤ q) (by decide) (hF (.arrayOf (.static "LateGlass" "LOWEST_FIRST" "[I") .int) (by decide +kernel)) (va_eqt (hF (.eq (.length (.static "LateGlass" "LOWEST_FIRST" "[I")) (.int 5)) (by decide +kernel))) (fun j hj => by
      rcases (show j = 0 ∨ j = 1 ∨ j = 2 ∨ j = 3 ∨ j = 4 by omega) with rfl | rfl | rfl | rfl | rfl
      · exact va_eqt (hF (.eq (.elem (.static "LateGlass" "LOWEST_FIRST" "[I") (.int 0)) (.int 0)) (by decide +kernel))
      · exact va_eqt (hF (.eq (.elem (.static "LateGlass" "LOWEST_FIRST" "[I") (.int 1)) (.int 3)) (by decide +kernel))
      · exact va_eqt (hF (.eq (.elem (.static "LateGlass" "LOWEST_FIRST" "[I") (.int 2)) (.int 4)) (by decide +kernel))
      · exact va_eqt (hF (.eq (.elem (.static "LateGlass" "LOWEST_FIRST" "[I") (.int 3)) (.int 1)) (by decide +kernel))
      · exact va_eqt (hF (.eq (.elem (.static "LateGlass" "LOWEST_FIRST" "[I") (.int 4)) (.int 2)) (by decide +kernel)))  hA
    have hm : ∀ j : Nat, j < 74 → Cond.eq (.elem (.field (.string "LateGlass$Tokens" 41) "java/lang/String" "value" "[B") (.int (Int32.ofNat j))) (.int (g5_by.getD j 0)) ∈ flatC (Jvm.Cond.and given_1 narrow_1) := by decide +kernel
    obtain ⟨adK, adV, hSt, hev⟩ := vk_Sof (s := s) (N := 1) (tm := fun _ => (.string "LateGlass$Tokens" 41)) (len := [74]) (byt := [g5_by]) (A := fun q : Nat => s.heap.size ≤ q) (fun i hi => by obtain rfl : i = 0 := (by omega); decide) (fun i hi => hF (.exactly (.string "LateGlass$Tokens" 41) "java/lang/String") (by decide +kernel)) (fun i hi => hF (.eq (.field (.string "LateGlass$Tokens" 41) "java/lang/String" "coder" "B") (.int 0)) (by decide +kernel)) (fun i hi => hF (.arrayOf (.field (.string "LateGlass$Tokens" 41) "java/lang/String" "value" "[B") .byte) (by decide +kernel)) (fun i hi => by obtain rfl : i = 0 := (by omega); exact hF (.eq (.length (.field (.string "LateGlass$Tokens" 41) "java/lang/String" "value" "[B")) (.int 74)) (by decide +kernel)) (fun i hi j hj => by obtain rfl : i = 0 := (by omega); exact hF _ (hm j hj)) (fun i j hi hj hij => absurd (show i = j by omega) hij) hA
    obtain ⟨v, hv, hvr⟩ := Cond.isRef_spec (hF (.isRef (.static "jdk/internal/util/Preconditions" "SIOOBE_FORMATTER" "Ljava/util/function/BiFunction;")) (by decide +kernel))
    obtain ⟨tF, rfl⟩ : ∃ tF : Option Nat, v = va_rf tF := by
      cases v with
      | null => exact ⟨none, rfl⟩
      | ref a => exact ⟨some a, rfl⟩
      | _ => cases hvr
    exact ⟨tH, tL, adK 0, adV 0, tF, va_Zof (hts0 _ (List.mem_of_getElem? (i := 1008) (by decide +kernel))) (hts _ ini_X11) htH hA, hTH, va_Zof (hts0 _ (List.mem_of_getElem? (i := 1029) (by decide +kernel))) (hts _ ini_X11) htL hA, hTL, vk_R.of (hts0 _ (List.mem_of_getElem? (i := 667) (by decide +kernel))) (hev 0 (by omega)), ⟨fun i hi => by obtain rfl : i = 0 := (by omega); exact hSt.1 0 (by omega), fun i j hi hj _ => by omega⟩, va_Zof (hts0 _ (List.mem_of_getElem? (i := 677) (by decide +kernel))) (hts0 _ (List.mem_of_getElem? (i := 100) (by decide +kernel))) (va_eqt (hF (.eq (.static "java/lang/String" "COMPACT_STRINGS" "Z") (.int 1)) (by decide +kernel))) hA, va_Zof (hts0 _ (List.mem_of_getElem? (i := 693) (by decide +kernel))) (hts0 _ (List.mem_of_getElem? (i := 102) (by decide +kernel))) hv hA⟩
